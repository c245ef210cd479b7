def v_X6_in (p0 : Int32) (p1 : Int32) (p2 : Int32) : Int32 := if p0 < p1 then (0 : Int32) else if p2 < p0 then (0 : Int32) else (1 : Int32)
theorem q_X6_in : yX6_in.cls ≠ "java/lang/invoke/MethodHandle" ∧ yX6_in.cls ≠ "java/lang/invoke/VarHandle" ∧ (parseMethodDescriptor yX6_in.desc).map (fun d => d.parameters.length) = some 3 := ⟨by decide, by decide, by decide +kernel⟩
theorem z_X6_in (p0 : Int32) (p1 : Int32) (p2 : Int32) : narrow .boolean (.int (v_X6_in p0 p1 p2)) = .int (v_X6_in p0 p1 p2) := by
  unfold v_X6_in
  exact z_ite z_0 (z_ite z_0 z_1)
set_option maxHeartbeats 4000000 in
set_option maxRecDepth 100000 in
theorem c_X6_in (l : Launch) (G : kG) (P : Heap → Prop) (A : Nat → Prop) (p0 : Int32) (p1 : Int32) (p2 : Int32) : Met l yX6_in (Cond.code yX6_in cX6_in 3 (some .boolean) :: BIG) (rmK 0) (pcG G P [.int p0, .int p1, .int p2]) (qcI G A P (v_X6_in p0 p1 p2)) 0 0 A := by
  refine m_start (by decide) (Nat.le_of_ble_eq_true rfl) ?_
  intro p e s m args below meth c S hr hlk hnm hP hK ls hl
  have hx := S.1
  have hb := S.2.1
  have hown := S.2.2.2.1
  have hS : va_S A s.heap s.heap [] := va_S.rf
  have hl : lv_has ls 3 [(0, .int p0), (1, .int p1), (2, .int p2)] := hl
  refine lv_iload_n hx hb dX6_in_0 rfl (lv_at hl 0 rfl) ?_
  refine lv_iload_n hx hb dX6_in_1 rfl (lv_at hl 1 rfl) ?_
  refine lv_icmp_lt (tgt := 14) hx hb dX6_in_2 (by decide) (fun c1 => ?_) (fun c1 => ?_)
  · skip
    refine lv_iconst (v := 0) hx hb dX6_in_14 (by decide) ?_
    exact e_int S hr hlk rfl hK hS hP (show v_X6_in p0 p1 p2 = (0 : Int32) from (if_pos c1).trans rfl).symm dX6_in_15
  · skip
    refine lv_iload_n hx hb dX6_in_5 rfl (lv_at hl 0 rfl) ?_
    refine lv_iload_n hx hb dX6_in_6 rfl (lv_at hl 2 rfl) ?_
    refine lv_icmp_gt (tgt := 14) hx hb dX6_in_7 (by decide) (fun c2 => ?_) (fun c2 => ?_)
    · skip
      refine lv_iconst (v := 0) hx hb dX6_in_14 (by decide) ?_
      exact e_int S hr hlk rfl hK hS hP (show v_X6_in p0 p1 p2 = (0 : Int32) from (if_neg c1).trans ((if_pos c2).trans rfl)).symm dX6_in_15
    · skip
      refine lv_iconst (v := 1) hx hb dX6_in_10 (by decide) ?_
      refine lv_goto (tgt := 15) hx hb dX6_in_11 (by decide) ?_
      exact e_int S hr hlk rfl hK hS hP (show v_X6_in p0 p1 p2 = (1 : Int32) from (if_neg c1).trans ((if_neg c2).trans rfl)).symm dX6_in_15

def v_X6_isCustomer (p0 : Int32) : Int32 := v_X6_in p0 (0 : Int32) (7 : Int32)
theorem q_X6_isCustomer : yX6_isCustomer.cls ≠ "java/lang/invoke/MethodHandle" ∧ yX6_isCustomer.cls ≠ "java/lang/invoke/VarHandle" ∧ (parseMethodDescriptor yX6_isCustomer.desc).map (fun d => d.parameters.length) = some 1 := ⟨by decide, by decide, by decide +kernel⟩
theorem z_X6_isCustomer (p0 : Int32) : narrow .boolean (.int (v_X6_isCustomer p0)) = .int (v_X6_isCustomer p0) := by
  unfold v_X6_isCustomer
  exact (z_X6_in _ _ _)
set_option maxHeartbeats 4000000 in
set_option maxRecDepth 100000 in
theorem c_X6_isCustomer (l : Launch) (G : kG) (P : Heap → Prop) (A : Nat → Prop) (p0 : Int32) : Met l yX6_isCustomer (Cond.code yX6_isCustomer cX6_isCustomer 1 (some .boolean) :: BIG) (rmK 1) (pcG G P [.int p0]) (qcI G A P (v_X6_isCustomer p0)) 0 0 A := by
  refine m_start (by decide) (Nat.le_of_ble_eq_true rfl) ?_
  intro p e s m args below meth c S hr hlk hnm hP hK ls hl
  have hx := S.1
  have hb := S.2.1
  have hown := S.2.2.2.1
  have hS : va_S A s.heap s.heap [] := va_S.rf
  have hl : lv_has ls 1 [(0, .int p0)] := hl
  refine lv_iload_n hx hb dX6_isCustomer_0 rfl (lv_at hl 0 rfl) ?_
  refine lv_iconst (v := 0) hx hb dX6_isCustomer_1 (by decide) ?_
  refine lv_bipush (v := 7) hx hb dX6_isCustomer_2 (by decide) ?_
  refine r_callS S hK hP (c_X6_in l G P A _ _ _ ) (r_cs S k_198 k_196 k_197 k_5 q_X6_in ⟨Nat.le_of_ble_eq_true rfl, Nat.le_of_ble_eq_true rfl⟩ rfl rfl) rfl hl.1 rfl (Nat.le_of_ble_eq_true rfl) dX6_isCustomer_4 ⟨Nat.zero_le _, Nat.zero_le _⟩ hS (fun _ h => h) (fun H locs hP _ _ hS => ?_)
  exact e_int S hr hlk (z_X6_in _ _ _) hK hS hP (show v_X6_isCustomer p0 = v_X6_in p0 (0 : Int32) (7 : Int32) from rfl).symm dX6_isCustomer_7

theorem in6 {x a b : Int32} (h : ¬ v_X6_in x a b = 0) : a ≤ x ∧ x ≤ b := by
  unfold v_X6_in at h
  by_cases h1 : x < a
  · exact absurd (if_pos h1) h
  · rw [if_neg h1] at h
    by_cases h2 : b < x
    · exact absurd (if_pos h2) h
    · exact ⟨Int32.not_lt.mp h1, Int32.not_lt.mp h2⟩
theorem vp_in6 {x a b : Int32} {n : Nat} (h : ¬ v_X6_in x a b = 0) (ha : 0 ≤ a.toInt) (hb : b.toInt < n) : vp_in x n := by
  obtain ⟨h1, h2⟩ := in6 h
  have h3 := Int32.le_iff_toInt_le.mp h1
  have h4 := Int32.le_iff_toInt_le.mp h2
  exact vp_of (by omega) (by omega)
theorem vp_X6_isCustomer {x : Int32} {n : Nat} (h : ¬ v_X6_isCustomer x = 0) (hn : 8 ≤ n) : vp_in x n := by
  refine vp_in6 h (by decide) ?_
  have h7 : (7 : Int32).toInt = 7 := by decide
  omega

def v_X6_isYear (p0 : Int32) : Int32 := v_X6_in p0 (0 : Int32) (99 : Int32)
theorem q_X6_isYear : yX6_isYear.cls ≠ "java/lang/invoke/MethodHandle" ∧ yX6_isYear.cls ≠ "java/lang/invoke/VarHandle" ∧ (parseMethodDescriptor yX6_isYear.desc).map (fun d => d.parameters.length) = some 1 := ⟨by decide, by decide, by decide +kernel⟩
theorem z_X6_isYear (p0 : Int32) : narrow .boolean (.int (v_X6_isYear p0)) = .int (v_X6_isYear p0) := by
  unfold v_X6_isYear
  exact (z_X6_in _ _ _)
set_option maxHeartbeats 4000000 in
set_option maxRecDepth 100000 in
theorem c_X6_isYear (l : Launch) (G : kG) (P : Heap → Prop) (A : Nat → Prop) (p0 : Int32) : Met l yX6_isYear (Cond.code yX6_isYear cX6_isYear 1 (some .boolean) :: BIG) (rmK 1) (pcG G P [.int p0]) (qcI G A P (v_X6_isYear p0)) 0 0 A := by
  refine m_start (by decide) (Nat.le_of_ble_eq_true rfl) ?_
  intro p e s m args below meth c S hr hlk hnm hP hK ls hl
  have hx := S.1
  have hb := S.2.1
  have hown := S.2.2.2.1
  have hS : va_S A s.heap s.heap [] := va_S.rf
  have hl : lv_has ls 1 [(0, .int p0)] := hl
  refine lv_iload_n hx hb dX6_isYear_0 rfl (lv_at hl 0 rfl) ?_
  refine lv_iconst (v := 0) hx hb dX6_isYear_1 (by decide) ?_
  refine lv_bipush (v := 99) hx hb dX6_isYear_2 (by decide) ?_
  refine r_callS S hK hP (c_X6_in l G P A _ _ _ ) (r_cs S k_198 k_196 k_197 k_5 q_X6_in ⟨Nat.le_of_ble_eq_true rfl, Nat.le_of_ble_eq_true rfl⟩ rfl rfl) rfl hl.1 rfl (Nat.le_of_ble_eq_true rfl) dX6_isYear_4 ⟨Nat.zero_le _, Nat.zero_le _⟩ hS (fun _ h => h) (fun H locs hP _ _ hS => ?_)
  exact e_int S hr hlk (z_X6_in _ _ _) hK hS hP (show v_X6_isYear p0 = v_X6_in p0 (0 : Int32) (99 : Int32) from rfl).symm dX6_isYear_7

theorem vp_X6_isYear {x : Int32} {n : Nat} (h : ¬ v_X6_isYear x = 0) (hn : 100 ≤ n) : vp_in x n := by
  refine vp_in6 h (by decide) ?_
  have h7 : (99 : Int32).toInt = 99 := by decide
  omega

def v_X6_isAmount (p0 : Int32) : Int32 := v_X6_in p0 (1 : Int32) (99999 : Int32)
theorem q_X6_isAmount : yX6_isAmount.cls ≠ "java/lang/invoke/MethodHandle" ∧ yX6_isAmount.cls ≠ "java/lang/invoke/VarHandle" ∧ (parseMethodDescriptor yX6_isAmount.desc).map (fun d => d.parameters.length) = some 1 := ⟨by decide, by decide, by decide +kernel⟩
theorem z_X6_isAmount (p0 : Int32) : narrow .boolean (.int (v_X6_isAmount p0)) = .int (v_X6_isAmount p0) := by
  unfold v_X6_isAmount
  exact (z_X6_in _ _ _)
set_option maxHeartbeats 4000000 in
set_option maxRecDepth 100000 in
theorem c_X6_isAmount (l : Launch) (G : kG) (P : Heap → Prop) (A : Nat → Prop) (p0 : Int32) : Met l yX6_isAmount (Cond.code yX6_isAmount cX6_isAmount 1 (some .boolean) :: BIG) (rmK 1) (pcG G P [.int p0]) (qcI G A P (v_X6_isAmount p0)) 0 0 A := by
  refine m_start (by decide) (Nat.le_of_ble_eq_true rfl) ?_
  intro p e s m args below meth c S hr hlk hnm hP hK ls hl
  have hx := S.1
  have hb := S.2.1
  have hown := S.2.2.2.1
  have hS : va_S A s.heap s.heap [] := va_S.rf
  have hl : lv_has ls 1 [(0, .int p0)] := hl
  refine lv_iload_n hx hb dX6_isAmount_0 rfl (lv_at hl 0 rfl) ?_
  refine lv_iconst (v := 1) hx hb dX6_isAmount_1 (by decide) ?_
  refine lv_ldc hx hb hown (S.2.2.2.2 _ k_270) dX6_isAmount_2 ?_
  refine r_callS S hK hP (c_X6_in l G P A _ _ _ ) (r_cs S k_198 k_196 k_197 k_5 q_X6_in ⟨Nat.le_of_ble_eq_true rfl, Nat.le_of_ble_eq_true rfl⟩ rfl rfl) rfl hl.1 rfl (Nat.le_of_ble_eq_true rfl) dX6_isAmount_4 ⟨Nat.zero_le _, Nat.zero_le _⟩ hS (fun _ h => h) (fun H locs hP _ _ hS => ?_)
  exact e_int S hr hlk (z_X6_in _ _ _) hK hS hP (show v_X6_isAmount p0 = v_X6_in p0 (1 : Int32) (99999 : Int32) from rfl).symm dX6_isAmount_7

def v_X6_isNet (p0 : Int32) (p1 : Int32) (p2 : Int32) : Int32 := if v_X6_in p0 (1 : Int32) (9999 : Int32) = 0 then (0 : Int32) else if v_X6_in p1 (0 : Int32) (40 : Int32) = 0 then (0 : Int32) else if v_X6_in p2 (0 : Int32) (99 : Int32) = 0 then (0 : Int32) else (1 : Int32)
theorem q_X6_isNet : yX6_isNet.cls ≠ "java/lang/invoke/MethodHandle" ∧ yX6_isNet.cls ≠ "java/lang/invoke/VarHandle" ∧ (parseMethodDescriptor yX6_isNet.desc).map (fun d => d.parameters.length) = some 3 := ⟨by decide, by decide, by decide +kernel⟩
theorem z_X6_isNet (p0 : Int32) (p1 : Int32) (p2 : Int32) : narrow .boolean (.int (v_X6_isNet p0 p1 p2)) = .int (v_X6_isNet p0 p1 p2) := by
  unfold v_X6_isNet
  exact z_ite z_0 (z_ite z_0 (z_ite z_0 z_1))
set_option maxHeartbeats 4000000 in
set_option maxRecDepth 100000 in
theorem c_X6_isNet (l : Launch) (G : kG) (P : Heap → Prop) (A : Nat → Prop) (p0 : Int32) (p1 : Int32) (p2 : Int32) : Met l yX6_isNet (Cond.code yX6_isNet cX6_isNet 3 (some .boolean) :: BIG) (rmK 1) (pcG G P [.int p0, .int p1, .int p2]) (qcI G A P (v_X6_isNet p0 p1 p2)) 0 0 A := by
  refine m_start (by decide) (Nat.le_of_ble_eq_true rfl) ?_
  intro p e s m args below meth c S hr hlk hnm hP hK ls hl
  have hx := S.1
  have hb := S.2.1
  have hown := S.2.2.2.1
  have hS : va_S A s.heap s.heap [] := va_S.rf
  have hl : lv_has ls 3 [(0, .int p0), (1, .int p1), (2, .int p2)] := hl
  refine lv_iload_n hx hb dX6_isNet_0 rfl (lv_at hl 0 rfl) ?_
  refine lv_iconst (v := 1) hx hb dX6_isNet_1 (by decide) ?_
  refine lv_sipush (v := 9999) hx hb dX6_isNet_2 (by decide) ?_
  refine r_callS S hK hP (c_X6_in l G P A _ _ _ ) (r_cs S k_198 k_196 k_197 k_5 q_X6_in ⟨Nat.le_of_ble_eq_true rfl, Nat.le_of_ble_eq_true rfl⟩ rfl rfl) rfl hl.1 rfl (Nat.le_of_ble_eq_true rfl) dX6_isNet_5 ⟨Nat.zero_le _, Nat.zero_le _⟩ hS (fun _ h => h) (fun H locs hP _ _ hS => ?_)
  refine lv_if_eq (tgt := 35) hx hb dX6_isNet_8 (by decide) (fun c1 => ?_) (fun c1 => ?_)
  · skip
    refine lv_iconst (v := 0) hx hb dX6_isNet_35 (by decide) ?_
    exact e_int S hr hlk rfl hK hS hP (show v_X6_isNet p0 p1 p2 = (0 : Int32) from (if_pos c1).trans rfl).symm dX6_isNet_36
  · skip
    refine lv_iload_n hx hb dX6_isNet_11 rfl (lv_at hl 1 rfl) ?_
    refine lv_iconst (v := 0) hx hb dX6_isNet_12 (by decide) ?_
    refine lv_bipush (v := 40) hx hb dX6_isNet_13 (by decide) ?_
    refine r_callS S hK hP (c_X6_in l G P A _ _ _ ) (r_cs S k_198 k_196 k_197 k_5 q_X6_in ⟨Nat.le_of_ble_eq_true rfl, Nat.le_of_ble_eq_true rfl⟩ rfl rfl) rfl hl.1 rfl (Nat.le_of_ble_eq_true rfl) dX6_isNet_15 ⟨Nat.zero_le _, Nat.zero_le _⟩ hS (fun _ h => h) (fun H locs hP _ _ hS => ?_)
    refine lv_if_eq (tgt := 35) hx hb dX6_isNet_18 (by decide) (fun c2 => ?_) (fun c2 => ?_)
    · skip
      refine lv_iconst (v := 0) hx hb dX6_isNet_35 (by decide) ?_
      exact e_int S hr hlk rfl hK hS hP (show v_X6_isNet p0 p1 p2 = (0 : Int32) from (if_neg c1).trans ((if_pos c2).trans rfl)).symm dX6_isNet_36
    · skip
      refine lv_iload_n hx hb dX6_isNet_21 rfl (lv_at hl 2 rfl) ?_
      refine lv_iconst (v := 0) hx hb dX6_isNet_22 (by decide) ?_
      refine lv_bipush (v := 99) hx hb dX6_isNet_23 (by decide) ?_
      refine r_callS S hK hP (c_X6_in l G P A _ _ _ ) (r_cs S k_198 k_196 k_197 k_5 q_X6_in ⟨Nat.le_of_ble_eq_true rfl, Nat.le_of_ble_eq_true rfl⟩ rfl rfl) rfl hl.1 rfl (Nat.le_of_ble_eq_true rfl) dX6_isNet_25 ⟨Nat.zero_le _, Nat.zero_le _⟩ hS (fun _ h => h) (fun H locs hP _ _ hS => ?_)
      refine lv_if_eq (tgt := 35) hx hb dX6_isNet_28 (by decide) (fun c3 => ?_) (fun c3 => ?_)
      · skip
        refine lv_iconst (v := 0) hx hb dX6_isNet_35 (by decide) ?_
        exact e_int S hr hlk rfl hK hS hP (show v_X6_isNet p0 p1 p2 = (0 : Int32) from (if_neg c1).trans ((if_neg c2).trans ((if_pos c3).trans rfl))).symm dX6_isNet_36
      · skip
        refine lv_iconst (v := 1) hx hb dX6_isNet_31 (by decide) ?_
        refine lv_goto (tgt := 36) hx hb dX6_isNet_32 (by decide) ?_
        exact e_int S hr hlk rfl hK hS hP (show v_X6_isNet p0 p1 p2 = (1 : Int32) from (if_neg c1).trans ((if_neg c2).trans ((if_neg c3).trans rfl))).symm dX6_isNet_36

def v_X6_most (p0 : Int32) : Int32 := if p0 = (1 : Int32) then (20 : Int32) else if p0 = (4 : Int32) then (1 : Int32) else (99 : Int32)
theorem q_X6_most : yX6_most.cls ≠ "java/lang/invoke/MethodHandle" ∧ yX6_most.cls ≠ "java/lang/invoke/VarHandle" ∧ (parseMethodDescriptor yX6_most.desc).map (fun d => d.parameters.length) = some 1 := ⟨by decide, by decide, by decide +kernel⟩
set_option maxHeartbeats 4000000 in
set_option maxRecDepth 100000 in
theorem c_X6_most (l : Launch) (G : kG) (P : Heap → Prop) (A : Nat → Prop) (p0 : Int32) : Met l yX6_most (Cond.code yX6_most cX6_most 1 (some .int) :: BIG) (rmK 0) (pcG G P [.int p0]) (qcI G A P (v_X6_most p0)) 0 0 A := by
  refine m_start (by decide) (Nat.le_of_ble_eq_true rfl) ?_
  intro p e s m args below meth c S hr hlk hnm hP hK ls hl
  have hx := S.1
  have hb := S.2.1
  have hown := S.2.2.2.1
  have hS : va_S A s.heap s.heap [] := va_S.rf
  have hl : lv_has ls 1 [(0, .int p0)] := hl
  refine lv_iload_n hx hb dX6_most_0 rfl (lv_at hl 0 rfl) ?_
  refine lv_iconst (v := 1) hx hb dX6_most_1 (by decide) ?_
  refine lv_icmp_ne (tgt := 10) hx hb dX6_most_2 (by decide) (fun c1 => ?_) (fun c1 => ?_)
  · skip
    refine lv_iload_n hx hb dX6_most_10 rfl (lv_at hl 0 rfl) ?_
    refine lv_iconst (v := 4) hx hb dX6_most_11 (by decide) ?_
    refine lv_icmp_ne (tgt := 19) hx hb dX6_most_12 (by decide) (fun c2 => ?_) (fun c2 => ?_)
    · skip
      refine lv_bipush (v := 99) hx hb dX6_most_19 (by decide) ?_
      exact e_int S hr hlk rfl hK hS hP (show v_X6_most p0 = (99 : Int32) from (if_neg c1).trans ((if_neg c2).trans rfl)).symm dX6_most_21
    · skip
      refine lv_iconst (v := 1) hx hb dX6_most_15 (by decide) ?_
      refine lv_goto (tgt := 21) hx hb dX6_most_16 (by decide) ?_
      exact e_int S hr hlk rfl hK hS hP (show v_X6_most p0 = (1 : Int32) from (if_neg c1).trans ((if_pos c2).trans rfl)).symm dX6_most_21
  · skip
    refine lv_bipush (v := 20) hx hb dX6_most_5 (by decide) ?_
    refine lv_goto (tgt := 21) hx hb dX6_most_7 (by decide) ?_
    exact e_int S hr hlk rfl hK hS hP (show v_X6_most p0 = (20 : Int32) from (if_pos c1).trans rfl).symm dX6_most_21

def v_X6_of (j : Nat) (w : Nat) : Int32 := nI (233 + 12 * j + w)
theorem q_X6_of : yX6_of.cls ≠ "java/lang/invoke/MethodHandle" ∧ yX6_of.cls ≠ "java/lang/invoke/VarHandle" ∧ (parseMethodDescriptor yX6_of.desc).map (fun d => d.parameters.length) = some 2 := ⟨by decide, by decide, by decide +kernel⟩
set_option maxHeartbeats 4000000 in
set_option maxRecDepth 100000 in
theorem c_X6_of (l : Launch) (G : kG) (P : Heap → Prop) (A : Nat → Prop) (j : Nat) (w : Nat) (hj : True) (hw : True) : Met l yX6_of (Cond.code yX6_of cX6_of 2 (some .int) :: BIG) (rmK 0) (pcG G P [.int (nI j), .int (nI w)]) (qcI G A P (v_X6_of j w)) 0 0 A := by
  refine m_start (by decide) (Nat.le_of_ble_eq_true rfl) ?_
  intro p e s m args below meth c S hr hlk hnm hP hK ls hl
  have hx := S.1
  have hb := S.2.1
  have hown := S.2.2.2.1
  have hS : va_S A s.heap s.heap [] := va_S.rf
  have hl : lv_has ls 2 [(0, .int (nI j)), (1, .int (nI w))] := hl
  refine lv_sipush (v := 233) hx hb dX6_of_0 (by decide) ?_
  refine lv_bipush (v := 12) hx hb dX6_of_3 (by decide) ?_
  refine lv_iload_n hx hb dX6_of_5 rfl (lv_at hl 0 rfl) ?_
  refine lv_imul hx hb dX6_of_6 ?_
  refine r_top (v := nI (12 * j)) (pk_mul 12 j) ?_
  refine lv_iadd hx hb dX6_of_7 ?_
  refine r_top (v := nI (233 + 12 * j)) (nI_add 233 (12 * j)) ?_
  refine lv_iload_n hx hb dX6_of_8 rfl (lv_at hl 1 rfl) ?_
  refine lv_iadd hx hb dX6_of_9 ?_
  refine r_top (v := nI (233 + 12 * j + w)) (nI_add (233 + 12 * j) w) ?_
  exact e_int S hr hlk rfl hK hS hP (show v_X6_of j w = nI (233 + 12 * j + w) from rfl).symm dX6_of_10

def v_X6_isBill (u : Nat → Nat → Int32) (p1 : Int32) : Int32 := v_X6_in p1 (0 : Int32) ((u 1 6) - (1 : Int32))
theorem q_X6_isBill : yX6_isBill.cls ≠ "java/lang/invoke/MethodHandle" ∧ yX6_isBill.cls ≠ "java/lang/invoke/VarHandle" ∧ (parseMethodDescriptor yX6_isBill.desc).map (fun d => d.parameters.length) = some 1 := ⟨by decide, by decide, by decide +kernel⟩
theorem z_X6_isBill (u : Nat → Nat → Int32) (p1 : Int32) : narrow .boolean (.int (v_X6_isBill u p1)) = .int (v_X6_isBill u p1) := by
  unfold v_X6_isBill
  exact (z_X6_in _ _ _)
set_option maxHeartbeats 4000000 in
set_option maxRecDepth 100000 in
theorem c_X6_isBill (l : Launch) (G : kG) (a : Nat → Nat) (hI : gI 8 a) (u : Nat → Nat → Int32) (p1 : Int32) : Met l yX6_isBill (Cond.code yX6_isBill cX6_isBill 2 (some .boolean) :: BIG) (rmK 1) (pcG G (mP G a u) [.ref (a 0), .int p1]) (qcI G (gA 8 a) (mP G a u) (v_X6_isBill u p1)) 0 0 (gA 8 a) := by
  refine m_start (by decide) (Nat.le_of_ble_eq_true rfl) ?_
  intro p e s m args below meth c S hr hlk hnm hP hK ls hl
  have hx := S.1
  have hb := S.2.1
  have hown := S.2.2.2.1
  have hS : va_S (gA 8 a) s.heap s.heap [] := va_S.rf
  have hl : lv_has ls 2 [(0, .ref (a 0)), (1, .int p1)] := hl
  refine lv_iload_n hx hb dX6_isBill_0 rfl (lv_at hl 1 rfl) ?_
  refine lv_iconst (v := 0) hx hb dX6_isBill_1 (by decide) ?_
  refine lv_aload_n hx hb dX6_isBill_2 rfl (lv_at hl 0 rfl) ?_
  refine g_get S hK hP (i := 0) (by omega) mC0 rfl inlX6 0 (by decide) k_67 (v := .ref (a 1)) rfl dX6_isBill_3 ?_
  refine lv_bipush (v := 6) hx hb dX6_isBill_6 (by decide) ?_
  refine g_aldN S hK hP (i := 1) (by omega) mC1 (k := 6) (by omega) (by decide) (v := u 1 6) (rfl) dX6_isBill_8 ?_
  refine lv_iconst (v := 1) hx hb dX6_isBill_9 (by decide) ?_
  refine lv_isub hx hb dX6_isBill_10 ?_
  refine r_callS S hK hP (c_X6_in l G (mP G a u) (gA 8 a) _ _ _ ) (r_cs S k_198 k_196 k_197 k_5 q_X6_in ⟨Nat.le_of_ble_eq_true rfl, Nat.le_of_ble_eq_true rfl⟩ rfl rfl) rfl hl.1 rfl (Nat.le_of_ble_eq_true rfl) dX6_isBill_11 ⟨Nat.zero_le _, Nat.zero_le _⟩ hS (fun _ h => h) (fun H locs hP _ _ hS => ?_)
  have hP : mP G a u H := hP
  exact e_int S hr hlk (z_X6_in _ _ _) hK hS hP (show v_X6_isBill u p1 = v_X6_in p1 (0 : Int32) ((u 1 6) - (1 : Int32)) from rfl).symm dX6_isBill_14

def w_X6_looks_loop : Nat → Nat → (Nat → Nat → Int32) → (Nat → Nat → Int32)
  | 0, k, u => u
  | n + 1, k, u => w_X6_looks_loop n (k + 1) (up u 3 k (u 1 k))
def w_X6_looks (u : Nat → Nat → Int32) : Nat → Nat → Int32 := w_X6_looks_loop 713 0 u
theorem q_X6_looks : yX6_looks.cls ≠ "java/lang/invoke/MethodHandle" ∧ yX6_looks.cls ≠ "java/lang/invoke/VarHandle" ∧ (parseMethodDescriptor yX6_looks.desc).map (fun d => d.parameters.length) = some 0 := ⟨by decide, by decide, by decide +kernel⟩
set_option maxHeartbeats 4000000 in
set_option maxRecDepth 100000 in
theorem c_X6_looks (l : Launch) (G : kG) (a : Nat → Nat) (hI : gI 8 a) (u : Nat → Nat → Int32) : Met l yX6_looks (Cond.code yX6_looks cX6_looks 2 none :: BIG) (rmK 0) (pcG G (mP G a u) [.ref (a 0)]) (qcV G (gA 8 a) (mP G a (w_X6_looks u))) 0 0 (gA 8 a) := by
  refine m_start (by decide) (Nat.le_of_ble_eq_true rfl) ?_
  intro p e s m args below meth c S hr hlk hnm hP hK ls hl
  have hx := S.1
  have hb := S.2.1
  have hown := S.2.2.2.1
  have hS : va_S (gA 8 a) s.heap s.heap [] := va_S.rf
  have hl : lv_has ls 2 [(0, .ref (a 0))] := hl
  refine lv_iconst (v := 0) hx hb dX6_looks_0 (by decide) ?_
  refine lv_istore_n (lv' := [(1, .int (0 : Int32)), (0, .ref (a 0))]) hx hb dX6_looks_1 rfl hl (by decide) rfl (fun ls hl => ?_)
  have LP_loop : ∀ (n : Nat) (k : Nat), k + n = 713 → ∀ (u : Nat → Nat → Int32) (H : Heap) (locs : List Loc), mP G a u H → va_S (gA 8 a) s.heap H locs → ∀ ls : Array Slot, lv_has ls 2 [(1, .int (nI k)), (0, .ref (a 0))] → W p l e (rmK 0) s m args below meth c H locs 0 0 (MQ below (qcV G (gA 8 a) (mP G a (w_X6_looks_loop n k u))) args s 0 0 (gA 8 a)) (F0 m 2 ls []) := by
    intro n
    induction n with
    | zero =>
      intro k hk_LP_loop u H locs hP hS ls hl
      refine lv_iload_n hx hb dX6_looks_2 rfl (lv_at hl 0 rfl) ?_
      refine lv_sipush (v := 713) hx hb dX6_looks_3 (by decide) ?_
      refine lv_icmp_ge (tgt := 27) hx hb dX6_looks_6 (by decide) (fun _ => ?_) (fun c => absurd ((nI_leI (a := 713) (b := k) (by omega) (by omega)).mpr (by omega)) c)
      exact e_void S hr hlk hK hS (gP_eq (show w_X6_looks_loop 0 k u = u from rfl) hP) dX6_looks_27
    | succ n ih_LP_loop =>
      intro k hk_LP_loop u H locs hP hS ls hl
      refine lv_iload_n hx hb dX6_looks_2 rfl (lv_at hl 0 rfl) ?_
      refine lv_sipush (v := 713) hx hb dX6_looks_3 (by decide) ?_
      refine lv_icmp_ge (tgt := 27) hx hb dX6_looks_6 (by decide) (fun c => absurd c (fun z => absurd ((nI_leI (a := 713) (b := k) (by omega) (by omega)).mp z) (by omega))) (fun _ => ?_)
      refine lv_aload_n hx hb dX6_looks_9 rfl (lv_at hl 1 rfl) ?_
      refine g_get S hK hP (i := 0) (by omega) mC0 rfl inlX6 2 (by decide) k_69 (v := .ref (a 3)) rfl dX6_looks_10 ?_
      refine lv_iload_n hx hb dX6_looks_13 rfl (lv_at hl 0 rfl) ?_
      refine lv_aload_n hx hb dX6_looks_14 rfl (lv_at hl 1 rfl) ?_
      refine g_get S hK hP (i := 0) (by omega) mC0 rfl inlX6 0 (by decide) k_67 (v := .ref (a 1)) rfl dX6_looks_15 ?_
      refine lv_iload_n hx hb dX6_looks_18 rfl (lv_at hl 0 rfl) ?_
      refine g_aldN S hK hP (i := 1) (by omega) mC1 (k := k) (by omega) (by decide) (v := u 1 k) (rfl) dX6_looks_19 ?_
      refine g_astN S hK hP hI hS (i := 3) (by omega) mC3 (k := k) (by omega) (by decide) dX6_looks_20 (fun H locs hP hS => ?_)
      have hP : mP G a (up u 3 k (u 1 k)) H := hP
      refine lv_iinc (v := nI (k + 1)) (lv' := [(1, .int (nI (k + 1))), (0, .ref (a 0))]) hx hb dX6_looks_21 hl (k := 0) rfl (nI_1 _) (by decide) rfl (fun ls hl => ?_)
      refine lv_goto (tgt := 2) hx hb dX6_looks_24 (by decide) ?_
      refine q_eqV (show w_X6_looks_loop (n + 1) k u = w_X6_looks_loop n (k + 1) (up u 3 k (u 1 k)) from rfl) ?_
      exact ih_LP_loop (k + 1) (by omega) _ _ _ hP hS ls (lv_sub hl [0, 1] rfl)
  refine q_eqV (show w_X6_looks u  = w_X6_looks_loop 713 0 u from rfl) ?_
  exact LP_loop 713 0 (by omega) _ _ _ hP hS ls (lv_sub hl [0, 1] rfl)

def w_X6_putAside_loop : Nat → Nat → (Nat → Nat → Int32) → (Nat → Nat → Int32)
  | 0, k, u => u
  | n + 1, k, u => w_X6_putAside_loop n (k + 1) (up u 2 k (u 1 k))
def w_X6_putAside (u : Nat → Nat → Int32) : Nat → Nat → Int32 := w_X6_putAside_loop 713 0 u
theorem q_X6_putAside : yX6_putAside.cls ≠ "java/lang/invoke/MethodHandle" ∧ yX6_putAside.cls ≠ "java/lang/invoke/VarHandle" ∧ (parseMethodDescriptor yX6_putAside.desc).map (fun d => d.parameters.length) = some 0 := ⟨by decide, by decide, by decide +kernel⟩
set_option maxHeartbeats 4000000 in
set_option maxRecDepth 100000 in
theorem c_X6_putAside (l : Launch) (G : kG) (a : Nat → Nat) (hI : gI 8 a) (u : Nat → Nat → Int32) : Met l yX6_putAside (Cond.code yX6_putAside cX6_putAside 2 none :: BIG) (rmK 0) (pcG G (mP G a u) [.ref (a 0)]) (qcV G (gA 8 a) (mP G a (w_X6_putAside u))) 0 0 (gA 8 a) := by
  refine m_start (by decide) (Nat.le_of_ble_eq_true rfl) ?_
  intro p e s m args below meth c S hr hlk hnm hP hK ls hl
  have hx := S.1
  have hb := S.2.1
  have hown := S.2.2.2.1
  have hS : va_S (gA 8 a) s.heap s.heap [] := va_S.rf
  have hl : lv_has ls 2 [(0, .ref (a 0))] := hl
  refine lv_iconst (v := 0) hx hb dX6_putAside_0 (by decide) ?_
  refine lv_istore_n (lv' := [(1, .int (0 : Int32)), (0, .ref (a 0))]) hx hb dX6_putAside_1 rfl hl (by decide) rfl (fun ls hl => ?_)
  have LP_loop : ∀ (n : Nat) (k : Nat), k + n = 713 → ∀ (u : Nat → Nat → Int32) (H : Heap) (locs : List Loc), mP G a u H → va_S (gA 8 a) s.heap H locs → ∀ ls : Array Slot, lv_has ls 2 [(1, .int (nI k)), (0, .ref (a 0))] → W p l e (rmK 0) s m args below meth c H locs 0 0 (MQ below (qcV G (gA 8 a) (mP G a (w_X6_putAside_loop n k u))) args s 0 0 (gA 8 a)) (F0 m 2 ls []) := by
    intro n
    induction n with
    | zero =>
      intro k hk_LP_loop u H locs hP hS ls hl
      refine lv_iload_n hx hb dX6_putAside_2 rfl (lv_at hl 0 rfl) ?_
      refine lv_sipush (v := 713) hx hb dX6_putAside_3 (by decide) ?_
      refine lv_icmp_ge (tgt := 27) hx hb dX6_putAside_6 (by decide) (fun _ => ?_) (fun c => absurd ((nI_leI (a := 713) (b := k) (by omega) (by omega)).mpr (by omega)) c)
      exact e_void S hr hlk hK hS (gP_eq (show w_X6_putAside_loop 0 k u = u from rfl) hP) dX6_putAside_27
    | succ n ih_LP_loop =>
      intro k hk_LP_loop u H locs hP hS ls hl
      refine lv_iload_n hx hb dX6_putAside_2 rfl (lv_at hl 0 rfl) ?_
      refine lv_sipush (v := 713) hx hb dX6_putAside_3 (by decide) ?_
      refine lv_icmp_ge (tgt := 27) hx hb dX6_putAside_6 (by decide) (fun c => absurd c (fun z => absurd ((nI_leI (a := 713) (b := k) (by omega) (by omega)).mp z) (by omega))) (fun _ => ?_)
      refine lv_aload_n hx hb dX6_putAside_9 rfl (lv_at hl 1 rfl) ?_
      refine g_get S hK hP (i := 0) (by omega) mC0 rfl inlX6 1 (by decide) k_68 (v := .ref (a 2)) rfl dX6_putAside_10 ?_
      refine lv_iload_n hx hb dX6_putAside_13 rfl (lv_at hl 0 rfl) ?_
      refine lv_aload_n hx hb dX6_putAside_14 rfl (lv_at hl 1 rfl) ?_
      refine g_get S hK hP (i := 0) (by omega) mC0 rfl inlX6 0 (by decide) k_67 (v := .ref (a 1)) rfl dX6_putAside_15 ?_
      refine lv_iload_n hx hb dX6_putAside_18 rfl (lv_at hl 0 rfl) ?_
      refine g_aldN S hK hP (i := 1) (by omega) mC1 (k := k) (by omega) (by decide) (v := u 1 k) (rfl) dX6_putAside_19 ?_
      refine g_astN S hK hP hI hS (i := 2) (by omega) mC2 (k := k) (by omega) (by decide) dX6_putAside_20 (fun H locs hP hS => ?_)
      have hP : mP G a (up u 2 k (u 1 k)) H := hP
      refine lv_iinc (v := nI (k + 1)) (lv' := [(1, .int (nI (k + 1))), (0, .ref (a 0))]) hx hb dX6_putAside_21 hl (k := 0) rfl (nI_1 _) (by decide) rfl (fun ls hl => ?_)
      refine lv_goto (tgt := 2) hx hb dX6_putAside_24 (by decide) ?_
      refine q_eqV (show w_X6_putAside_loop (n + 1) k u = w_X6_putAside_loop n (k + 1) (up u 2 k (u 1 k)) from rfl) ?_
      exact ih_LP_loop (k + 1) (by omega) _ _ _ hP hS ls (lv_sub hl [0, 1] rfl)
  refine q_eqV (show w_X6_putAside u  = w_X6_putAside_loop 713 0 u from rfl) ?_
  exact LP_loop 713 0 (by omega) _ _ _ hP hS ls (lv_sub hl [0, 1] rfl)

def w_X6_putBack_loop : Nat → Nat → (Nat → Nat → Int32) → (Nat → Nat → Int32)
  | 0, k, u => u
  | n + 1, k, u => w_X6_putBack_loop n (k + 1) (up u 1 k (u 2 k))
def w_X6_putBack (u : Nat → Nat → Int32) : Nat → Nat → Int32 := w_X6_putBack_loop 713 0 u
theorem q_X6_putBack : yX6_putBack.cls ≠ "java/lang/invoke/MethodHandle" ∧ yX6_putBack.cls ≠ "java/lang/invoke/VarHandle" ∧ (parseMethodDescriptor yX6_putBack.desc).map (fun d => d.parameters.length) = some 0 := ⟨by decide, by decide, by decide +kernel⟩
set_option maxHeartbeats 4000000 in
set_option maxRecDepth 100000 in
theorem c_X6_putBack (l : Launch) (G : kG) (a : Nat → Nat) (hI : gI 8 a) (u : Nat → Nat → Int32) : Met l yX6_putBack (Cond.code yX6_putBack cX6_putBack 2 none :: BIG) (rmK 0) (pcG G (mP G a u) [.ref (a 0)]) (qcV G (gA 8 a) (mP G a (w_X6_putBack u))) 0 0 (gA 8 a) := by
  refine m_start (by decide) (Nat.le_of_ble_eq_true rfl) ?_
  intro p e s m args below meth c S hr hlk hnm hP hK ls hl
  have hx := S.1
  have hb := S.2.1
  have hown := S.2.2.2.1
  have hS : va_S (gA 8 a) s.heap s.heap [] := va_S.rf
  have hl : lv_has ls 2 [(0, .ref (a 0))] := hl
  refine lv_iconst (v := 0) hx hb dX6_putBack_0 (by decide) ?_
  refine lv_istore_n (lv' := [(1, .int (0 : Int32)), (0, .ref (a 0))]) hx hb dX6_putBack_1 rfl hl (by decide) rfl (fun ls hl => ?_)
  have LP_loop : ∀ (n : Nat) (k : Nat), k + n = 713 → ∀ (u : Nat → Nat → Int32) (H : Heap) (locs : List Loc), mP G a u H → va_S (gA 8 a) s.heap H locs → ∀ ls : Array Slot, lv_has ls 2 [(1, .int (nI k)), (0, .ref (a 0))] → W p l e (rmK 0) s m args below meth c H locs 0 0 (MQ below (qcV G (gA 8 a) (mP G a (w_X6_putBack_loop n k u))) args s 0 0 (gA 8 a)) (F0 m 2 ls []) := by
    intro n
    induction n with
    | zero =>
      intro k hk_LP_loop u H locs hP hS ls hl
      refine lv_iload_n hx hb dX6_putBack_2 rfl (lv_at hl 0 rfl) ?_
      refine lv_sipush (v := 713) hx hb dX6_putBack_3 (by decide) ?_
      refine lv_icmp_ge (tgt := 27) hx hb dX6_putBack_6 (by decide) (fun _ => ?_) (fun c => absurd ((nI_leI (a := 713) (b := k) (by omega) (by omega)).mpr (by omega)) c)
      exact e_void S hr hlk hK hS (gP_eq (show w_X6_putBack_loop 0 k u = u from rfl) hP) dX6_putBack_27
    | succ n ih_LP_loop =>
      intro k hk_LP_loop u H locs hP hS ls hl
      refine lv_iload_n hx hb dX6_putBack_2 rfl (lv_at hl 0 rfl) ?_
      refine lv_sipush (v := 713) hx hb dX6_putBack_3 (by decide) ?_
      refine lv_icmp_ge (tgt := 27) hx hb dX6_putBack_6 (by decide) (fun c => absurd c (fun z => absurd ((nI_leI (a := 713) (b := k) (by omega) (by omega)).mp z) (by omega))) (fun _ => ?_)
      refine lv_aload_n hx hb dX6_putBack_9 rfl (lv_at hl 1 rfl) ?_
      refine g_get S hK hP (i := 0) (by omega) mC0 rfl inlX6 0 (by decide) k_67 (v := .ref (a 1)) rfl dX6_putBack_10 ?_
      refine lv_iload_n hx hb dX6_putBack_13 rfl (lv_at hl 0 rfl) ?_
      refine lv_aload_n hx hb dX6_putBack_14 rfl (lv_at hl 1 rfl) ?_
      refine g_get S hK hP (i := 0) (by omega) mC0 rfl inlX6 1 (by decide) k_68 (v := .ref (a 2)) rfl dX6_putBack_15 ?_
      refine lv_iload_n hx hb dX6_putBack_18 rfl (lv_at hl 0 rfl) ?_
      refine g_aldN S hK hP (i := 2) (by omega) mC2 (k := k) (by omega) (by decide) (v := u 2 k) (rfl) dX6_putBack_19 ?_
      refine g_astN S hK hP hI hS (i := 1) (by omega) mC1 (k := k) (by omega) (by decide) dX6_putBack_20 (fun H locs hP hS => ?_)
      have hP : mP G a (up u 1 k (u 2 k)) H := hP
      refine lv_iinc (v := nI (k + 1)) (lv' := [(1, .int (nI (k + 1))), (0, .ref (a 0))]) hx hb dX6_putBack_21 hl (k := 0) rfl (nI_1 _) (by decide) rfl (fun ls hl => ?_)
      refine lv_goto (tgt := 2) hx hb dX6_putBack_24 (by decide) ?_
      refine q_eqV (show w_X6_putBack_loop (n + 1) k u = w_X6_putBack_loop n (k + 1) (up u 1 k (u 2 k)) from rfl) ?_
      exact ih_LP_loop (k + 1) (by omega) _ _ _ hP hS ls (lv_sub hl [0, 1] rfl)
  refine q_eqV (show w_X6_putBack u  = w_X6_putBack_loop 713 0 u from rfl) ?_
  exact LP_loop 713 0 (by omega) _ _ _ hP hS ls (lv_sub hl [0, 1] rfl)

def v_X6_taxOf (u : Nat → Nat → Int32) (j : Nat) : Int32 := (((u 1 (233 + 12 * j + 1)) * (u 1 (233 + 12 * j + 2))) + (50 : Int32)) / (100 : Int32)
theorem q_X6_taxOf : yX6_taxOf.cls ≠ "java/lang/invoke/MethodHandle" ∧ yX6_taxOf.cls ≠ "java/lang/invoke/VarHandle" ∧ (parseMethodDescriptor yX6_taxOf.desc).map (fun d => d.parameters.length) = some 1 := ⟨by decide, by decide, by decide +kernel⟩
set_option maxHeartbeats 4000000 in
set_option maxRecDepth 100000 in
theorem c_X6_taxOf (l : Launch) (G : kG) (a : Nat → Nat) (hI : gI 8 a) (u : Nat → Nat → Int32) (j : Nat) (hj : j < 40) : Met l yX6_taxOf (Cond.code yX6_taxOf cX6_taxOf 2 (some .int) :: BIG) (rmK 1) (pcG G (mP G a u) [.ref (a 0), .int (nI j)]) (qcI G (gA 8 a) (mP G a u) (v_X6_taxOf u j)) 0 0 (gA 8 a) := by
  refine m_start (by decide) (Nat.le_of_ble_eq_true rfl) ?_
  intro p e s m args below meth c S hr hlk hnm hP hK ls hl
  have hx := S.1
  have hb := S.2.1
  have hown := S.2.2.2.1
  have hS : va_S (gA 8 a) s.heap s.heap [] := va_S.rf
  have hl : lv_has ls 2 [(0, .ref (a 0)), (1, .int (nI j))] := hl
  refine lv_aload_n hx hb dX6_taxOf_0 rfl (lv_at hl 0 rfl) ?_
  refine g_get S hK hP (i := 0) (by omega) mC0 rfl inlX6 0 (by decide) k_67 (v := .ref (a 1)) rfl dX6_taxOf_1 ?_
  refine lv_iload_n hx hb dX6_taxOf_4 rfl (lv_at hl 1 rfl) ?_
  refine lv_iconst (v := 1) hx hb dX6_taxOf_5 (by decide) ?_
  refine r_callS S hK hP (c_X6_of l G (mP G a u) (gA 8 a) j 1 trivial trivial ) (r_cs S k_221 k_219 k_220 k_5 q_X6_of ⟨Nat.le_of_ble_eq_true rfl, Nat.le_of_ble_eq_true rfl⟩ rfl rfl) rfl hl.1 rfl (Nat.le_of_ble_eq_true rfl) dX6_taxOf_6 ⟨Nat.zero_le _, Nat.zero_le _⟩ hS (fun _ h => h) (fun H locs hP _ _ hS => ?_)
  have hP : mP G a u H := hP
  refine r_top (v := nI (233 + 12 * j + 1)) rfl ?_
  refine g_aldN S hK hP (i := 1) (by omega) mC1 (k := 233 + 12 * j + 1) (by omega) (by decide) (v := u 1 (233 + 12 * j + 1)) (rfl) dX6_taxOf_9 ?_
  refine lv_aload_n hx hb dX6_taxOf_10 rfl (lv_at hl 0 rfl) ?_
  refine g_get S hK hP (i := 0) (by omega) mC0 rfl inlX6 0 (by decide) k_67 (v := .ref (a 1)) rfl dX6_taxOf_11 ?_
  refine lv_iload_n hx hb dX6_taxOf_14 rfl (lv_at hl 1 rfl) ?_
  refine lv_iconst (v := 2) hx hb dX6_taxOf_15 (by decide) ?_
  refine r_callS S hK hP (c_X6_of l G (mP G a u) (gA 8 a) j 2 trivial trivial ) (r_cs S k_221 k_219 k_220 k_5 q_X6_of ⟨Nat.le_of_ble_eq_true rfl, Nat.le_of_ble_eq_true rfl⟩ rfl rfl) rfl hl.1 rfl (Nat.le_of_ble_eq_true rfl) dX6_taxOf_16 ⟨Nat.zero_le _, Nat.zero_le _⟩ hS (fun _ h => h) (fun H locs hP _ _ hS => ?_)
  have hP : mP G a u H := hP
  refine r_top (v := nI (233 + 12 * j + 2)) rfl ?_
  refine g_aldN S hK hP (i := 1) (by omega) mC1 (k := 233 + 12 * j + 2) (by omega) (by decide) (v := u 1 (233 + 12 * j + 2)) (rfl) dX6_taxOf_19 ?_
  refine lv_imul hx hb dX6_taxOf_20 ?_
  refine lv_bipush (v := 50) hx hb dX6_taxOf_21 (by decide) ?_
  refine lv_iadd hx hb dX6_taxOf_23 ?_
  refine lv_bipush (v := 100) hx hb dX6_taxOf_24 (by decide) ?_
  refine lv_idiv hx hb dX6_taxOf_26 (by decide) ?_
  exact e_int S hr hlk rfl hK hS hP (show v_X6_taxOf u j = (((u 1 (233 + 12 * j + 1)) * (u 1 (233 + 12 * j + 2))) + (50 : Int32)) / (100 : Int32) from rfl).symm dX6_taxOf_27

def v_X6_sumOf (u : Nat → Nat → Int32) (j : Nat) : Int32 := (u 1 (233 + 12 * j + 1)) + (v_X6_taxOf u j)
theorem q_X6_sumOf : yX6_sumOf.cls ≠ "java/lang/invoke/MethodHandle" ∧ yX6_sumOf.cls ≠ "java/lang/invoke/VarHandle" ∧ (parseMethodDescriptor yX6_sumOf.desc).map (fun d => d.parameters.length) = some 1 := ⟨by decide, by decide, by decide +kernel⟩
set_option maxHeartbeats 4000000 in
set_option maxRecDepth 100000 in
theorem c_X6_sumOf (l : Launch) (G : kG) (a : Nat → Nat) (hI : gI 8 a) (u : Nat → Nat → Int32) (j : Nat) (hj : j < 40) : Met l yX6_sumOf (Cond.code yX6_sumOf cX6_sumOf 2 (some .int) :: BIG) (rmK 2) (pcG G (mP G a u) [.ref (a 0), .int (nI j)]) (qcI G (gA 8 a) (mP G a u) (v_X6_sumOf u j)) 0 0 (gA 8 a) := by
  refine m_start (by decide) (Nat.le_of_ble_eq_true rfl) ?_
  intro p e s m args below meth c S hr hlk hnm hP hK ls hl
  have hx := S.1
  have hb := S.2.1
  have hown := S.2.2.2.1
  have hS : va_S (gA 8 a) s.heap s.heap [] := va_S.rf
  have hl : lv_has ls 2 [(0, .ref (a 0)), (1, .int (nI j))] := hl
  refine lv_aload_n hx hb dX6_sumOf_0 rfl (lv_at hl 0 rfl) ?_
  refine g_get S hK hP (i := 0) (by omega) mC0 rfl inlX6 0 (by decide) k_67 (v := .ref (a 1)) rfl dX6_sumOf_1 ?_
  refine lv_iload_n hx hb dX6_sumOf_4 rfl (lv_at hl 1 rfl) ?_
  refine lv_iconst (v := 1) hx hb dX6_sumOf_5 (by decide) ?_
  refine r_callS S hK hP (c_X6_of l G (mP G a u) (gA 8 a) j 1 trivial trivial ) (r_cs S k_221 k_219 k_220 k_5 q_X6_of ⟨Nat.le_of_ble_eq_true rfl, Nat.le_of_ble_eq_true rfl⟩ rfl rfl) rfl hl.1 rfl (Nat.le_of_ble_eq_true rfl) dX6_sumOf_6 ⟨Nat.zero_le _, Nat.zero_le _⟩ hS (fun _ h => h) (fun H locs hP _ _ hS => ?_)
  have hP : mP G a u H := hP
  refine r_top (v := nI (233 + 12 * j + 1)) rfl ?_
  refine g_aldN S hK hP (i := 1) (by omega) mC1 (k := 233 + 12 * j + 1) (by omega) (by decide) (v := u 1 (233 + 12 * j + 1)) (rfl) dX6_sumOf_9 ?_
  refine lv_aload_n hx hb dX6_sumOf_10 rfl (lv_at hl 0 rfl) ?_
  refine lv_iload_n hx hb dX6_sumOf_11 rfl (lv_at hl 1 rfl) ?_
  refine r_callI S hK hP (c_X6_taxOf l G a hI u j (by omega) ) (r_cw S k_241 k_238 k_239 k_240 k_5 q_X6_taxOf ⟨Nat.le_of_ble_eq_true rfl, Nat.le_of_ble_eq_true rfl⟩ rfl rfl) (g_recv hK hP (i := 0) (by omega) mC0 rfl) rfl hl.1 rfl (Nat.le_of_ble_eq_true rfl) dX6_sumOf_12 ⟨Nat.zero_le _, Nat.zero_le _⟩ hS (fun _ h => h) (fun H locs hP _ _ hS => ?_)
  have hP : mP G a u H := hP
  refine lv_iadd hx hb dX6_sumOf_15 ?_
  exact e_int S hr hlk rfl hK hS hP (show v_X6_sumOf u j = (u 1 (233 + 12 * j + 1)) + (v_X6_taxOf u j) from rfl).symm dX6_sumOf_16

def v_X6_owedOn (u : Nat → Nat → Int32) (j : Nat) : Int32 := (((v_X6_sumOf u j) + (u 1 (233 + 12 * j + 8))) - (u 1 (233 + 12 * j + 6))) - (u 1 (233 + 12 * j + 7))
theorem q_X6_owedOn : yX6_owedOn.cls ≠ "java/lang/invoke/MethodHandle" ∧ yX6_owedOn.cls ≠ "java/lang/invoke/VarHandle" ∧ (parseMethodDescriptor yX6_owedOn.desc).map (fun d => d.parameters.length) = some 1 := ⟨by decide, by decide, by decide +kernel⟩
set_option maxHeartbeats 4000000 in
set_option maxRecDepth 100000 in
theorem c_X6_owedOn (l : Launch) (G : kG) (a : Nat → Nat) (hI : gI 8 a) (u : Nat → Nat → Int32) (j : Nat) (hj : j < 40) : Met l yX6_owedOn (Cond.code yX6_owedOn cX6_owedOn 2 (some .int) :: BIG) (rmK 3) (pcG G (mP G a u) [.ref (a 0), .int (nI j)]) (qcI G (gA 8 a) (mP G a u) (v_X6_owedOn u j)) 0 0 (gA 8 a) := by
  refine m_start (by decide) (Nat.le_of_ble_eq_true rfl) ?_
  intro p e s m args below meth c S hr hlk hnm hP hK ls hl
  have hx := S.1
  have hb := S.2.1
  have hown := S.2.2.2.1
  have hS : va_S (gA 8 a) s.heap s.heap [] := va_S.rf
  have hl : lv_has ls 2 [(0, .ref (a 0)), (1, .int (nI j))] := hl
  refine lv_aload_n hx hb dX6_owedOn_0 rfl (lv_at hl 0 rfl) ?_
  refine lv_iload_n hx hb dX6_owedOn_1 rfl (lv_at hl 1 rfl) ?_
  refine r_callI S hK hP (c_X6_sumOf l G a hI u j (by omega) ) (r_cw S k_237 k_234 k_235 k_236 k_5 q_X6_sumOf ⟨Nat.le_of_ble_eq_true rfl, Nat.le_of_ble_eq_true rfl⟩ rfl rfl) (g_recv hK hP (i := 0) (by omega) mC0 rfl) rfl hl.1 rfl (Nat.le_of_ble_eq_true rfl) dX6_owedOn_2 ⟨Nat.zero_le _, Nat.zero_le _⟩ hS (fun _ h => h) (fun H locs hP _ _ hS => ?_)
  have hP : mP G a u H := hP
  refine lv_aload_n hx hb dX6_owedOn_5 rfl (lv_at hl 0 rfl) ?_
  refine g_get S hK hP (i := 0) (by omega) mC0 rfl inlX6 0 (by decide) k_67 (v := .ref (a 1)) rfl dX6_owedOn_6 ?_
  refine lv_iload_n hx hb dX6_owedOn_9 rfl (lv_at hl 1 rfl) ?_
  refine lv_bipush (v := 8) hx hb dX6_owedOn_10 (by decide) ?_
  refine r_callS S hK hP (c_X6_of l G (mP G a u) (gA 8 a) j 8 trivial trivial ) (r_cs S k_221 k_219 k_220 k_5 q_X6_of ⟨Nat.le_of_ble_eq_true rfl, Nat.le_of_ble_eq_true rfl⟩ rfl rfl) rfl hl.1 rfl (Nat.le_of_ble_eq_true rfl) dX6_owedOn_12 ⟨Nat.zero_le _, Nat.zero_le _⟩ hS (fun _ h => h) (fun H locs hP _ _ hS => ?_)
  have hP : mP G a u H := hP
  refine r_top (v := nI (233 + 12 * j + 8)) rfl ?_
  refine g_aldN S hK hP (i := 1) (by omega) mC1 (k := 233 + 12 * j + 8) (by omega) (by decide) (v := u 1 (233 + 12 * j + 8)) (rfl) dX6_owedOn_15 ?_
  refine lv_iadd hx hb dX6_owedOn_16 ?_
  refine lv_aload_n hx hb dX6_owedOn_17 rfl (lv_at hl 0 rfl) ?_
  refine g_get S hK hP (i := 0) (by omega) mC0 rfl inlX6 0 (by decide) k_67 (v := .ref (a 1)) rfl dX6_owedOn_18 ?_
  refine lv_iload_n hx hb dX6_owedOn_21 rfl (lv_at hl 1 rfl) ?_
  refine lv_bipush (v := 6) hx hb dX6_owedOn_22 (by decide) ?_
  refine r_callS S hK hP (c_X6_of l G (mP G a u) (gA 8 a) j 6 trivial trivial ) (r_cs S k_221 k_219 k_220 k_5 q_X6_of ⟨Nat.le_of_ble_eq_true rfl, Nat.le_of_ble_eq_true rfl⟩ rfl rfl) rfl hl.1 rfl (Nat.le_of_ble_eq_true rfl) dX6_owedOn_24 ⟨Nat.zero_le _, Nat.zero_le _⟩ hS (fun _ h => h) (fun H locs hP _ _ hS => ?_)
  have hP : mP G a u H := hP
  refine r_top (v := nI (233 + 12 * j + 6)) rfl ?_
  refine g_aldN S hK hP (i := 1) (by omega) mC1 (k := 233 + 12 * j + 6) (by omega) (by decide) (v := u 1 (233 + 12 * j + 6)) (rfl) dX6_owedOn_27 ?_
  refine lv_isub hx hb dX6_owedOn_28 ?_
  refine lv_aload_n hx hb dX6_owedOn_29 rfl (lv_at hl 0 rfl) ?_
  refine g_get S hK hP (i := 0) (by omega) mC0 rfl inlX6 0 (by decide) k_67 (v := .ref (a 1)) rfl dX6_owedOn_30 ?_
  refine lv_iload_n hx hb dX6_owedOn_33 rfl (lv_at hl 1 rfl) ?_
  refine lv_bipush (v := 7) hx hb dX6_owedOn_34 (by decide) ?_
  refine r_callS S hK hP (c_X6_of l G (mP G a u) (gA 8 a) j 7 trivial trivial ) (r_cs S k_221 k_219 k_220 k_5 q_X6_of ⟨Nat.le_of_ble_eq_true rfl, Nat.le_of_ble_eq_true rfl⟩ rfl rfl) rfl hl.1 rfl (Nat.le_of_ble_eq_true rfl) dX6_owedOn_36 ⟨Nat.zero_le _, Nat.zero_le _⟩ hS (fun _ h => h) (fun H locs hP _ _ hS => ?_)
  have hP : mP G a u H := hP
  refine r_top (v := nI (233 + 12 * j + 7)) rfl ?_
  refine g_aldN S hK hP (i := 1) (by omega) mC1 (k := 233 + 12 * j + 7) (by omega) (by decide) (v := u 1 (233 + 12 * j + 7)) (rfl) dX6_owedOn_39 ?_
  refine lv_isub hx hb dX6_owedOn_40 ?_
  exact e_int S hr hlk rfl hK hS hP (show v_X6_owedOn u j = (((v_X6_sumOf u j) + (u 1 (233 + 12 * j + 8))) - (u 1 (233 + 12 * j + 6))) - (u 1 (233 + 12 * j + 7)) from rfl).symm dX6_owedOn_41

def v_X6_is (u : Nat → Nat → Int32) (j : Nat) (p2 : Int32) : Int32 := if u 1 (233 + 12 * j + 5) = p2 then (1 : Int32) else (0 : Int32)
theorem q_X6_is : yX6_is.cls ≠ "java/lang/invoke/MethodHandle" ∧ yX6_is.cls ≠ "java/lang/invoke/VarHandle" ∧ (parseMethodDescriptor yX6_is.desc).map (fun d => d.parameters.length) = some 2 := ⟨by decide, by decide, by decide +kernel⟩
theorem z_X6_is (u : Nat → Nat → Int32) (j : Nat) (p2 : Int32) : narrow .boolean (.int (v_X6_is u j p2)) = .int (v_X6_is u j p2) := by
  unfold v_X6_is
  exact z_ite z_1 z_0
set_option maxHeartbeats 4000000 in
set_option maxRecDepth 100000 in
theorem c_X6_is (l : Launch) (G : kG) (a : Nat → Nat) (hI : gI 8 a) (u : Nat → Nat → Int32) (j : Nat) (hj : j < 40) (p2 : Int32) : Met l yX6_is (Cond.code yX6_is cX6_is 3 (some .boolean) :: BIG) (rmK 1) (pcG G (mP G a u) [.ref (a 0), .int (nI j), .int p2]) (qcI G (gA 8 a) (mP G a u) (v_X6_is u j p2)) 0 0 (gA 8 a) := by
  refine m_start (by decide) (Nat.le_of_ble_eq_true rfl) ?_
  intro p e s m args below meth c S hr hlk hnm hP hK ls hl
  have hx := S.1
  have hb := S.2.1
  have hown := S.2.2.2.1
  have hS : va_S (gA 8 a) s.heap s.heap [] := va_S.rf
  have hl : lv_has ls 3 [(0, .ref (a 0)), (1, .int (nI j)), (2, .int p2)] := hl
  refine lv_aload_n hx hb dX6_is_0 rfl (lv_at hl 0 rfl) ?_
  refine g_get S hK hP (i := 0) (by omega) mC0 rfl inlX6 0 (by decide) k_67 (v := .ref (a 1)) rfl dX6_is_1 ?_
  refine lv_iload_n hx hb dX6_is_4 rfl (lv_at hl 1 rfl) ?_
  refine lv_iconst (v := 5) hx hb dX6_is_5 (by decide) ?_
  refine r_callS S hK hP (c_X6_of l G (mP G a u) (gA 8 a) j 5 trivial trivial ) (r_cs S k_221 k_219 k_220 k_5 q_X6_of ⟨Nat.le_of_ble_eq_true rfl, Nat.le_of_ble_eq_true rfl⟩ rfl rfl) rfl hl.1 rfl (Nat.le_of_ble_eq_true rfl) dX6_is_6 ⟨Nat.zero_le _, Nat.zero_le _⟩ hS (fun _ h => h) (fun H locs hP _ _ hS => ?_)
  have hP : mP G a u H := hP
  refine r_top (v := nI (233 + 12 * j + 5)) rfl ?_
  refine g_aldN S hK hP (i := 1) (by omega) mC1 (k := 233 + 12 * j + 5) (by omega) (by decide) (v := u 1 (233 + 12 * j + 5)) (rfl) dX6_is_9 ?_
  refine lv_iload_n hx hb dX6_is_10 rfl (lv_at hl 2 rfl) ?_
  refine lv_icmp_ne (tgt := 18) hx hb dX6_is_11 (by decide) (fun c1 => ?_) (fun c1 => ?_)
  · skip
    refine lv_iconst (v := 0) hx hb dX6_is_18 (by decide) ?_
    exact e_int S hr hlk rfl hK hS hP (show v_X6_is u j p2 = (0 : Int32) from (if_neg c1).trans rfl).symm dX6_is_19
  · skip
    refine lv_iconst (v := 1) hx hb dX6_is_14 (by decide) ?_
    refine lv_goto (tgt := 19) hx hb dX6_is_15 (by decide) ?_
    exact e_int S hr hlk rfl hK hS hP (show v_X6_is u j p2 = (1 : Int32) from (if_pos c1).trans rfl).symm dX6_is_19

def v_X6_isOpenOf (u : Nat → Nat → Int32) (j : Nat) (p2 : Int32) : Int32 := if u 1 (233 + 12 * j + 0) = p2 then (if v_X6_is u j (0 : Int32) = 0 then (0 : Int32) else (1 : Int32)) else (0 : Int32)
theorem q_X6_isOpenOf : yX6_isOpenOf.cls ≠ "java/lang/invoke/MethodHandle" ∧ yX6_isOpenOf.cls ≠ "java/lang/invoke/VarHandle" ∧ (parseMethodDescriptor yX6_isOpenOf.desc).map (fun d => d.parameters.length) = some 2 := ⟨by decide, by decide, by decide +kernel⟩
theorem z_X6_isOpenOf (u : Nat → Nat → Int32) (j : Nat) (p2 : Int32) : narrow .boolean (.int (v_X6_isOpenOf u j p2)) = .int (v_X6_isOpenOf u j p2) := by
  unfold v_X6_isOpenOf
  exact z_ite (z_ite z_0 z_1) z_0
set_option maxHeartbeats 4000000 in
set_option maxRecDepth 100000 in
theorem c_X6_isOpenOf (l : Launch) (G : kG) (a : Nat → Nat) (hI : gI 8 a) (u : Nat → Nat → Int32) (j : Nat) (hj : j < 40) (p2 : Int32) : Met l yX6_isOpenOf (Cond.code yX6_isOpenOf cX6_isOpenOf 3 (some .boolean) :: BIG) (rmK 2) (pcG G (mP G a u) [.ref (a 0), .int (nI j), .int p2]) (qcI G (gA 8 a) (mP G a u) (v_X6_isOpenOf u j p2)) 0 0 (gA 8 a) := by
  refine m_start (by decide) (Nat.le_of_ble_eq_true rfl) ?_
  intro p e s m args below meth c S hr hlk hnm hP hK ls hl
  have hx := S.1
  have hb := S.2.1
  have hown := S.2.2.2.1
  have hS : va_S (gA 8 a) s.heap s.heap [] := va_S.rf
  have hl : lv_has ls 3 [(0, .ref (a 0)), (1, .int (nI j)), (2, .int p2)] := hl
  refine lv_aload_n hx hb dX6_isOpenOf_0 rfl (lv_at hl 0 rfl) ?_
  refine g_get S hK hP (i := 0) (by omega) mC0 rfl inlX6 0 (by decide) k_67 (v := .ref (a 1)) rfl dX6_isOpenOf_1 ?_
  refine lv_iload_n hx hb dX6_isOpenOf_4 rfl (lv_at hl 1 rfl) ?_
  refine lv_iconst (v := 0) hx hb dX6_isOpenOf_5 (by decide) ?_
  refine r_callS S hK hP (c_X6_of l G (mP G a u) (gA 8 a) j 0 trivial trivial ) (r_cs S k_221 k_219 k_220 k_5 q_X6_of ⟨Nat.le_of_ble_eq_true rfl, Nat.le_of_ble_eq_true rfl⟩ rfl rfl) rfl hl.1 rfl (Nat.le_of_ble_eq_true rfl) dX6_isOpenOf_6 ⟨Nat.zero_le _, Nat.zero_le _⟩ hS (fun _ h => h) (fun H locs hP _ _ hS => ?_)
  have hP : mP G a u H := hP
  refine r_top (v := nI (233 + 12 * j + 0)) rfl ?_
  refine g_aldN S hK hP (i := 1) (by omega) mC1 (k := 233 + 12 * j + 0) (by omega) (by decide) (v := u 1 (233 + 12 * j + 0)) (rfl) dX6_isOpenOf_9 ?_
  refine lv_iload_n hx hb dX6_isOpenOf_10 rfl (lv_at hl 2 rfl) ?_
  refine lv_icmp_ne (tgt := 27) hx hb dX6_isOpenOf_11 (by decide) (fun c1 => ?_) (fun c1 => ?_)
  · skip
    refine lv_iconst (v := 0) hx hb dX6_isOpenOf_27 (by decide) ?_
    exact e_int S hr hlk rfl hK hS hP (show v_X6_isOpenOf u j p2 = (0 : Int32) from (if_neg c1).trans rfl).symm dX6_isOpenOf_28
  · skip
    refine lv_aload_n hx hb dX6_isOpenOf_14 rfl (lv_at hl 0 rfl) ?_
    refine lv_iload_n hx hb dX6_isOpenOf_15 rfl (lv_at hl 1 rfl) ?_
    refine lv_iconst (v := 0) hx hb dX6_isOpenOf_16 (by decide) ?_
    refine r_callI S hK hP (c_X6_is l G a hI u j (by omega) _ ) (r_cw S k_290 k_287 k_288 k_289 k_5 q_X6_is ⟨Nat.le_of_ble_eq_true rfl, Nat.le_of_ble_eq_true rfl⟩ rfl rfl) (g_recv hK hP (i := 0) (by omega) mC0 rfl) rfl hl.1 rfl (Nat.le_of_ble_eq_true rfl) dX6_isOpenOf_17 ⟨Nat.zero_le _, Nat.zero_le _⟩ hS (fun _ h => h) (fun H locs hP _ _ hS => ?_)
    have hP : mP G a u H := hP
    refine lv_if_eq (tgt := 27) hx hb dX6_isOpenOf_20 (by decide) (fun c2 => ?_) (fun c2 => ?_)
    · skip
      refine lv_iconst (v := 0) hx hb dX6_isOpenOf_27 (by decide) ?_
      exact e_int S hr hlk rfl hK hS hP (show v_X6_isOpenOf u j p2 = (0 : Int32) from (if_pos c1).trans ((if_pos c2).trans rfl)).symm dX6_isOpenOf_28
    · skip
      refine lv_iconst (v := 1) hx hb dX6_isOpenOf_23 (by decide) ?_
      refine lv_goto (tgt := 28) hx hb dX6_isOpenOf_24 (by decide) ?_
      exact e_int S hr hlk rfl hK hS hP (show v_X6_isOpenOf u j p2 = (1 : Int32) from (if_pos c1).trans ((if_neg c2).trans rfl)).symm dX6_isOpenOf_28

def v_X6_daysSince (u : Nat → Nat → Int32) (p1 : Int32) : Int32 := (u 1 0) - p1
theorem q_X6_daysSince : yX6_daysSince.cls ≠ "java/lang/invoke/MethodHandle" ∧ yX6_daysSince.cls ≠ "java/lang/invoke/VarHandle" ∧ (parseMethodDescriptor yX6_daysSince.desc).map (fun d => d.parameters.length) = some 1 := ⟨by decide, by decide, by decide +kernel⟩
set_option maxHeartbeats 4000000 in
set_option maxRecDepth 100000 in
theorem c_X6_daysSince (l : Launch) (G : kG) (a : Nat → Nat) (hI : gI 8 a) (u : Nat → Nat → Int32) (p1 : Int32) : Met l yX6_daysSince (Cond.code yX6_daysSince cX6_daysSince 2 (some .int) :: BIG) (rmK 0) (pcG G (mP G a u) [.ref (a 0), .int p1]) (qcI G (gA 8 a) (mP G a u) (v_X6_daysSince u p1)) 0 0 (gA 8 a) := by
  refine m_start (by decide) (Nat.le_of_ble_eq_true rfl) ?_
  intro p e s m args below meth c S hr hlk hnm hP hK ls hl
  have hx := S.1
  have hb := S.2.1
  have hown := S.2.2.2.1
  have hS : va_S (gA 8 a) s.heap s.heap [] := va_S.rf
  have hl : lv_has ls 2 [(0, .ref (a 0)), (1, .int p1)] := hl
  refine lv_aload_n hx hb dX6_daysSince_0 rfl (lv_at hl 0 rfl) ?_
  refine g_get S hK hP (i := 0) (by omega) mC0 rfl inlX6 0 (by decide) k_67 (v := .ref (a 1)) rfl dX6_daysSince_1 ?_
  refine lv_iconst (v := 0) hx hb dX6_daysSince_4 (by decide) ?_
  refine g_aldN S hK hP (i := 1) (by omega) mC1 (k := 0) (by omega) (by decide) (v := u 1 0) (rfl) dX6_daysSince_5 ?_
  refine lv_iload_n hx hb dX6_daysSince_6 rfl (lv_at hl 1 rfl) ?_
  refine lv_isub hx hb dX6_daysSince_7 ?_
  exact e_int S hr hlk rfl hK hS hP (show v_X6_daysSince u p1 = (u 1 0) - p1 from rfl).symm dX6_daysSince_8

def v_X6_discountOf (u : Nat → Nat → Int32) (j : Nat) : Int32 := if u 1 (233 + 12 * j + 9) = 0 then (if u 1 1 < v_X6_daysSince u (u 1 (233 + 12 * j + 3)) then (0 : Int32) else if v_X6_owedOn u j ≤ ((v_X6_sumOf u j) * (u 1 2)) / (100 : Int32) then ((v_X6_owedOn u j) - (1 : Int32)) else ((v_X6_sumOf u j) * (u 1 2)) / (100 : Int32)) else (0 : Int32)
theorem q_X6_discountOf : yX6_discountOf.cls ≠ "java/lang/invoke/MethodHandle" ∧ yX6_discountOf.cls ≠ "java/lang/invoke/VarHandle" ∧ (parseMethodDescriptor yX6_discountOf.desc).map (fun d => d.parameters.length) = some 1 := ⟨by decide, by decide, by decide +kernel⟩
set_option maxHeartbeats 4000000 in
set_option maxRecDepth 100000 in
theorem c_X6_discountOf (l : Launch) (G : kG) (a : Nat → Nat) (hI : gI 8 a) (u : Nat → Nat → Int32) (j : Nat) (hj : j < 40) : Met l yX6_discountOf (Cond.code yX6_discountOf cX6_discountOf 4 (some .int) :: BIG) (rmK 4) (pcG G (mP G a u) [.ref (a 0), .int (nI j)]) (qcI G (gA 8 a) (mP G a u) (v_X6_discountOf u j)) 0 0 (gA 8 a) := by
  refine m_start (by decide) (Nat.le_of_ble_eq_true rfl) ?_
  intro p e s m args below meth c S hr hlk hnm hP hK ls hl
  have hx := S.1
  have hb := S.2.1
  have hown := S.2.2.2.1
  have hS : va_S (gA 8 a) s.heap s.heap [] := va_S.rf
  have hl : lv_has ls 4 [(0, .ref (a 0)), (1, .int (nI j))] := hl
  refine lv_aload_n hx hb dX6_discountOf_0 rfl (lv_at hl 0 rfl) ?_
  refine g_get S hK hP (i := 0) (by omega) mC0 rfl inlX6 0 (by decide) k_67 (v := .ref (a 1)) rfl dX6_discountOf_1 ?_
  refine lv_iload_n hx hb dX6_discountOf_4 rfl (lv_at hl 1 rfl) ?_
  refine lv_bipush (v := 9) hx hb dX6_discountOf_5 (by decide) ?_
  refine r_callS S hK hP (c_X6_of l G (mP G a u) (gA 8 a) j 9 trivial trivial ) (r_cs S k_221 k_219 k_220 k_5 q_X6_of ⟨Nat.le_of_ble_eq_true rfl, Nat.le_of_ble_eq_true rfl⟩ rfl rfl) rfl hl.1 rfl (Nat.le_of_ble_eq_true rfl) dX6_discountOf_7 ⟨Nat.zero_le _, Nat.zero_le _⟩ hS (fun _ h => h) (fun H locs hP _ _ hS => ?_)
  have hP : mP G a u H := hP
  refine r_top (v := nI (233 + 12 * j + 9)) rfl ?_
  refine g_aldN S hK hP (i := 1) (by omega) mC1 (k := 233 + 12 * j + 9) (by omega) (by decide) (v := u 1 (233 + 12 * j + 9)) (rfl) dX6_discountOf_10 ?_
  refine lv_if_ne (tgt := 41) hx hb dX6_discountOf_11 (by decide) (fun c1 => ?_) (fun c1 => ?_)
  · skip
    refine lv_iconst (v := 0) hx hb dX6_discountOf_41 (by decide) ?_
    refine lv_istore_n (lv' := [(2, .int (0 : Int32)), (0, .ref (a 0)), (1, .int (nI j))]) hx hb dX6_discountOf_42 rfl hl (by decide) rfl (fun ls hl => ?_)
    refine lv_aload_n hx hb dX6_discountOf_43 rfl (lv_at hl 1 rfl) ?_
    refine lv_iload_n hx hb dX6_discountOf_44 rfl (lv_at hl 2 rfl) ?_
    refine r_callI S hK hP (c_X6_sumOf l G a hI u j (by omega) ) (r_cw S k_237 k_234 k_235 k_236 k_5 q_X6_sumOf ⟨Nat.le_of_ble_eq_true rfl, Nat.le_of_ble_eq_true rfl⟩ rfl rfl) (g_recv hK hP (i := 0) (by omega) mC0 rfl) rfl hl.1 rfl (Nat.le_of_ble_eq_true rfl) dX6_discountOf_45 ⟨Nat.zero_le _, Nat.zero_le _⟩ hS (fun _ h => h) (fun H locs hP _ _ hS => ?_)
    have hP : mP G a u H := hP
    refine lv_aload_n hx hb dX6_discountOf_48 rfl (lv_at hl 1 rfl) ?_
    refine g_get S hK hP (i := 0) (by omega) mC0 rfl inlX6 0 (by decide) k_67 (v := .ref (a 1)) rfl dX6_discountOf_49 ?_
    refine lv_iconst (v := 2) hx hb dX6_discountOf_52 (by decide) ?_
    refine g_aldN S hK hP (i := 1) (by omega) mC1 (k := 2) (by omega) (by decide) (v := u 1 2) (rfl) dX6_discountOf_53 ?_
    refine lv_imul hx hb dX6_discountOf_54 ?_
    refine lv_bipush (v := 100) hx hb dX6_discountOf_55 (by decide) ?_
    refine lv_idiv hx hb dX6_discountOf_57 (by decide) ?_
    refine lv_istore_n (lv' := [(3, .int (((v_X6_sumOf u j) * (u 1 2)) / (100 : Int32))), (2, .int (0 : Int32)), (0, .ref (a 0)), (1, .int (nI j))]) hx hb dX6_discountOf_58 rfl hl (by decide) rfl (fun ls hl => ?_)
    refine lv_iload_n hx hb dX6_discountOf_59 rfl (lv_at hl 1 rfl) ?_
    refine lv_if_ne (tgt := 67) hx hb dX6_discountOf_60 (by decide) (fun c => absurd (by decide) c) (fun _ => ?_)
    refine lv_iconst (v := 0) hx hb dX6_discountOf_63 (by decide) ?_
    refine lv_goto (tgt := 87) hx hb dX6_discountOf_64 (by decide) ?_
    exact e_int S hr hlk rfl hK hS hP (show v_X6_discountOf u j = (0 : Int32) from (if_neg c1).trans rfl).symm dX6_discountOf_87
  · skip
    refine lv_aload_n hx hb dX6_discountOf_14 rfl (lv_at hl 0 rfl) ?_
    refine lv_aload_n hx hb dX6_discountOf_15 rfl (lv_at hl 0 rfl) ?_
    refine g_get S hK hP (i := 0) (by omega) mC0 rfl inlX6 0 (by decide) k_67 (v := .ref (a 1)) rfl dX6_discountOf_16 ?_
    refine lv_iload_n hx hb dX6_discountOf_19 rfl (lv_at hl 1 rfl) ?_
    refine lv_iconst (v := 3) hx hb dX6_discountOf_20 (by decide) ?_
    refine r_callS S hK hP (c_X6_of l G (mP G a u) (gA 8 a) j 3 trivial trivial ) (r_cs S k_221 k_219 k_220 k_5 q_X6_of ⟨Nat.le_of_ble_eq_true rfl, Nat.le_of_ble_eq_true rfl⟩ rfl rfl) rfl hl.1 rfl (Nat.le_of_ble_eq_true rfl) dX6_discountOf_21 ⟨Nat.zero_le _, Nat.zero_le _⟩ hS (fun _ h => h) (fun H locs hP _ _ hS => ?_)
    have hP : mP G a u H := hP
    refine r_top (v := nI (233 + 12 * j + 3)) rfl ?_
    refine g_aldN S hK hP (i := 1) (by omega) mC1 (k := 233 + 12 * j + 3) (by omega) (by decide) (v := u 1 (233 + 12 * j + 3)) (rfl) dX6_discountOf_24 ?_
    refine r_callI S hK hP (c_X6_daysSince l G a hI u _ ) (r_cw S k_233 k_230 k_231 k_232 k_5 q_X6_daysSince ⟨Nat.le_of_ble_eq_true rfl, Nat.le_of_ble_eq_true rfl⟩ rfl rfl) (g_recv hK hP (i := 0) (by omega) mC0 rfl) rfl hl.1 rfl (Nat.le_of_ble_eq_true rfl) dX6_discountOf_25 ⟨Nat.zero_le _, Nat.zero_le _⟩ hS (fun _ h => h) (fun H locs hP _ _ hS => ?_)
    have hP : mP G a u H := hP
    refine lv_aload_n hx hb dX6_discountOf_28 rfl (lv_at hl 0 rfl) ?_
    refine g_get S hK hP (i := 0) (by omega) mC0 rfl inlX6 0 (by decide) k_67 (v := .ref (a 1)) rfl dX6_discountOf_29 ?_
    refine lv_iconst (v := 1) hx hb dX6_discountOf_32 (by decide) ?_
    refine g_aldN S hK hP (i := 1) (by omega) mC1 (k := 1) (by omega) (by decide) (v := u 1 1) (rfl) dX6_discountOf_33 ?_
    refine lv_icmp_gt (tgt := 41) hx hb dX6_discountOf_34 (by decide) (fun c2 => ?_) (fun c2 => ?_)
    · skip
      refine lv_iconst (v := 0) hx hb dX6_discountOf_41 (by decide) ?_
      refine lv_istore_n (lv' := [(2, .int (0 : Int32)), (0, .ref (a 0)), (1, .int (nI j))]) hx hb dX6_discountOf_42 rfl hl (by decide) rfl (fun ls hl => ?_)
      refine lv_aload_n hx hb dX6_discountOf_43 rfl (lv_at hl 1 rfl) ?_
      refine lv_iload_n hx hb dX6_discountOf_44 rfl (lv_at hl 2 rfl) ?_
      refine r_callI S hK hP (c_X6_sumOf l G a hI u j (by omega) ) (r_cw S k_237 k_234 k_235 k_236 k_5 q_X6_sumOf ⟨Nat.le_of_ble_eq_true rfl, Nat.le_of_ble_eq_true rfl⟩ rfl rfl) (g_recv hK hP (i := 0) (by omega) mC0 rfl) rfl hl.1 rfl (Nat.le_of_ble_eq_true rfl) dX6_discountOf_45 ⟨Nat.zero_le _, Nat.zero_le _⟩ hS (fun _ h => h) (fun H locs hP _ _ hS => ?_)
      have hP : mP G a u H := hP
      refine lv_aload_n hx hb dX6_discountOf_48 rfl (lv_at hl 1 rfl) ?_
      refine g_get S hK hP (i := 0) (by omega) mC0 rfl inlX6 0 (by decide) k_67 (v := .ref (a 1)) rfl dX6_discountOf_49 ?_
      refine lv_iconst (v := 2) hx hb dX6_discountOf_52 (by decide) ?_
      refine g_aldN S hK hP (i := 1) (by omega) mC1 (k := 2) (by omega) (by decide) (v := u 1 2) (rfl) dX6_discountOf_53 ?_
      refine lv_imul hx hb dX6_discountOf_54 ?_
      refine lv_bipush (v := 100) hx hb dX6_discountOf_55 (by decide) ?_
      refine lv_idiv hx hb dX6_discountOf_57 (by decide) ?_
      refine lv_istore_n (lv' := [(3, .int (((v_X6_sumOf u j) * (u 1 2)) / (100 : Int32))), (2, .int (0 : Int32)), (0, .ref (a 0)), (1, .int (nI j))]) hx hb dX6_discountOf_58 rfl hl (by decide) rfl (fun ls hl => ?_)
      refine lv_iload_n hx hb dX6_discountOf_59 rfl (lv_at hl 1 rfl) ?_
      refine lv_if_ne (tgt := 67) hx hb dX6_discountOf_60 (by decide) (fun c => absurd (by decide) c) (fun _ => ?_)
      refine lv_iconst (v := 0) hx hb dX6_discountOf_63 (by decide) ?_
      refine lv_goto (tgt := 87) hx hb dX6_discountOf_64 (by decide) ?_
      exact e_int S hr hlk rfl hK hS hP (show v_X6_discountOf u j = (0 : Int32) from (if_pos c1).trans ((if_pos c2).trans rfl)).symm dX6_discountOf_87
    · skip
      refine lv_iconst (v := 1) hx hb dX6_discountOf_37 (by decide) ?_
      refine lv_goto (tgt := 42) hx hb dX6_discountOf_38 (by decide) ?_
      refine lv_istore_n (lv' := [(2, .int (1 : Int32)), (0, .ref (a 0)), (1, .int (nI j))]) hx hb dX6_discountOf_42 rfl hl (by decide) rfl (fun ls hl => ?_)
      refine lv_aload_n hx hb dX6_discountOf_43 rfl (lv_at hl 1 rfl) ?_
      refine lv_iload_n hx hb dX6_discountOf_44 rfl (lv_at hl 2 rfl) ?_
      refine r_callI S hK hP (c_X6_sumOf l G a hI u j (by omega) ) (r_cw S k_237 k_234 k_235 k_236 k_5 q_X6_sumOf ⟨Nat.le_of_ble_eq_true rfl, Nat.le_of_ble_eq_true rfl⟩ rfl rfl) (g_recv hK hP (i := 0) (by omega) mC0 rfl) rfl hl.1 rfl (Nat.le_of_ble_eq_true rfl) dX6_discountOf_45 ⟨Nat.zero_le _, Nat.zero_le _⟩ hS (fun _ h => h) (fun H locs hP _ _ hS => ?_)
      have hP : mP G a u H := hP
      refine lv_aload_n hx hb dX6_discountOf_48 rfl (lv_at hl 1 rfl) ?_
      refine g_get S hK hP (i := 0) (by omega) mC0 rfl inlX6 0 (by decide) k_67 (v := .ref (a 1)) rfl dX6_discountOf_49 ?_
      refine lv_iconst (v := 2) hx hb dX6_discountOf_52 (by decide) ?_
      refine g_aldN S hK hP (i := 1) (by omega) mC1 (k := 2) (by omega) (by decide) (v := u 1 2) (rfl) dX6_discountOf_53 ?_
      refine lv_imul hx hb dX6_discountOf_54 ?_
      refine lv_bipush (v := 100) hx hb dX6_discountOf_55 (by decide) ?_
      refine lv_idiv hx hb dX6_discountOf_57 (by decide) ?_
      refine lv_istore_n (lv' := [(3, .int (((v_X6_sumOf u j) * (u 1 2)) / (100 : Int32))), (2, .int (1 : Int32)), (0, .ref (a 0)), (1, .int (nI j))]) hx hb dX6_discountOf_58 rfl hl (by decide) rfl (fun ls hl => ?_)
      refine lv_iload_n hx hb dX6_discountOf_59 rfl (lv_at hl 1 rfl) ?_
      refine lv_if_ne (tgt := 67) hx hb dX6_discountOf_60 (by decide) (fun _ => ?_) (fun c => absurd c (by decide))
      refine lv_iload_n hx hb dX6_discountOf_67 rfl (lv_at hl 0 rfl) ?_
      refine lv_aload_n hx hb dX6_discountOf_68 rfl (lv_at hl 2 rfl) ?_
      refine lv_iload_n hx hb dX6_discountOf_69 rfl (lv_at hl 3 rfl) ?_
      refine r_callI S hK hP (c_X6_owedOn l G a hI u j (by omega) ) (r_cw S k_245 k_242 k_243 k_244 k_5 q_X6_owedOn ⟨Nat.le_of_ble_eq_true rfl, Nat.le_of_ble_eq_true rfl⟩ rfl rfl) (g_recv hK hP (i := 0) (by omega) mC0 rfl) rfl hl.1 rfl (Nat.le_of_ble_eq_true rfl) dX6_discountOf_70 ⟨Nat.zero_le _, Nat.zero_le _⟩ hS (fun _ h => h) (fun H locs hP _ _ hS => ?_)
      have hP : mP G a u H := hP
      refine lv_icmp_ge (tgt := 80) hx hb dX6_discountOf_73 (by decide) (fun c3 => ?_) (fun c3 => ?_)
      · skip
        refine lv_aload_n hx hb dX6_discountOf_80 rfl (lv_at hl 2 rfl) ?_
        refine lv_iload_n hx hb dX6_discountOf_81 rfl (lv_at hl 3 rfl) ?_
        refine r_callI S hK hP (c_X6_owedOn l G a hI u j (by omega) ) (r_cw S k_245 k_242 k_243 k_244 k_5 q_X6_owedOn ⟨Nat.le_of_ble_eq_true rfl, Nat.le_of_ble_eq_true rfl⟩ rfl rfl) (g_recv hK hP (i := 0) (by omega) mC0 rfl) rfl hl.1 rfl (Nat.le_of_ble_eq_true rfl) dX6_discountOf_82 ⟨Nat.zero_le _, Nat.zero_le _⟩ hS (fun _ h => h) (fun H locs hP _ _ hS => ?_)
        have hP : mP G a u H := hP
        refine lv_iconst (v := 1) hx hb dX6_discountOf_85 (by decide) ?_
        refine lv_isub hx hb dX6_discountOf_86 ?_
        exact e_int S hr hlk rfl hK hS hP (show v_X6_discountOf u j = (v_X6_owedOn u j) - (1 : Int32) from (if_pos c1).trans ((if_neg c2).trans ((if_pos c3).trans rfl))).symm dX6_discountOf_87
      · skip
        refine lv_iload_n hx hb dX6_discountOf_76 rfl (lv_at hl 0 rfl) ?_
        refine lv_goto (tgt := 87) hx hb dX6_discountOf_77 (by decide) ?_
        exact e_int S hr hlk rfl hK hS hP (show v_X6_discountOf u j = ((v_X6_sumOf u j) * (u 1 2)) / (100 : Int32) from (if_pos c1).trans ((if_neg c2).trans ((if_neg c3).trans rfl))).symm dX6_discountOf_87

def v_X6_isOverdue (u : Nat → Nat → Int32) (j : Nat) : Int32 := if v_X6_is u j (0 : Int32) = 0 then (0 : Int32) else if v_X6_daysSince u (u 1 (233 + 12 * j + 3)) ≤ u 1 (233 + 12 * j + 4) then (0 : Int32) else (1 : Int32)
theorem q_X6_isOverdue : yX6_isOverdue.cls ≠ "java/lang/invoke/MethodHandle" ∧ yX6_isOverdue.cls ≠ "java/lang/invoke/VarHandle" ∧ (parseMethodDescriptor yX6_isOverdue.desc).map (fun d => d.parameters.length) = some 1 := ⟨by decide, by decide, by decide +kernel⟩
theorem z_X6_isOverdue (u : Nat → Nat → Int32) (j : Nat) : narrow .boolean (.int (v_X6_isOverdue u j)) = .int (v_X6_isOverdue u j) := by
  unfold v_X6_isOverdue
  exact z_ite z_0 (z_ite z_0 z_1)
set_option maxHeartbeats 4000000 in
set_option maxRecDepth 100000 in
theorem c_X6_isOverdue (l : Launch) (G : kG) (a : Nat → Nat) (hI : gI 8 a) (u : Nat → Nat → Int32) (j : Nat) (hj : j < 40) : Met l yX6_isOverdue (Cond.code yX6_isOverdue cX6_isOverdue 2 (some .boolean) :: BIG) (rmK 2) (pcG G (mP G a u) [.ref (a 0), .int (nI j)]) (qcI G (gA 8 a) (mP G a u) (v_X6_isOverdue u j)) 0 0 (gA 8 a) := by
  refine m_start (by decide) (Nat.le_of_ble_eq_true rfl) ?_
  intro p e s m args below meth c S hr hlk hnm hP hK ls hl
  have hx := S.1
  have hb := S.2.1
  have hown := S.2.2.2.1
  have hS : va_S (gA 8 a) s.heap s.heap [] := va_S.rf
  have hl : lv_has ls 2 [(0, .ref (a 0)), (1, .int (nI j))] := hl
  refine lv_aload_n hx hb dX6_isOverdue_0 rfl (lv_at hl 0 rfl) ?_
  refine lv_iload_n hx hb dX6_isOverdue_1 rfl (lv_at hl 1 rfl) ?_
  refine lv_iconst (v := 0) hx hb dX6_isOverdue_2 (by decide) ?_
  refine r_callI S hK hP (c_X6_is l G a hI u j (by omega) _ ) (r_cw S k_290 k_287 k_288 k_289 k_5 q_X6_is ⟨Nat.le_of_ble_eq_true rfl, Nat.le_of_ble_eq_true rfl⟩ rfl rfl) (g_recv hK hP (i := 0) (by omega) mC0 rfl) rfl hl.1 rfl (Nat.le_of_ble_eq_true rfl) dX6_isOverdue_3 ⟨Nat.zero_le _, Nat.zero_le _⟩ hS (fun _ h => h) (fun H locs hP _ _ hS => ?_)
  have hP : mP G a u H := hP
  refine lv_if_eq (tgt := 40) hx hb dX6_isOverdue_6 (by decide) (fun c1 => ?_) (fun c1 => ?_)
  · skip
    refine lv_iconst (v := 0) hx hb dX6_isOverdue_40 (by decide) ?_
    exact e_int S hr hlk rfl hK hS hP (show v_X6_isOverdue u j = (0 : Int32) from (if_pos c1).trans rfl).symm dX6_isOverdue_41
  · skip
    refine lv_aload_n hx hb dX6_isOverdue_9 rfl (lv_at hl 0 rfl) ?_
    refine lv_aload_n hx hb dX6_isOverdue_10 rfl (lv_at hl 0 rfl) ?_
    refine g_get S hK hP (i := 0) (by omega) mC0 rfl inlX6 0 (by decide) k_67 (v := .ref (a 1)) rfl dX6_isOverdue_11 ?_
    refine lv_iload_n hx hb dX6_isOverdue_14 rfl (lv_at hl 1 rfl) ?_
    refine lv_iconst (v := 3) hx hb dX6_isOverdue_15 (by decide) ?_
    refine r_callS S hK hP (c_X6_of l G (mP G a u) (gA 8 a) j 3 trivial trivial ) (r_cs S k_221 k_219 k_220 k_5 q_X6_of ⟨Nat.le_of_ble_eq_true rfl, Nat.le_of_ble_eq_true rfl⟩ rfl rfl) rfl hl.1 rfl (Nat.le_of_ble_eq_true rfl) dX6_isOverdue_16 ⟨Nat.zero_le _, Nat.zero_le _⟩ hS (fun _ h => h) (fun H locs hP _ _ hS => ?_)
    have hP : mP G a u H := hP
    refine r_top (v := nI (233 + 12 * j + 3)) rfl ?_
    refine g_aldN S hK hP (i := 1) (by omega) mC1 (k := 233 + 12 * j + 3) (by omega) (by decide) (v := u 1 (233 + 12 * j + 3)) (rfl) dX6_isOverdue_19 ?_
    refine r_callI S hK hP (c_X6_daysSince l G a hI u _ ) (r_cw S k_233 k_230 k_231 k_232 k_5 q_X6_daysSince ⟨Nat.le_of_ble_eq_true rfl, Nat.le_of_ble_eq_true rfl⟩ rfl rfl) (g_recv hK hP (i := 0) (by omega) mC0 rfl) rfl hl.1 rfl (Nat.le_of_ble_eq_true rfl) dX6_isOverdue_20 ⟨Nat.zero_le _, Nat.zero_le _⟩ hS (fun _ h => h) (fun H locs hP _ _ hS => ?_)
    have hP : mP G a u H := hP
    refine lv_aload_n hx hb dX6_isOverdue_23 rfl (lv_at hl 0 rfl) ?_
    refine g_get S hK hP (i := 0) (by omega) mC0 rfl inlX6 0 (by decide) k_67 (v := .ref (a 1)) rfl dX6_isOverdue_24 ?_
    refine lv_iload_n hx hb dX6_isOverdue_27 rfl (lv_at hl 1 rfl) ?_
    refine lv_iconst (v := 4) hx hb dX6_isOverdue_28 (by decide) ?_
    refine r_callS S hK hP (c_X6_of l G (mP G a u) (gA 8 a) j 4 trivial trivial ) (r_cs S k_221 k_219 k_220 k_5 q_X6_of ⟨Nat.le_of_ble_eq_true rfl, Nat.le_of_ble_eq_true rfl⟩ rfl rfl) rfl hl.1 rfl (Nat.le_of_ble_eq_true rfl) dX6_isOverdue_29 ⟨Nat.zero_le _, Nat.zero_le _⟩ hS (fun _ h => h) (fun H locs hP _ _ hS => ?_)
    have hP : mP G a u H := hP
    refine r_top (v := nI (233 + 12 * j + 4)) rfl ?_
    refine g_aldN S hK hP (i := 1) (by omega) mC1 (k := 233 + 12 * j + 4) (by omega) (by decide) (v := u 1 (233 + 12 * j + 4)) (rfl) dX6_isOverdue_32 ?_
    refine lv_icmp_le (tgt := 40) hx hb dX6_isOverdue_33 (by decide) (fun c2 => ?_) (fun c2 => ?_)
    · skip
      refine lv_iconst (v := 0) hx hb dX6_isOverdue_40 (by decide) ?_
      exact e_int S hr hlk rfl hK hS hP (show v_X6_isOverdue u j = (0 : Int32) from (if_neg c1).trans ((if_pos c2).trans rfl)).symm dX6_isOverdue_41
    · skip
      refine lv_iconst (v := 1) hx hb dX6_isOverdue_36 (by decide) ?_
      refine lv_goto (tgt := 41) hx hb dX6_isOverdue_37 (by decide) ?_
      exact e_int S hr hlk rfl hK hS hP (show v_X6_isOverdue u j = (1 : Int32) from (if_neg c1).trans ((if_neg c2).trans rfl)).symm dX6_isOverdue_41

def v_X6_dueDay (u : Nat → Nat → Int32) (j : Nat) : Int32 := (u 1 (233 + 12 * j + 3)) + (u 1 (233 + 12 * j + 4))
theorem q_X6_dueDay : yX6_dueDay.cls ≠ "java/lang/invoke/MethodHandle" ∧ yX6_dueDay.cls ≠ "java/lang/invoke/VarHandle" ∧ (parseMethodDescriptor yX6_dueDay.desc).map (fun d => d.parameters.length) = some 1 := ⟨by decide, by decide, by decide +kernel⟩
set_option maxHeartbeats 4000000 in
set_option maxRecDepth 100000 in
theorem c_X6_dueDay (l : Launch) (G : kG) (a : Nat → Nat) (hI : gI 8 a) (u : Nat → Nat → Int32) (j : Nat) (hj : j < 40) : Met l yX6_dueDay (Cond.code yX6_dueDay cX6_dueDay 2 (some .int) :: BIG) (rmK 1) (pcG G (mP G a u) [.ref (a 0), .int (nI j)]) (qcI G (gA 8 a) (mP G a u) (v_X6_dueDay u j)) 0 0 (gA 8 a) := by
  refine m_start (by decide) (Nat.le_of_ble_eq_true rfl) ?_
  intro p e s m args below meth c S hr hlk hnm hP hK ls hl
  have hx := S.1
  have hb := S.2.1
  have hown := S.2.2.2.1
  have hS : va_S (gA 8 a) s.heap s.heap [] := va_S.rf
  have hl : lv_has ls 2 [(0, .ref (a 0)), (1, .int (nI j))] := hl
  refine lv_aload_n hx hb dX6_dueDay_0 rfl (lv_at hl 0 rfl) ?_
  refine g_get S hK hP (i := 0) (by omega) mC0 rfl inlX6 0 (by decide) k_67 (v := .ref (a 1)) rfl dX6_dueDay_1 ?_
  refine lv_iload_n hx hb dX6_dueDay_4 rfl (lv_at hl 1 rfl) ?_
  refine lv_iconst (v := 3) hx hb dX6_dueDay_5 (by decide) ?_
  refine r_callS S hK hP (c_X6_of l G (mP G a u) (gA 8 a) j 3 trivial trivial ) (r_cs S k_221 k_219 k_220 k_5 q_X6_of ⟨Nat.le_of_ble_eq_true rfl, Nat.le_of_ble_eq_true rfl⟩ rfl rfl) rfl hl.1 rfl (Nat.le_of_ble_eq_true rfl) dX6_dueDay_6 ⟨Nat.zero_le _, Nat.zero_le _⟩ hS (fun _ h => h) (fun H locs hP _ _ hS => ?_)
  have hP : mP G a u H := hP
  refine r_top (v := nI (233 + 12 * j + 3)) rfl ?_
  refine g_aldN S hK hP (i := 1) (by omega) mC1 (k := 233 + 12 * j + 3) (by omega) (by decide) (v := u 1 (233 + 12 * j + 3)) (rfl) dX6_dueDay_9 ?_
  refine lv_aload_n hx hb dX6_dueDay_10 rfl (lv_at hl 0 rfl) ?_
  refine g_get S hK hP (i := 0) (by omega) mC0 rfl inlX6 0 (by decide) k_67 (v := .ref (a 1)) rfl dX6_dueDay_11 ?_
  refine lv_iload_n hx hb dX6_dueDay_14 rfl (lv_at hl 1 rfl) ?_
  refine lv_iconst (v := 4) hx hb dX6_dueDay_15 (by decide) ?_
  refine r_callS S hK hP (c_X6_of l G (mP G a u) (gA 8 a) j 4 trivial trivial ) (r_cs S k_221 k_219 k_220 k_5 q_X6_of ⟨Nat.le_of_ble_eq_true rfl, Nat.le_of_ble_eq_true rfl⟩ rfl rfl) rfl hl.1 rfl (Nat.le_of_ble_eq_true rfl) dX6_dueDay_16 ⟨Nat.zero_le _, Nat.zero_le _⟩ hS (fun _ h => h) (fun H locs hP _ _ hS => ?_)
  have hP : mP G a u H := hP
  refine r_top (v := nI (233 + 12 * j + 4)) rfl ?_
  refine g_aldN S hK hP (i := 1) (by omega) mC1 (k := 233 + 12 * j + 4) (by omega) (by decide) (v := u 1 (233 + 12 * j + 4)) (rfl) dX6_dueDay_19 ?_
  refine lv_iadd hx hb dX6_dueDay_20 ?_
  exact e_int S hr hlk rfl hK hS hP (show v_X6_dueDay u j = (u 1 (233 + 12 * j + 3)) + (u 1 (233 + 12 * j + 4)) from rfl).symm dX6_dueDay_21

def v_X6_countedFrom (u : Nat → Nat → Int32) (j : Nat) : Int32 := if u 1 (233 + 12 * j + 9) = 0 then (v_X6_dueDay u j) else u 1 (233 + 12 * j + 10)
theorem q_X6_countedFrom : yX6_countedFrom.cls ≠ "java/lang/invoke/MethodHandle" ∧ yX6_countedFrom.cls ≠ "java/lang/invoke/VarHandle" ∧ (parseMethodDescriptor yX6_countedFrom.desc).map (fun d => d.parameters.length) = some 1 := ⟨by decide, by decide, by decide +kernel⟩
set_option maxHeartbeats 4000000 in
set_option maxRecDepth 100000 in
theorem c_X6_countedFrom (l : Launch) (G : kG) (a : Nat → Nat) (hI : gI 8 a) (u : Nat → Nat → Int32) (j : Nat) (hj : j < 40) : Met l yX6_countedFrom (Cond.code yX6_countedFrom cX6_countedFrom 2 (some .int) :: BIG) (rmK 2) (pcG G (mP G a u) [.ref (a 0), .int (nI j)]) (qcI G (gA 8 a) (mP G a u) (v_X6_countedFrom u j)) 0 0 (gA 8 a) := by
  refine m_start (by decide) (Nat.le_of_ble_eq_true rfl) ?_
  intro p e s m args below meth c S hr hlk hnm hP hK ls hl
  have hx := S.1
  have hb := S.2.1
  have hown := S.2.2.2.1
  have hS : va_S (gA 8 a) s.heap s.heap [] := va_S.rf
  have hl : lv_has ls 2 [(0, .ref (a 0)), (1, .int (nI j))] := hl
  refine lv_aload_n hx hb dX6_countedFrom_0 rfl (lv_at hl 0 rfl) ?_
  refine g_get S hK hP (i := 0) (by omega) mC0 rfl inlX6 0 (by decide) k_67 (v := .ref (a 1)) rfl dX6_countedFrom_1 ?_
  refine lv_iload_n hx hb dX6_countedFrom_4 rfl (lv_at hl 1 rfl) ?_
  refine lv_bipush (v := 9) hx hb dX6_countedFrom_5 (by decide) ?_
  refine r_callS S hK hP (c_X6_of l G (mP G a u) (gA 8 a) j 9 trivial trivial ) (r_cs S k_221 k_219 k_220 k_5 q_X6_of ⟨Nat.le_of_ble_eq_true rfl, Nat.le_of_ble_eq_true rfl⟩ rfl rfl) rfl hl.1 rfl (Nat.le_of_ble_eq_true rfl) dX6_countedFrom_7 ⟨Nat.zero_le _, Nat.zero_le _⟩ hS (fun _ h => h) (fun H locs hP _ _ hS => ?_)
  have hP : mP G a u H := hP
  refine r_top (v := nI (233 + 12 * j + 9)) rfl ?_
  refine g_aldN S hK hP (i := 1) (by omega) mC1 (k := 233 + 12 * j + 9) (by omega) (by decide) (v := u 1 (233 + 12 * j + 9)) (rfl) dX6_countedFrom_10 ?_
  refine lv_if_ne (tgt := 22) hx hb dX6_countedFrom_11 (by decide) (fun c1 => ?_) (fun c1 => ?_)
  · skip
    refine lv_aload_n hx hb dX6_countedFrom_22 rfl (lv_at hl 0 rfl) ?_
    refine g_get S hK hP (i := 0) (by omega) mC0 rfl inlX6 0 (by decide) k_67 (v := .ref (a 1)) rfl dX6_countedFrom_23 ?_
    refine lv_iload_n hx hb dX6_countedFrom_26 rfl (lv_at hl 1 rfl) ?_
    refine lv_bipush (v := 10) hx hb dX6_countedFrom_27 (by decide) ?_
    refine r_callS S hK hP (c_X6_of l G (mP G a u) (gA 8 a) j 10 trivial trivial ) (r_cs S k_221 k_219 k_220 k_5 q_X6_of ⟨Nat.le_of_ble_eq_true rfl, Nat.le_of_ble_eq_true rfl⟩ rfl rfl) rfl hl.1 rfl (Nat.le_of_ble_eq_true rfl) dX6_countedFrom_29 ⟨Nat.zero_le _, Nat.zero_le _⟩ hS (fun _ h => h) (fun H locs hP _ _ hS => ?_)
    have hP : mP G a u H := hP
    refine r_top (v := nI (233 + 12 * j + 10)) rfl ?_
    refine g_aldN S hK hP (i := 1) (by omega) mC1 (k := 233 + 12 * j + 10) (by omega) (by decide) (v := u 1 (233 + 12 * j + 10)) (rfl) dX6_countedFrom_32 ?_
    exact e_int S hr hlk rfl hK hS hP (show v_X6_countedFrom u j = u 1 (233 + 12 * j + 10) from (if_neg c1).trans rfl).symm dX6_countedFrom_33
  · skip
    refine lv_aload_n hx hb dX6_countedFrom_14 rfl (lv_at hl 0 rfl) ?_
    refine lv_iload_n hx hb dX6_countedFrom_15 rfl (lv_at hl 1 rfl) ?_
    refine r_callI S hK hP (c_X6_dueDay l G a hI u j (by omega) ) (r_cw S k_421 k_418 k_419 k_420 k_5 q_X6_dueDay ⟨Nat.le_of_ble_eq_true rfl, Nat.le_of_ble_eq_true rfl⟩ rfl rfl) (g_recv hK hP (i := 0) (by omega) mC0 rfl) rfl hl.1 rfl (Nat.le_of_ble_eq_true rfl) dX6_countedFrom_16 ⟨Nat.zero_le _, Nat.zero_le _⟩ hS (fun _ h => h) (fun H locs hP _ _ hS => ?_)
    have hP : mP G a u H := hP
    refine lv_goto (tgt := 33) hx hb dX6_countedFrom_19 (by decide) ?_
    exact e_int S hr hlk rfl hK hS hP (show v_X6_countedFrom u j = v_X6_dueDay u j from (if_pos c1).trans rfl).symm dX6_countedFrom_33

def v_X6_why (u : Nat → Nat → Int32) (j : Nat) : Int32 := if v_X6_is u j (0 : Int32) = 0 then (if v_X6_is u j (1 : Int32) = 0 then (2 : Int32) else (1 : Int32)) else if v_X6_isOverdue u j = 0 then (3 : Int32) else if u 1 (233 + 12 * j + 9) = (3 : Int32) then (4 : Int32) else if u 1 3 ≤ v_X6_daysSince u (v_X6_countedFrom u j) then (0 : Int32) else (5 : Int32)
theorem q_X6_why : yX6_why.cls ≠ "java/lang/invoke/MethodHandle" ∧ yX6_why.cls ≠ "java/lang/invoke/VarHandle" ∧ (parseMethodDescriptor yX6_why.desc).map (fun d => d.parameters.length) = some 1 := ⟨by decide, by decide, by decide +kernel⟩
set_option maxHeartbeats 4000000 in
set_option maxRecDepth 100000 in
theorem c_X6_why (l : Launch) (G : kG) (a : Nat → Nat) (hI : gI 8 a) (u : Nat → Nat → Int32) (j : Nat) (hj : j < 40) : Met l yX6_why (Cond.code yX6_why cX6_why 2 (some .int) :: BIG) (rmK 3) (pcG G (mP G a u) [.ref (a 0), .int (nI j)]) (qcI G (gA 8 a) (mP G a u) (v_X6_why u j)) 0 0 (gA 8 a) := by
  refine m_start (by decide) (Nat.le_of_ble_eq_true rfl) ?_
  intro p e s m args below meth c S hr hlk hnm hP hK ls hl
  have hx := S.1
  have hb := S.2.1
  have hown := S.2.2.2.1
  have hS : va_S (gA 8 a) s.heap s.heap [] := va_S.rf
  have hl : lv_has ls 2 [(0, .ref (a 0)), (1, .int (nI j))] := hl
  refine lv_aload_n hx hb dX6_why_0 rfl (lv_at hl 0 rfl) ?_
  refine lv_iload_n hx hb dX6_why_1 rfl (lv_at hl 1 rfl) ?_
  refine lv_iconst (v := 0) hx hb dX6_why_2 (by decide) ?_
  refine r_callI S hK hP (c_X6_is l G a hI u j (by omega) _ ) (r_cw S k_290 k_287 k_288 k_289 k_5 q_X6_is ⟨Nat.le_of_ble_eq_true rfl, Nat.le_of_ble_eq_true rfl⟩ rfl rfl) (g_recv hK hP (i := 0) (by omega) mC0 rfl) rfl hl.1 rfl (Nat.le_of_ble_eq_true rfl) dX6_why_3 ⟨Nat.zero_le _, Nat.zero_le _⟩ hS (fun _ h => h) (fun H locs hP _ _ hS => ?_)
  have hP : mP G a u H := hP
  refine lv_if_ne (tgt := 24) hx hb dX6_why_6 (by decide) (fun c1 => ?_) (fun c1 => ?_)
  · skip
    refine lv_aload_n hx hb dX6_why_24 rfl (lv_at hl 0 rfl) ?_
    refine lv_iload_n hx hb dX6_why_25 rfl (lv_at hl 1 rfl) ?_
    refine r_callI S hK hP (c_X6_isOverdue l G a hI u j (by omega) ) (r_cw S k_368 k_365 k_366 k_367 k_5 q_X6_isOverdue ⟨Nat.le_of_ble_eq_true rfl, Nat.le_of_ble_eq_true rfl⟩ rfl rfl) (g_recv hK hP (i := 0) (by omega) mC0 rfl) rfl hl.1 rfl (Nat.le_of_ble_eq_true rfl) dX6_why_26 ⟨Nat.zero_le _, Nat.zero_le _⟩ hS (fun _ h => h) (fun H locs hP _ _ hS => ?_)
    have hP : mP G a u H := hP
    refine lv_if_ne (tgt := 36) hx hb dX6_why_29 (by decide) (fun c2 => ?_) (fun c2 => ?_)
    · skip
      refine lv_aload_n hx hb dX6_why_36 rfl (lv_at hl 0 rfl) ?_
      refine g_get S hK hP (i := 0) (by omega) mC0 rfl inlX6 0 (by decide) k_67 (v := .ref (a 1)) rfl dX6_why_37 ?_
      refine lv_iload_n hx hb dX6_why_40 rfl (lv_at hl 1 rfl) ?_
      refine lv_bipush (v := 9) hx hb dX6_why_41 (by decide) ?_
      refine r_callS S hK hP (c_X6_of l G (mP G a u) (gA 8 a) j 9 trivial trivial ) (r_cs S k_221 k_219 k_220 k_5 q_X6_of ⟨Nat.le_of_ble_eq_true rfl, Nat.le_of_ble_eq_true rfl⟩ rfl rfl) rfl hl.1 rfl (Nat.le_of_ble_eq_true rfl) dX6_why_43 ⟨Nat.zero_le _, Nat.zero_le _⟩ hS (fun _ h => h) (fun H locs hP _ _ hS => ?_)
      have hP : mP G a u H := hP
      refine r_top (v := nI (233 + 12 * j + 9)) rfl ?_
      refine g_aldN S hK hP (i := 1) (by omega) mC1 (k := 233 + 12 * j + 9) (by omega) (by decide) (v := u 1 (233 + 12 * j + 9)) (rfl) dX6_why_46 ?_
      refine lv_iconst (v := 3) hx hb dX6_why_47 (by decide) ?_
      refine lv_icmp_ne (tgt := 55) hx hb dX6_why_48 (by decide) (fun c3 => ?_) (fun c3 => ?_)
      · skip
        refine lv_aload_n hx hb dX6_why_55 rfl (lv_at hl 0 rfl) ?_
        refine lv_aload_n hx hb dX6_why_56 rfl (lv_at hl 0 rfl) ?_
        refine lv_iload_n hx hb dX6_why_57 rfl (lv_at hl 1 rfl) ?_
        refine r_callI S hK hP (c_X6_countedFrom l G a hI u j (by omega) ) (r_cw S k_417 k_414 k_415 k_416 k_5 q_X6_countedFrom ⟨Nat.le_of_ble_eq_true rfl, Nat.le_of_ble_eq_true rfl⟩ rfl rfl) (g_recv hK hP (i := 0) (by omega) mC0 rfl) rfl hl.1 rfl (Nat.le_of_ble_eq_true rfl) dX6_why_58 ⟨Nat.zero_le _, Nat.zero_le _⟩ hS (fun _ h => h) (fun H locs hP _ _ hS => ?_)
        have hP : mP G a u H := hP
        refine r_callI S hK hP (c_X6_daysSince l G a hI u _ ) (r_cw S k_233 k_230 k_231 k_232 k_5 q_X6_daysSince ⟨Nat.le_of_ble_eq_true rfl, Nat.le_of_ble_eq_true rfl⟩ rfl rfl) (g_recv hK hP (i := 0) (by omega) mC0 rfl) rfl hl.1 rfl (Nat.le_of_ble_eq_true rfl) dX6_why_61 ⟨Nat.zero_le _, Nat.zero_le _⟩ hS (fun _ h => h) (fun H locs hP _ _ hS => ?_)
        have hP : mP G a u H := hP
        refine lv_aload_n hx hb dX6_why_64 rfl (lv_at hl 0 rfl) ?_
        refine g_get S hK hP (i := 0) (by omega) mC0 rfl inlX6 0 (by decide) k_67 (v := .ref (a 1)) rfl dX6_why_65 ?_
        refine lv_iconst (v := 3) hx hb dX6_why_68 (by decide) ?_
        refine g_aldN S hK hP (i := 1) (by omega) mC1 (k := 3) (by omega) (by decide) (v := u 1 3) (rfl) dX6_why_69 ?_
        refine lv_icmp_ge (tgt := 77) hx hb dX6_why_70 (by decide) (fun c4 => ?_) (fun c4 => ?_)
        · skip
          refine lv_iconst (v := 0) hx hb dX6_why_77 (by decide) ?_
          exact e_int S hr hlk rfl hK hS hP (show v_X6_why u j = (0 : Int32) from (if_neg c1).trans ((if_neg c2).trans ((if_neg c3).trans ((if_pos c4).trans rfl)))).symm dX6_why_78
        · skip
          refine lv_iconst (v := 5) hx hb dX6_why_73 (by decide) ?_
          refine lv_goto (tgt := 78) hx hb dX6_why_74 (by decide) ?_
          exact e_int S hr hlk rfl hK hS hP (show v_X6_why u j = (5 : Int32) from (if_neg c1).trans ((if_neg c2).trans ((if_neg c3).trans ((if_neg c4).trans rfl)))).symm dX6_why_78
      · skip
        refine lv_iconst (v := 4) hx hb dX6_why_51 (by decide) ?_
        refine lv_goto (tgt := 78) hx hb dX6_why_52 (by decide) ?_
        exact e_int S hr hlk rfl hK hS hP (show v_X6_why u j = (4 : Int32) from (if_neg c1).trans ((if_neg c2).trans ((if_pos c3).trans rfl))).symm dX6_why_78
    · skip
      refine lv_iconst (v := 3) hx hb dX6_why_32 (by decide) ?_
      refine lv_goto (tgt := 78) hx hb dX6_why_33 (by decide) ?_
      exact e_int S hr hlk rfl hK hS hP (show v_X6_why u j = (3 : Int32) from (if_neg c1).trans ((if_pos c2).trans rfl)).symm dX6_why_78
  · skip
    refine lv_aload_n hx hb dX6_why_9 rfl (lv_at hl 0 rfl) ?_
    refine lv_iload_n hx hb dX6_why_10 rfl (lv_at hl 1 rfl) ?_
    refine lv_iconst (v := 1) hx hb dX6_why_11 (by decide) ?_
    refine r_callI S hK hP (c_X6_is l G a hI u j (by omega) _ ) (r_cw S k_290 k_287 k_288 k_289 k_5 q_X6_is ⟨Nat.le_of_ble_eq_true rfl, Nat.le_of_ble_eq_true rfl⟩ rfl rfl) (g_recv hK hP (i := 0) (by omega) mC0 rfl) rfl hl.1 rfl (Nat.le_of_ble_eq_true rfl) dX6_why_12 ⟨Nat.zero_le _, Nat.zero_le _⟩ hS (fun _ h => h) (fun H locs hP _ _ hS => ?_)
    have hP : mP G a u H := hP
    refine lv_if_eq (tgt := 22) hx hb dX6_why_15 (by decide) (fun c5 => ?_) (fun c5 => ?_)
    · skip
      refine lv_iconst (v := 2) hx hb dX6_why_22 (by decide) ?_
      exact e_int S hr hlk rfl hK hS hP (show v_X6_why u j = (2 : Int32) from (if_pos c1).trans ((if_pos c5).trans rfl)).symm dX6_why_23
    · skip
      refine lv_iconst (v := 1) hx hb dX6_why_18 (by decide) ?_
      refine lv_goto (tgt := 23) hx hb dX6_why_19 (by decide) ?_
      exact e_int S hr hlk rfl hK hS hP (show v_X6_why u j = (1 : Int32) from (if_pos c1).trans ((if_neg c5).trans rfl)).symm dX6_why_23

def v_X6_canBeOff (u : Nat → Nat → Int32) (j : Nat) : Int32 := if v_X6_is u j (0 : Int32) = 0 then (0 : Int32) else if u 1 (233 + 12 * j + 9) = (3 : Int32) then (if v_X6_daysSince u (u 1 (233 + 12 * j + 10)) < u 1 3 then (0 : Int32) else (1 : Int32)) else (0 : Int32)
theorem q_X6_canBeOff : yX6_canBeOff.cls ≠ "java/lang/invoke/MethodHandle" ∧ yX6_canBeOff.cls ≠ "java/lang/invoke/VarHandle" ∧ (parseMethodDescriptor yX6_canBeOff.desc).map (fun d => d.parameters.length) = some 1 := ⟨by decide, by decide, by decide +kernel⟩
theorem z_X6_canBeOff (u : Nat → Nat → Int32) (j : Nat) : narrow .boolean (.int (v_X6_canBeOff u j)) = .int (v_X6_canBeOff u j) := by
  unfold v_X6_canBeOff
  exact z_ite z_0 (z_ite (z_ite z_0 z_1) z_0)
set_option maxHeartbeats 4000000 in
set_option maxRecDepth 100000 in
theorem c_X6_canBeOff (l : Launch) (G : kG) (a : Nat → Nat) (hI : gI 8 a) (u : Nat → Nat → Int32) (j : Nat) (hj : j < 40) : Met l yX6_canBeOff (Cond.code yX6_canBeOff cX6_canBeOff 2 (some .boolean) :: BIG) (rmK 2) (pcG G (mP G a u) [.ref (a 0), .int (nI j)]) (qcI G (gA 8 a) (mP G a u) (v_X6_canBeOff u j)) 0 0 (gA 8 a) := by
  refine m_start (by decide) (Nat.le_of_ble_eq_true rfl) ?_
  intro p e s m args below meth c S hr hlk hnm hP hK ls hl
  have hx := S.1
  have hb := S.2.1
  have hown := S.2.2.2.1
  have hS : va_S (gA 8 a) s.heap s.heap [] := va_S.rf
  have hl : lv_has ls 2 [(0, .ref (a 0)), (1, .int (nI j))] := hl
  refine lv_aload_n hx hb dX6_canBeOff_0 rfl (lv_at hl 0 rfl) ?_
  refine lv_iload_n hx hb dX6_canBeOff_1 rfl (lv_at hl 1 rfl) ?_
  refine lv_iconst (v := 0) hx hb dX6_canBeOff_2 (by decide) ?_
  refine r_callI S hK hP (c_X6_is l G a hI u j (by omega) _ ) (r_cw S k_290 k_287 k_288 k_289 k_5 q_X6_is ⟨Nat.le_of_ble_eq_true rfl, Nat.le_of_ble_eq_true rfl⟩ rfl rfl) (g_recv hK hP (i := 0) (by omega) mC0 rfl) rfl hl.1 rfl (Nat.le_of_ble_eq_true rfl) dX6_canBeOff_3 ⟨Nat.zero_le _, Nat.zero_le _⟩ hS (fun _ h => h) (fun H locs hP _ _ hS => ?_)
  have hP : mP G a u H := hP
  refine lv_if_eq (tgt := 52) hx hb dX6_canBeOff_6 (by decide) (fun c1 => ?_) (fun c1 => ?_)
  · skip
    refine lv_iconst (v := 0) hx hb dX6_canBeOff_52 (by decide) ?_
    exact e_int S hr hlk rfl hK hS hP (show v_X6_canBeOff u j = (0 : Int32) from (if_pos c1).trans rfl).symm dX6_canBeOff_53
  · skip
    refine lv_aload_n hx hb dX6_canBeOff_9 rfl (lv_at hl 0 rfl) ?_
    refine g_get S hK hP (i := 0) (by omega) mC0 rfl inlX6 0 (by decide) k_67 (v := .ref (a 1)) rfl dX6_canBeOff_10 ?_
    refine lv_iload_n hx hb dX6_canBeOff_13 rfl (lv_at hl 1 rfl) ?_
    refine lv_bipush (v := 9) hx hb dX6_canBeOff_14 (by decide) ?_
    refine r_callS S hK hP (c_X6_of l G (mP G a u) (gA 8 a) j 9 trivial trivial ) (r_cs S k_221 k_219 k_220 k_5 q_X6_of ⟨Nat.le_of_ble_eq_true rfl, Nat.le_of_ble_eq_true rfl⟩ rfl rfl) rfl hl.1 rfl (Nat.le_of_ble_eq_true rfl) dX6_canBeOff_16 ⟨Nat.zero_le _, Nat.zero_le _⟩ hS (fun _ h => h) (fun H locs hP _ _ hS => ?_)
    have hP : mP G a u H := hP
    refine r_top (v := nI (233 + 12 * j + 9)) rfl ?_
    refine g_aldN S hK hP (i := 1) (by omega) mC1 (k := 233 + 12 * j + 9) (by omega) (by decide) (v := u 1 (233 + 12 * j + 9)) (rfl) dX6_canBeOff_19 ?_
    refine lv_iconst (v := 3) hx hb dX6_canBeOff_20 (by decide) ?_
    refine lv_icmp_ne (tgt := 52) hx hb dX6_canBeOff_21 (by decide) (fun c2 => ?_) (fun c2 => ?_)
    · skip
      refine lv_iconst (v := 0) hx hb dX6_canBeOff_52 (by decide) ?_
      exact e_int S hr hlk rfl hK hS hP (show v_X6_canBeOff u j = (0 : Int32) from (if_neg c1).trans ((if_neg c2).trans rfl)).symm dX6_canBeOff_53
    · skip
      refine lv_aload_n hx hb dX6_canBeOff_24 rfl (lv_at hl 0 rfl) ?_
      refine lv_aload_n hx hb dX6_canBeOff_25 rfl (lv_at hl 0 rfl) ?_
      refine g_get S hK hP (i := 0) (by omega) mC0 rfl inlX6 0 (by decide) k_67 (v := .ref (a 1)) rfl dX6_canBeOff_26 ?_
      refine lv_iload_n hx hb dX6_canBeOff_29 rfl (lv_at hl 1 rfl) ?_
      refine lv_bipush (v := 10) hx hb dX6_canBeOff_30 (by decide) ?_
      refine r_callS S hK hP (c_X6_of l G (mP G a u) (gA 8 a) j 10 trivial trivial ) (r_cs S k_221 k_219 k_220 k_5 q_X6_of ⟨Nat.le_of_ble_eq_true rfl, Nat.le_of_ble_eq_true rfl⟩ rfl rfl) rfl hl.1 rfl (Nat.le_of_ble_eq_true rfl) dX6_canBeOff_32 ⟨Nat.zero_le _, Nat.zero_le _⟩ hS (fun _ h => h) (fun H locs hP _ _ hS => ?_)
      have hP : mP G a u H := hP
      refine r_top (v := nI (233 + 12 * j + 10)) rfl ?_
      refine g_aldN S hK hP (i := 1) (by omega) mC1 (k := 233 + 12 * j + 10) (by omega) (by decide) (v := u 1 (233 + 12 * j + 10)) (rfl) dX6_canBeOff_35 ?_
      refine r_callI S hK hP (c_X6_daysSince l G a hI u _ ) (r_cw S k_233 k_230 k_231 k_232 k_5 q_X6_daysSince ⟨Nat.le_of_ble_eq_true rfl, Nat.le_of_ble_eq_true rfl⟩ rfl rfl) (g_recv hK hP (i := 0) (by omega) mC0 rfl) rfl hl.1 rfl (Nat.le_of_ble_eq_true rfl) dX6_canBeOff_36 ⟨Nat.zero_le _, Nat.zero_le _⟩ hS (fun _ h => h) (fun H locs hP _ _ hS => ?_)
      have hP : mP G a u H := hP
      refine lv_aload_n hx hb dX6_canBeOff_39 rfl (lv_at hl 0 rfl) ?_
      refine g_get S hK hP (i := 0) (by omega) mC0 rfl inlX6 0 (by decide) k_67 (v := .ref (a 1)) rfl dX6_canBeOff_40 ?_
      refine lv_iconst (v := 3) hx hb dX6_canBeOff_43 (by decide) ?_
      refine g_aldN S hK hP (i := 1) (by omega) mC1 (k := 3) (by omega) (by decide) (v := u 1 3) (rfl) dX6_canBeOff_44 ?_
      refine lv_icmp_lt (tgt := 52) hx hb dX6_canBeOff_45 (by decide) (fun c3 => ?_) (fun c3 => ?_)
      · skip
        refine lv_iconst (v := 0) hx hb dX6_canBeOff_52 (by decide) ?_
        exact e_int S hr hlk rfl hK hS hP (show v_X6_canBeOff u j = (0 : Int32) from (if_neg c1).trans ((if_pos c2).trans ((if_pos c3).trans rfl))).symm dX6_canBeOff_53
      · skip
        refine lv_iconst (v := 1) hx hb dX6_canBeOff_48 (by decide) ?_
        refine lv_goto (tgt := 53) hx hb dX6_canBeOff_49 (by decide) ?_
        exact e_int S hr hlk rfl hK hS hP (show v_X6_canBeOff u j = (1 : Int32) from (if_neg c1).trans ((if_pos c2).trans ((if_neg c3).trans rfl))).symm dX6_canBeOff_53

def v_X6_owedBy_loop (u : Nat → Nat → Int32) (p1 : Int32) (p2 : Int32) : Nat → Nat → Int32 → Int32
  | 0, k, x3 => x3
  | n + 1, k, x3 => if v_X6_is u k p2 = 0 then (v_X6_owedBy_loop u p1 p2 n (k + 1) (x3 + (0 : Int32))) else if p1 = (-5 : Int32) then (v_X6_owedBy_loop u p1 p2 n (k + 1) (x3 + (v_X6_owedOn u k))) else if u 1 (233 + 12 * k + 0) = p1 then (v_X6_owedBy_loop u p1 p2 n (k + 1) (x3 + (v_X6_owedOn u k))) else v_X6_owedBy_loop u p1 p2 n (k + 1) (x3 + (0 : Int32))
def v_X6_owedBy (u : Nat → Nat → Int32) (p1 : Int32) (p2 : Int32) : Int32 := v_X6_owedBy_loop u p1 p2 (sN (u 1) 6) 0 (0 : Int32)
theorem q_X6_owedBy : yX6_owedBy.cls ≠ "java/lang/invoke/MethodHandle" ∧ yX6_owedBy.cls ≠ "java/lang/invoke/VarHandle" ∧ (parseMethodDescriptor yX6_owedBy.desc).map (fun d => d.parameters.length) = some 2 := ⟨by decide, by decide, by decide +kernel⟩
set_option maxHeartbeats 4000000 in
set_option maxRecDepth 100000 in
theorem c_X6_owedBy (l : Launch) (G : kG) (a : Nat → Nat) (hI : gI 8 a) (u : Nat → Nat → Int32) (p1 : Int32) (p2 : Int32) (hm : SI (u 1)) : Met l yX6_owedBy (Cond.code yX6_owedBy cX6_owedBy 5 (some .int) :: BIG) (rmK 4) (pcG G (mP G a u) [.ref (a 0), .int p1, .int p2]) (qcI G (gA 8 a) (mP G a u) (v_X6_owedBy u p1 p2)) 0 0 (gA 8 a) := by
  refine m_start (by decide) (Nat.le_of_ble_eq_true rfl) ?_
  have hnb := SI_nb2 hm
  intro p e s m args below meth c S hr hlk hnm hP hK ls hl
  have hx := S.1
  have hb := S.2.1
  have hown := S.2.2.2.1
  have hS : va_S (gA 8 a) s.heap s.heap [] := va_S.rf
  have hl : lv_has ls 5 [(0, .ref (a 0)), (1, .int p1), (2, .int p2)] := hl
  refine lv_iconst (v := 0) hx hb dX6_owedBy_0 (by decide) ?_
  refine lv_istore_n (lv' := [(3, .int (0 : Int32)), (0, .ref (a 0)), (1, .int p1), (2, .int p2)]) hx hb dX6_owedBy_1 rfl hl (by decide) rfl (fun ls hl => ?_)
  refine lv_iconst (v := 0) hx hb dX6_owedBy_2 (by decide) ?_
  refine lv_istore (lv' := [(4, .int (0 : Int32)), (3, .int (0 : Int32)), (0, .ref (a 0)), (1, .int p1), (2, .int p2)]) hx hb dX6_owedBy_3 hl (by decide) rfl (fun ls hl => ?_)
  have LP_loop : ∀ (n : Nat) (k : Nat), k + n = sN (u 1) 6 → ∀ (x3 : Int32) (H : Heap) (locs : List Loc), mP G a u H → va_S (gA 8 a) s.heap H locs → ∀ ls : Array Slot, lv_has ls 5 [(4, .int (nI k)), (3, .int x3), (0, .ref (a 0)), (1, .int p1), (2, .int p2)] → W p l e (rmK 4) s m args below meth c H locs 0 0 (MQ below (qcI G (gA 8 a) (mP G a u) (v_X6_owedBy_loop u p1 p2 n k x3)) args s 0 0 (gA 8 a)) (F0 m 5 ls []) := by
    intro n
    induction n with
    | zero =>
      intro k hk_LP_loop x3 H locs hP hS ls hl
      refine lv_iload hx hb dX6_owedBy_5 (lv_at hl 0 rfl) ?_
      refine lv_aload_n hx hb dX6_owedBy_7 rfl (lv_at hl 2 rfl) ?_
      refine g_get S hK hP (i := 0) (by omega) mC0 rfl inlX6 0 (by decide) k_67 (v := .ref (a 1)) rfl dX6_owedBy_8 ?_
      refine lv_bipush (v := 6) hx hb dX6_owedBy_11 (by decide) ?_
      refine g_aldN S hK hP (i := 1) (by omega) mC1 (k := 6) (by omega) (by decide) (v := u 1 6) (rfl) dX6_owedBy_13 ?_
      refine r_top (v := nI (sN (u 1) 6)) (SI_nb hm) ?_
      refine lv_icmp_ge (tgt := 67) hx hb dX6_owedBy_14 (by decide) (fun _ => ?_) (fun c => absurd ((nI_leI (a := (sN (u 1) 6)) (b := k) (by omega) (by omega)).mpr (by omega)) c)
      refine lv_iload_n hx hb dX6_owedBy_67 rfl (lv_at hl 1 rfl) ?_
      exact e_int S hr hlk rfl hK hS hP (show v_X6_owedBy_loop u p1 p2 0 k x3 = x3 from rfl).symm dX6_owedBy_68
    | succ n ih_LP_loop =>
      intro k hk_LP_loop x3 H locs hP hS ls hl
      refine lv_iload hx hb dX6_owedBy_5 (lv_at hl 0 rfl) ?_
      refine lv_aload_n hx hb dX6_owedBy_7 rfl (lv_at hl 2 rfl) ?_
      refine g_get S hK hP (i := 0) (by omega) mC0 rfl inlX6 0 (by decide) k_67 (v := .ref (a 1)) rfl dX6_owedBy_8 ?_
      refine lv_bipush (v := 6) hx hb dX6_owedBy_11 (by decide) ?_
      refine g_aldN S hK hP (i := 1) (by omega) mC1 (k := 6) (by omega) (by decide) (v := u 1 6) (rfl) dX6_owedBy_13 ?_
      refine r_top (v := nI (sN (u 1) 6)) (SI_nb hm) ?_
      refine lv_icmp_ge (tgt := 67) hx hb dX6_owedBy_14 (by decide) (fun c => absurd c (fun z => absurd ((nI_leI (a := (sN (u 1) 6)) (b := k) (by omega) (by omega)).mp z) (by omega))) (fun _ => ?_)
      refine lv_iload_n hx hb dX6_owedBy_17 rfl (lv_at hl 1 rfl) ?_
      refine lv_aload_n hx hb dX6_owedBy_18 rfl (lv_at hl 2 rfl) ?_
      refine lv_iload hx hb dX6_owedBy_19 (lv_at hl 0 rfl) ?_
      refine lv_iload_n hx hb dX6_owedBy_21 rfl (lv_at hl 4 rfl) ?_
      refine r_callI S hK hP (c_X6_is l G a hI u k (by omega) _ ) (r_cw S k_290 k_287 k_288 k_289 k_5 q_X6_is ⟨Nat.le_of_ble_eq_true rfl, Nat.le_of_ble_eq_true rfl⟩ rfl rfl) (g_recv hK hP (i := 0) (by omega) mC0 rfl) rfl hl.1 rfl (Nat.le_of_ble_eq_true rfl) dX6_owedBy_22 ⟨Nat.zero_le _, Nat.zero_le _⟩ hS (fun _ h => h) (fun H locs hP _ _ hS => ?_)
      have hP : mP G a u H := hP
      refine lv_if_eq (tgt := 58) hx hb dX6_owedBy_25 (by decide) (fun c1 => ?_) (fun c1 => ?_)
      · skip
        refine lv_iconst (v := 0) hx hb dX6_owedBy_58 (by decide) ?_
        refine lv_iadd hx hb dX6_owedBy_59 ?_
        refine lv_istore_n (lv' := [(3, .int (x3 + (0 : Int32))), (4, .int (nI k)), (0, .ref (a 0)), (1, .int p1), (2, .int p2)]) hx hb dX6_owedBy_60 rfl hl (by decide) rfl (fun ls hl => ?_)
        refine lv_iinc (v := nI (k + 1)) (lv' := [(4, .int (nI (k + 1))), (3, .int (x3 + (0 : Int32))), (0, .ref (a 0)), (1, .int p1), (2, .int p2)]) hx hb dX6_owedBy_61 hl (k := 1) rfl (nI_1 _) (by decide) rfl (fun ls hl => ?_)
        refine lv_goto (tgt := 5) hx hb dX6_owedBy_64 (by decide) ?_
        refine q_eqI (show v_X6_owedBy_loop u p1 p2 (n + 1) k x3 = v_X6_owedBy_loop u p1 p2 n (k + 1) (x3 + (0 : Int32)) from (if_pos c1).trans rfl) rfl ?_
        exact ih_LP_loop (k + 1) (by omega) _ _ _ hP hS ls (lv_sub hl [0, 1, 2, 3, 4] rfl)
      · skip
        refine lv_iload_n hx hb dX6_owedBy_28 rfl (lv_at hl 3 rfl) ?_
        refine lv_bipush (v := -5) hx hb dX6_owedBy_29 (by decide) ?_
        refine lv_icmp_eq (tgt := 49) hx hb dX6_owedBy_31 (by decide) (fun c2 => ?_) (fun c2 => ?_)
        · skip
          refine lv_aload_n hx hb dX6_owedBy_49 rfl (lv_at hl 2 rfl) ?_
          refine lv_iload hx hb dX6_owedBy_50 (lv_at hl 0 rfl) ?_
          refine r_callI S hK hP (c_X6_owedOn l G a hI u k (by omega) ) (r_cw S k_245 k_242 k_243 k_244 k_5 q_X6_owedOn ⟨Nat.le_of_ble_eq_true rfl, Nat.le_of_ble_eq_true rfl⟩ rfl rfl) (g_recv hK hP (i := 0) (by omega) mC0 rfl) rfl hl.1 rfl (Nat.le_of_ble_eq_true rfl) dX6_owedBy_52 ⟨Nat.zero_le _, Nat.zero_le _⟩ hS (fun _ h => h) (fun H locs hP _ _ hS => ?_)
          have hP : mP G a u H := hP
          refine lv_goto (tgt := 59) hx hb dX6_owedBy_55 (by decide) ?_
          refine lv_iadd hx hb dX6_owedBy_59 ?_
          refine lv_istore_n (lv' := [(3, .int (x3 + (v_X6_owedOn u k))), (4, .int (nI k)), (0, .ref (a 0)), (1, .int p1), (2, .int p2)]) hx hb dX6_owedBy_60 rfl hl (by decide) rfl (fun ls hl => ?_)
          refine lv_iinc (v := nI (k + 1)) (lv' := [(4, .int (nI (k + 1))), (3, .int (x3 + (v_X6_owedOn u k))), (0, .ref (a 0)), (1, .int p1), (2, .int p2)]) hx hb dX6_owedBy_61 hl (k := 1) rfl (nI_1 _) (by decide) rfl (fun ls hl => ?_)
          refine lv_goto (tgt := 5) hx hb dX6_owedBy_64 (by decide) ?_
          refine q_eqI (show v_X6_owedBy_loop u p1 p2 (n + 1) k x3 = v_X6_owedBy_loop u p1 p2 n (k + 1) (x3 + (v_X6_owedOn u k)) from (if_neg c1).trans ((if_pos c2).trans rfl)) rfl ?_
          exact ih_LP_loop (k + 1) (by omega) _ _ _ hP hS ls (lv_sub hl [0, 1, 2, 3, 4] rfl)
        · skip
          refine lv_aload_n hx hb dX6_owedBy_34 rfl (lv_at hl 2 rfl) ?_
          refine g_get S hK hP (i := 0) (by omega) mC0 rfl inlX6 0 (by decide) k_67 (v := .ref (a 1)) rfl dX6_owedBy_35 ?_
          refine lv_iload hx hb dX6_owedBy_38 (lv_at hl 0 rfl) ?_
          refine lv_iconst (v := 0) hx hb dX6_owedBy_40 (by decide) ?_
          refine r_callS S hK hP (c_X6_of l G (mP G a u) (gA 8 a) k 0 trivial trivial ) (r_cs S k_221 k_219 k_220 k_5 q_X6_of ⟨Nat.le_of_ble_eq_true rfl, Nat.le_of_ble_eq_true rfl⟩ rfl rfl) rfl hl.1 rfl (Nat.le_of_ble_eq_true rfl) dX6_owedBy_41 ⟨Nat.zero_le _, Nat.zero_le _⟩ hS (fun _ h => h) (fun H locs hP _ _ hS => ?_)
          have hP : mP G a u H := hP
          refine r_top (v := nI (233 + 12 * k + 0)) rfl ?_
          refine g_aldN S hK hP (i := 1) (by omega) mC1 (k := 233 + 12 * k + 0) (by omega) (by decide) (v := u 1 (233 + 12 * k + 0)) (rfl) dX6_owedBy_44 ?_
          refine lv_iload_n hx hb dX6_owedBy_45 rfl (lv_at hl 3 rfl) ?_
          refine lv_icmp_ne (tgt := 58) hx hb dX6_owedBy_46 (by decide) (fun c3 => ?_) (fun c3 => ?_)
          · skip
            refine lv_iconst (v := 0) hx hb dX6_owedBy_58 (by decide) ?_
            refine lv_iadd hx hb dX6_owedBy_59 ?_
            refine lv_istore_n (lv' := [(3, .int (x3 + (0 : Int32))), (4, .int (nI k)), (0, .ref (a 0)), (1, .int p1), (2, .int p2)]) hx hb dX6_owedBy_60 rfl hl (by decide) rfl (fun ls hl => ?_)
            refine lv_iinc (v := nI (k + 1)) (lv' := [(4, .int (nI (k + 1))), (3, .int (x3 + (0 : Int32))), (0, .ref (a 0)), (1, .int p1), (2, .int p2)]) hx hb dX6_owedBy_61 hl (k := 1) rfl (nI_1 _) (by decide) rfl (fun ls hl => ?_)
            refine lv_goto (tgt := 5) hx hb dX6_owedBy_64 (by decide) ?_
            refine q_eqI (show v_X6_owedBy_loop u p1 p2 (n + 1) k x3 = v_X6_owedBy_loop u p1 p2 n (k + 1) (x3 + (0 : Int32)) from (if_neg c1).trans ((if_neg c2).trans ((if_neg c3).trans rfl))) rfl ?_
            exact ih_LP_loop (k + 1) (by omega) _ _ _ hP hS ls (lv_sub hl [0, 1, 2, 3, 4] rfl)
          · skip
            refine lv_aload_n hx hb dX6_owedBy_49 rfl (lv_at hl 2 rfl) ?_
            refine lv_iload hx hb dX6_owedBy_50 (lv_at hl 0 rfl) ?_
            refine r_callI S hK hP (c_X6_owedOn l G a hI u k (by omega) ) (r_cw S k_245 k_242 k_243 k_244 k_5 q_X6_owedOn ⟨Nat.le_of_ble_eq_true rfl, Nat.le_of_ble_eq_true rfl⟩ rfl rfl) (g_recv hK hP (i := 0) (by omega) mC0 rfl) rfl hl.1 rfl (Nat.le_of_ble_eq_true rfl) dX6_owedBy_52 ⟨Nat.zero_le _, Nat.zero_le _⟩ hS (fun _ h => h) (fun H locs hP _ _ hS => ?_)
            have hP : mP G a u H := hP
            refine lv_goto (tgt := 59) hx hb dX6_owedBy_55 (by decide) ?_
            refine lv_iadd hx hb dX6_owedBy_59 ?_
            refine lv_istore_n (lv' := [(3, .int (x3 + (v_X6_owedOn u k))), (4, .int (nI k)), (0, .ref (a 0)), (1, .int p1), (2, .int p2)]) hx hb dX6_owedBy_60 rfl hl (by decide) rfl (fun ls hl => ?_)
            refine lv_iinc (v := nI (k + 1)) (lv' := [(4, .int (nI (k + 1))), (3, .int (x3 + (v_X6_owedOn u k))), (0, .ref (a 0)), (1, .int p1), (2, .int p2)]) hx hb dX6_owedBy_61 hl (k := 1) rfl (nI_1 _) (by decide) rfl (fun ls hl => ?_)
            refine lv_goto (tgt := 5) hx hb dX6_owedBy_64 (by decide) ?_
            refine q_eqI (show v_X6_owedBy_loop u p1 p2 (n + 1) k x3 = v_X6_owedBy_loop u p1 p2 n (k + 1) (x3 + (v_X6_owedOn u k)) from (if_neg c1).trans ((if_neg c2).trans ((if_pos c3).trans rfl))) rfl ?_
            exact ih_LP_loop (k + 1) (by omega) _ _ _ hP hS ls (lv_sub hl [0, 1, 2, 3, 4] rfl)
  refine q_eqI (show v_X6_owedBy u p1 p2 = v_X6_owedBy_loop u p1 p2 (sN (u 1) 6) 0 (0 : Int32) from rfl) rfl ?_
  exact LP_loop (sN (u 1) 6) 0 (by omega) _ _ _ hP hS ls (lv_sub hl [0, 1, 2, 3, 4] rfl)

def v_X6_overdue_loop (u : Nat → Nat → Int32) : Nat → Nat → Int32 → Int32
  | 0, k, x1 => x1
  | n + 1, k, x1 => if v_X6_isOverdue u k = 0 then (v_X6_overdue_loop u n (k + 1) (x1 + (0 : Int32))) else v_X6_overdue_loop u n (k + 1) (x1 + (1 : Int32))
def v_X6_overdue (u : Nat → Nat → Int32) : Int32 := v_X6_overdue_loop u (sN (u 1) 6) 0 (0 : Int32)
theorem q_X6_overdue : yX6_overdue.cls ≠ "java/lang/invoke/MethodHandle" ∧ yX6_overdue.cls ≠ "java/lang/invoke/VarHandle" ∧ (parseMethodDescriptor yX6_overdue.desc).map (fun d => d.parameters.length) = some 0 := ⟨by decide, by decide, by decide +kernel⟩
set_option maxHeartbeats 4000000 in
set_option maxRecDepth 100000 in
theorem c_X6_overdue (l : Launch) (G : kG) (a : Nat → Nat) (hI : gI 8 a) (u : Nat → Nat → Int32) (hm : SI (u 1)) : Met l yX6_overdue (Cond.code yX6_overdue cX6_overdue 3 (some .int) :: BIG) (rmK 3) (pcG G (mP G a u) [.ref (a 0)]) (qcI G (gA 8 a) (mP G a u) (v_X6_overdue u)) 0 0 (gA 8 a) := by
  refine m_start (by decide) (Nat.le_of_ble_eq_true rfl) ?_
  have hnb := SI_nb2 hm
  intro p e s m args below meth c S hr hlk hnm hP hK ls hl
  have hx := S.1
  have hb := S.2.1
  have hown := S.2.2.2.1
  have hS : va_S (gA 8 a) s.heap s.heap [] := va_S.rf
  have hl : lv_has ls 3 [(0, .ref (a 0))] := hl
  refine lv_iconst (v := 0) hx hb dX6_overdue_0 (by decide) ?_
  refine lv_istore_n (lv' := [(1, .int (0 : Int32)), (0, .ref (a 0))]) hx hb dX6_overdue_1 rfl hl (by decide) rfl (fun ls hl => ?_)
  refine lv_iconst (v := 0) hx hb dX6_overdue_2 (by decide) ?_
  refine lv_istore_n (lv' := [(2, .int (0 : Int32)), (1, .int (0 : Int32)), (0, .ref (a 0))]) hx hb dX6_overdue_3 rfl hl (by decide) rfl (fun ls hl => ?_)
  have LP_loop : ∀ (n : Nat) (k : Nat), k + n = sN (u 1) 6 → ∀ (x1 : Int32) (H : Heap) (locs : List Loc), mP G a u H → va_S (gA 8 a) s.heap H locs → ∀ ls : Array Slot, lv_has ls 3 [(2, .int (nI k)), (1, .int x1), (0, .ref (a 0))] → W p l e (rmK 3) s m args below meth c H locs 0 0 (MQ below (qcI G (gA 8 a) (mP G a u) (v_X6_overdue_loop u n k x1)) args s 0 0 (gA 8 a)) (F0 m 4 ls []) := by
    intro n
    induction n with
    | zero =>
      intro k hk_LP_loop x1 H locs hP hS ls hl
      refine lv_iload_n hx hb dX6_overdue_4 rfl (lv_at hl 0 rfl) ?_
      refine lv_aload_n hx hb dX6_overdue_5 rfl (lv_at hl 2 rfl) ?_
      refine g_get S hK hP (i := 0) (by omega) mC0 rfl inlX6 0 (by decide) k_67 (v := .ref (a 1)) rfl dX6_overdue_6 ?_
      refine lv_bipush (v := 6) hx hb dX6_overdue_9 (by decide) ?_
      refine g_aldN S hK hP (i := 1) (by omega) mC1 (k := 6) (by omega) (by decide) (v := u 1 6) (rfl) dX6_overdue_11 ?_
      refine r_top (v := nI (sN (u 1) 6)) (SI_nb hm) ?_
      refine lv_icmp_ge (tgt := 37) hx hb dX6_overdue_12 (by decide) (fun _ => ?_) (fun c => absurd ((nI_leI (a := (sN (u 1) 6)) (b := k) (by omega) (by omega)).mpr (by omega)) c)
      refine lv_iload_n hx hb dX6_overdue_37 rfl (lv_at hl 1 rfl) ?_
      exact e_int S hr hlk rfl hK hS hP (show v_X6_overdue_loop u 0 k x1 = x1 from rfl).symm dX6_overdue_38
    | succ n ih_LP_loop =>
      intro k hk_LP_loop x1 H locs hP hS ls hl
      refine lv_iload_n hx hb dX6_overdue_4 rfl (lv_at hl 0 rfl) ?_
      refine lv_aload_n hx hb dX6_overdue_5 rfl (lv_at hl 2 rfl) ?_
      refine g_get S hK hP (i := 0) (by omega) mC0 rfl inlX6 0 (by decide) k_67 (v := .ref (a 1)) rfl dX6_overdue_6 ?_
      refine lv_bipush (v := 6) hx hb dX6_overdue_9 (by decide) ?_
      refine g_aldN S hK hP (i := 1) (by omega) mC1 (k := 6) (by omega) (by decide) (v := u 1 6) (rfl) dX6_overdue_11 ?_
      refine r_top (v := nI (sN (u 1) 6)) (SI_nb hm) ?_
      refine lv_icmp_ge (tgt := 37) hx hb dX6_overdue_12 (by decide) (fun c => absurd c (fun z => absurd ((nI_leI (a := (sN (u 1) 6)) (b := k) (by omega) (by omega)).mp z) (by omega))) (fun _ => ?_)
      refine lv_iload_n hx hb dX6_overdue_15 rfl (lv_at hl 1 rfl) ?_
      refine lv_aload_n hx hb dX6_overdue_16 rfl (lv_at hl 2 rfl) ?_
      refine lv_iload_n hx hb dX6_overdue_17 rfl (lv_at hl 0 rfl) ?_
      refine r_callI S hK hP (c_X6_isOverdue l G a hI u k (by omega) ) (r_cw S k_368 k_365 k_366 k_367 k_5 q_X6_isOverdue ⟨Nat.le_of_ble_eq_true rfl, Nat.le_of_ble_eq_true rfl⟩ rfl rfl) (g_recv hK hP (i := 0) (by omega) mC0 rfl) rfl hl.1 rfl (Nat.le_of_ble_eq_true rfl) dX6_overdue_18 ⟨Nat.zero_le _, Nat.zero_le _⟩ hS (fun _ h => h) (fun H locs hP _ _ hS => ?_)
      have hP : mP G a u H := hP
      refine lv_if_eq (tgt := 28) hx hb dX6_overdue_21 (by decide) (fun c1 => ?_) (fun c1 => ?_)
      · skip
        refine lv_iconst (v := 0) hx hb dX6_overdue_28 (by decide) ?_
        refine lv_iadd hx hb dX6_overdue_29 ?_
        refine lv_istore_n (lv' := [(1, .int (x1 + (0 : Int32))), (2, .int (nI k)), (0, .ref (a 0))]) hx hb dX6_overdue_30 rfl hl (by decide) rfl (fun ls hl => ?_)
        refine lv_iinc (v := nI (k + 1)) (lv' := [(2, .int (nI (k + 1))), (1, .int (x1 + (0 : Int32))), (0, .ref (a 0))]) hx hb dX6_overdue_31 hl (k := 1) rfl (nI_1 _) (by decide) rfl (fun ls hl => ?_)
        refine lv_goto (tgt := 4) hx hb dX6_overdue_34 (by decide) ?_
        refine q_eqI (show v_X6_overdue_loop u (n + 1) k x1 = v_X6_overdue_loop u n (k + 1) (x1 + (0 : Int32)) from (if_pos c1).trans rfl) rfl ?_
        exact ih_LP_loop (k + 1) (by omega) _ _ _ hP hS ls (lv_sub hl [0, 1, 2] rfl)
      · skip
        refine lv_iconst (v := 1) hx hb dX6_overdue_24 (by decide) ?_
        refine lv_goto (tgt := 29) hx hb dX6_overdue_25 (by decide) ?_
        refine lv_iadd hx hb dX6_overdue_29 ?_
        refine lv_istore_n (lv' := [(1, .int (x1 + (1 : Int32))), (2, .int (nI k)), (0, .ref (a 0))]) hx hb dX6_overdue_30 rfl hl (by decide) rfl (fun ls hl => ?_)
        refine lv_iinc (v := nI (k + 1)) (lv' := [(2, .int (nI (k + 1))), (1, .int (x1 + (1 : Int32))), (0, .ref (a 0))]) hx hb dX6_overdue_31 hl (k := 1) rfl (nI_1 _) (by decide) rfl (fun ls hl => ?_)
        refine lv_goto (tgt := 4) hx hb dX6_overdue_34 (by decide) ?_
        refine q_eqI (show v_X6_overdue_loop u (n + 1) k x1 = v_X6_overdue_loop u n (k + 1) (x1 + (1 : Int32)) from (if_neg c1).trans rfl) rfl ?_
        exact ih_LP_loop (k + 1) (by omega) _ _ _ hP hS ls (lv_sub hl [0, 1, 2] rfl)
  refine q_eqI (show v_X6_overdue u  = v_X6_overdue_loop u (sN (u 1) 6) 0 (0 : Int32) from rfl) rfl ?_
  exact LP_loop (sN (u 1) 6) 0 (by omega) _ _ _ hP hS ls (lv_sub hl [0, 1, 2] rfl)

def v_X6_dueFor_loop (u : Nat → Nat → Int32) (y : Nat) (p2 : Int32) : Nat → Nat → Int32 → Int32
  | 0, k, x3 => if p2 = 0 then x3 else u 1 (25 + y)
  | n + 1, k, x3 => if (u 1 (233 + 12 * k + 3)) / (100 : Int32) = nI y then (v_X6_dueFor_loop u y p2 n (k + 1) (x3 + (v_X6_taxOf u k))) else v_X6_dueFor_loop u y p2 n (k + 1) (x3 + (0 : Int32))
def v_X6_dueFor (u : Nat → Nat → Int32) (y : Nat) (p2 : Int32) : Int32 := v_X6_dueFor_loop u y p2 (sN (u 1) 6) 0 (0 : Int32)
theorem q_X6_dueFor : yX6_dueFor.cls ≠ "java/lang/invoke/MethodHandle" ∧ yX6_dueFor.cls ≠ "java/lang/invoke/VarHandle" ∧ (parseMethodDescriptor yX6_dueFor.desc).map (fun d => d.parameters.length) = some 2 := ⟨by decide, by decide, by decide +kernel⟩
set_option maxHeartbeats 4000000 in
set_option maxRecDepth 100000 in
theorem c_X6_dueFor (l : Launch) (G : kG) (a : Nat → Nat) (hI : gI 8 a) (u : Nat → Nat → Int32) (y : Nat) (hy : y < 100) (p2 : Int32) (hm : SI (u 1)) : Met l yX6_dueFor (Cond.code yX6_dueFor cX6_dueFor 5 (some .int) :: BIG) (rmK 2) (pcG G (mP G a u) [.ref (a 0), .int (nI y), .int p2]) (qcI G (gA 8 a) (mP G a u) (v_X6_dueFor u y p2)) 0 0 (gA 8 a) := by
  refine m_start (by decide) (Nat.le_of_ble_eq_true rfl) ?_
  have hnb := SI_nb2 hm
  intro p e s m args below meth c S hr hlk hnm hP hK ls hl
  have hx := S.1
  have hb := S.2.1
  have hown := S.2.2.2.1
  have hS : va_S (gA 8 a) s.heap s.heap [] := va_S.rf
  have hl : lv_has ls 5 [(0, .ref (a 0)), (1, .int (nI y)), (2, .int p2)] := hl
  refine lv_iconst (v := 0) hx hb dX6_dueFor_0 (by decide) ?_
  refine lv_istore_n (lv' := [(3, .int (0 : Int32)), (0, .ref (a 0)), (1, .int (nI y)), (2, .int p2)]) hx hb dX6_dueFor_1 rfl hl (by decide) rfl (fun ls hl => ?_)
  refine lv_iconst (v := 0) hx hb dX6_dueFor_2 (by decide) ?_
  refine lv_istore (lv' := [(4, .int (0 : Int32)), (3, .int (0 : Int32)), (0, .ref (a 0)), (1, .int (nI y)), (2, .int p2)]) hx hb dX6_dueFor_3 hl (by decide) rfl (fun ls hl => ?_)
  have LP_loop : ∀ (n : Nat) (k : Nat), k + n = sN (u 1) 6 → ∀ (x3 : Int32) (H : Heap) (locs : List Loc), mP G a u H → va_S (gA 8 a) s.heap H locs → ∀ ls : Array Slot, lv_has ls 5 [(4, .int (nI k)), (3, .int x3), (0, .ref (a 0)), (1, .int (nI y)), (2, .int p2)] → W p l e (rmK 2) s m args below meth c H locs 0 0 (MQ below (qcI G (gA 8 a) (mP G a u) (v_X6_dueFor_loop u y p2 n k x3)) args s 0 0 (gA 8 a)) (F0 m 5 ls []) := by
    intro n
    induction n with
    | zero =>
      intro k hk_LP_loop x3 H locs hP hS ls hl
      refine lv_iload hx hb dX6_dueFor_5 (lv_at hl 0 rfl) ?_
      refine lv_aload_n hx hb dX6_dueFor_7 rfl (lv_at hl 2 rfl) ?_
      refine g_get S hK hP (i := 0) (by omega) mC0 rfl inlX6 0 (by decide) k_67 (v := .ref (a 1)) rfl dX6_dueFor_8 ?_
      refine lv_bipush (v := 6) hx hb dX6_dueFor_11 (by decide) ?_
      refine g_aldN S hK hP (i := 1) (by omega) mC1 (k := 6) (by omega) (by decide) (v := u 1 6) (rfl) dX6_dueFor_13 ?_
      refine r_top (v := nI (sN (u 1) 6)) (SI_nb hm) ?_
      refine lv_icmp_ge (tgt := 54) hx hb dX6_dueFor_14 (by decide) (fun _ => ?_) (fun c => absurd ((nI_leI (a := (sN (u 1) 6)) (b := k) (by omega) (by omega)).mpr (by omega)) c)
      refine lv_iload_n hx hb dX6_dueFor_54 rfl (lv_at hl 4 rfl) ?_
      refine lv_if_ne (tgt := 62) hx hb dX6_dueFor_55 (by decide) (fun c1 => ?_) (fun c1 => ?_)
      · skip
        refine lv_aload_n hx hb dX6_dueFor_62 rfl (lv_at hl 2 rfl) ?_
        refine g_get S hK hP (i := 0) (by omega) mC0 rfl inlX6 0 (by decide) k_67 (v := .ref (a 1)) rfl dX6_dueFor_63 ?_
        refine lv_bipush (v := 25) hx hb dX6_dueFor_66 (by decide) ?_
        refine lv_iload_n hx hb dX6_dueFor_68 rfl (lv_at hl 3 rfl) ?_
        refine lv_iadd hx hb dX6_dueFor_69 ?_
        refine r_top (v := nI (25 + y)) (nI_add 25 y) ?_
        refine g_aldN S hK hP (i := 1) (by omega) mC1 (k := 25 + y) (by omega) (by decide) (v := u 1 (25 + y)) (rfl) dX6_dueFor_70 ?_
        exact e_int S hr hlk rfl hK hS hP (show v_X6_dueFor_loop u y p2 0 k x3 = u 1 (25 + y) from (if_neg c1).trans rfl).symm dX6_dueFor_71
      · skip
        refine lv_iload_n hx hb dX6_dueFor_58 rfl (lv_at hl 1 rfl) ?_
        refine lv_goto (tgt := 71) hx hb dX6_dueFor_59 (by decide) ?_
        exact e_int S hr hlk rfl hK hS hP (show v_X6_dueFor_loop u y p2 0 k x3 = x3 from (if_pos c1).trans rfl).symm dX6_dueFor_71
    | succ n ih_LP_loop =>
      intro k hk_LP_loop x3 H locs hP hS ls hl
      refine lv_iload hx hb dX6_dueFor_5 (lv_at hl 0 rfl) ?_
      refine lv_aload_n hx hb dX6_dueFor_7 rfl (lv_at hl 2 rfl) ?_
      refine g_get S hK hP (i := 0) (by omega) mC0 rfl inlX6 0 (by decide) k_67 (v := .ref (a 1)) rfl dX6_dueFor_8 ?_
      refine lv_bipush (v := 6) hx hb dX6_dueFor_11 (by decide) ?_
      refine g_aldN S hK hP (i := 1) (by omega) mC1 (k := 6) (by omega) (by decide) (v := u 1 6) (rfl) dX6_dueFor_13 ?_
      refine r_top (v := nI (sN (u 1) 6)) (SI_nb hm) ?_
      refine lv_icmp_ge (tgt := 54) hx hb dX6_dueFor_14 (by decide) (fun c => absurd c (fun z => absurd ((nI_leI (a := (sN (u 1) 6)) (b := k) (by omega) (by omega)).mp z) (by omega))) (fun _ => ?_)
      refine lv_iload_n hx hb dX6_dueFor_17 rfl (lv_at hl 1 rfl) ?_
      refine lv_aload_n hx hb dX6_dueFor_18 rfl (lv_at hl 2 rfl) ?_
      refine g_get S hK hP (i := 0) (by omega) mC0 rfl inlX6 0 (by decide) k_67 (v := .ref (a 1)) rfl dX6_dueFor_19 ?_
      refine lv_iload hx hb dX6_dueFor_22 (lv_at hl 0 rfl) ?_
      refine lv_iconst (v := 3) hx hb dX6_dueFor_24 (by decide) ?_
      refine r_callS S hK hP (c_X6_of l G (mP G a u) (gA 8 a) k 3 trivial trivial ) (r_cs S k_221 k_219 k_220 k_5 q_X6_of ⟨Nat.le_of_ble_eq_true rfl, Nat.le_of_ble_eq_true rfl⟩ rfl rfl) rfl hl.1 rfl (Nat.le_of_ble_eq_true rfl) dX6_dueFor_25 ⟨Nat.zero_le _, Nat.zero_le _⟩ hS (fun _ h => h) (fun H locs hP _ _ hS => ?_)
      have hP : mP G a u H := hP
      refine r_top (v := nI (233 + 12 * k + 3)) rfl ?_
      refine g_aldN S hK hP (i := 1) (by omega) mC1 (k := 233 + 12 * k + 3) (by omega) (by decide) (v := u 1 (233 + 12 * k + 3)) (rfl) dX6_dueFor_28 ?_
      refine lv_bipush (v := 100) hx hb dX6_dueFor_29 (by decide) ?_
      refine lv_idiv hx hb dX6_dueFor_31 (by decide) ?_
      refine lv_iload_n hx hb dX6_dueFor_32 rfl (lv_at hl 3 rfl) ?_
      refine lv_icmp_ne (tgt := 45) hx hb dX6_dueFor_33 (by decide) (fun c2 => ?_) (fun c2 => ?_)
      · skip
        refine lv_iconst (v := 0) hx hb dX6_dueFor_45 (by decide) ?_
        refine lv_iadd hx hb dX6_dueFor_46 ?_
        refine lv_istore_n (lv' := [(3, .int (x3 + (0 : Int32))), (4, .int (nI k)), (0, .ref (a 0)), (1, .int (nI y)), (2, .int p2)]) hx hb dX6_dueFor_47 rfl hl (by decide) rfl (fun ls hl => ?_)
        refine lv_iinc (v := nI (k + 1)) (lv' := [(4, .int (nI (k + 1))), (3, .int (x3 + (0 : Int32))), (0, .ref (a 0)), (1, .int (nI y)), (2, .int p2)]) hx hb dX6_dueFor_48 hl (k := 1) rfl (nI_1 _) (by decide) rfl (fun ls hl => ?_)
        refine lv_goto (tgt := 5) hx hb dX6_dueFor_51 (by decide) ?_
        refine q_eqI (show v_X6_dueFor_loop u y p2 (n + 1) k x3 = v_X6_dueFor_loop u y p2 n (k + 1) (x3 + (0 : Int32)) from (if_neg c2).trans rfl) rfl ?_
        exact ih_LP_loop (k + 1) (by omega) _ _ _ hP hS ls (lv_sub hl [0, 1, 2, 3, 4] rfl)
      · skip
        refine lv_aload_n hx hb dX6_dueFor_36 rfl (lv_at hl 2 rfl) ?_
        refine lv_iload hx hb dX6_dueFor_37 (lv_at hl 0 rfl) ?_
        refine r_callI S hK hP (c_X6_taxOf l G a hI u k (by omega) ) (r_cw S k_241 k_238 k_239 k_240 k_5 q_X6_taxOf ⟨Nat.le_of_ble_eq_true rfl, Nat.le_of_ble_eq_true rfl⟩ rfl rfl) (g_recv hK hP (i := 0) (by omega) mC0 rfl) rfl hl.1 rfl (Nat.le_of_ble_eq_true rfl) dX6_dueFor_39 ⟨Nat.zero_le _, Nat.zero_le _⟩ hS (fun _ h => h) (fun H locs hP _ _ hS => ?_)
        have hP : mP G a u H := hP
        refine lv_goto (tgt := 46) hx hb dX6_dueFor_42 (by decide) ?_
        refine lv_iadd hx hb dX6_dueFor_46 ?_
        refine lv_istore_n (lv' := [(3, .int (x3 + (v_X6_taxOf u k))), (4, .int (nI k)), (0, .ref (a 0)), (1, .int (nI y)), (2, .int p2)]) hx hb dX6_dueFor_47 rfl hl (by decide) rfl (fun ls hl => ?_)
        refine lv_iinc (v := nI (k + 1)) (lv' := [(4, .int (nI (k + 1))), (3, .int (x3 + (v_X6_taxOf u k))), (0, .ref (a 0)), (1, .int (nI y)), (2, .int p2)]) hx hb dX6_dueFor_48 hl (k := 1) rfl (nI_1 _) (by decide) rfl (fun ls hl => ?_)
        refine lv_goto (tgt := 5) hx hb dX6_dueFor_51 (by decide) ?_
        refine q_eqI (show v_X6_dueFor_loop u y p2 (n + 1) k x3 = v_X6_dueFor_loop u y p2 n (k + 1) (x3 + (v_X6_taxOf u k)) from (if_pos c2).trans rfl) rfl ?_
        exact ih_LP_loop (k + 1) (by omega) _ _ _ hP hS ls (lv_sub hl [0, 1, 2, 3, 4] rfl)
  refine q_eqI (show v_X6_dueFor u y p2 = v_X6_dueFor_loop u y p2 (sN (u 1) 6) 0 (0 : Int32) from rfl) rfl ?_
  exact LP_loop (sN (u 1) 6) 0 (by omega) _ _ _ hP hS ls (lv_sub hl [0, 1, 2, 3, 4] rfl)

def v_X6_billsOf_loop (u : Nat → Nat → Int32) (p1 : Int32) (p2 : Int32) : Nat → Nat → Int32 → Int32
  | 0, k, x3 => x3
  | n + 1, k, x3 => if p1 = (-5 : Int32) then (if p2 = (-5 : Int32) then (v_X6_billsOf_loop u p1 p2 n (k + 1) (x3 + (1 : Int32))) else if v_X6_is u k p2 = 0 then (v_X6_billsOf_loop u p1 p2 n (k + 1) (x3 + (0 : Int32))) else v_X6_billsOf_loop u p1 p2 n (k + 1) (x3 + (1 : Int32))) else if u 1 (233 + 12 * k + 0) = p1 then (if p2 = (-5 : Int32) then (v_X6_billsOf_loop u p1 p2 n (k + 1) (x3 + (1 : Int32))) else if v_X6_is u k p2 = 0 then (v_X6_billsOf_loop u p1 p2 n (k + 1) (x3 + (0 : Int32))) else v_X6_billsOf_loop u p1 p2 n (k + 1) (x3 + (1 : Int32))) else v_X6_billsOf_loop u p1 p2 n (k + 1) (x3 + (0 : Int32))
def v_X6_billsOf (u : Nat → Nat → Int32) (p1 : Int32) (p2 : Int32) : Int32 := v_X6_billsOf_loop u p1 p2 (sN (u 1) 6) 0 (0 : Int32)
theorem q_X6_billsOf : yX6_billsOf.cls ≠ "java/lang/invoke/MethodHandle" ∧ yX6_billsOf.cls ≠ "java/lang/invoke/VarHandle" ∧ (parseMethodDescriptor yX6_billsOf.desc).map (fun d => d.parameters.length) = some 2 := ⟨by decide, by decide, by decide +kernel⟩
set_option maxHeartbeats 4000000 in
set_option maxRecDepth 100000 in
theorem c_X6_billsOf (l : Launch) (G : kG) (a : Nat → Nat) (hI : gI 8 a) (u : Nat → Nat → Int32) (p1 : Int32) (p2 : Int32) (hm : SI (u 1)) : Met l yX6_billsOf (Cond.code yX6_billsOf cX6_billsOf 5 (some .int) :: BIG) (rmK 2) (pcG G (mP G a u) [.ref (a 0), .int p1, .int p2]) (qcI G (gA 8 a) (mP G a u) (v_X6_billsOf u p1 p2)) 0 0 (gA 8 a) := by
  refine m_start (by decide) (Nat.le_of_ble_eq_true rfl) ?_
  have hnb := SI_nb2 hm
  intro p e s m args below meth c S hr hlk hnm hP hK ls hl
  have hx := S.1
  have hb := S.2.1
  have hown := S.2.2.2.1
  have hS : va_S (gA 8 a) s.heap s.heap [] := va_S.rf
  have hl : lv_has ls 5 [(0, .ref (a 0)), (1, .int p1), (2, .int p2)] := hl
  refine lv_iconst (v := 0) hx hb dX6_billsOf_0 (by decide) ?_
  refine lv_istore_n (lv' := [(3, .int (0 : Int32)), (0, .ref (a 0)), (1, .int p1), (2, .int p2)]) hx hb dX6_billsOf_1 rfl hl (by decide) rfl (fun ls hl => ?_)
  refine lv_iconst (v := 0) hx hb dX6_billsOf_2 (by decide) ?_
  refine lv_istore (lv' := [(4, .int (0 : Int32)), (3, .int (0 : Int32)), (0, .ref (a 0)), (1, .int p1), (2, .int p2)]) hx hb dX6_billsOf_3 hl (by decide) rfl (fun ls hl => ?_)
  have LP_loop : ∀ (n : Nat) (k : Nat), k + n = sN (u 1) 6 → ∀ (x3 : Int32) (H : Heap) (locs : List Loc), mP G a u H → va_S (gA 8 a) s.heap H locs → ∀ ls : Array Slot, lv_has ls 5 [(4, .int (nI k)), (3, .int x3), (0, .ref (a 0)), (1, .int p1), (2, .int p2)] → W p l e (rmK 2) s m args below meth c H locs 0 0 (MQ below (qcI G (gA 8 a) (mP G a u) (v_X6_billsOf_loop u p1 p2 n k x3)) args s 0 0 (gA 8 a)) (F0 m 5 ls []) := by
    intro n
    induction n with
    | zero =>
      intro k hk_LP_loop x3 H locs hP hS ls hl
      refine lv_iload hx hb dX6_billsOf_5 (lv_at hl 0 rfl) ?_
      refine lv_aload_n hx hb dX6_billsOf_7 rfl (lv_at hl 2 rfl) ?_
      refine g_get S hK hP (i := 0) (by omega) mC0 rfl inlX6 0 (by decide) k_67 (v := .ref (a 1)) rfl dX6_billsOf_8 ?_
      refine lv_bipush (v := 6) hx hb dX6_billsOf_11 (by decide) ?_
      refine g_aldN S hK hP (i := 1) (by omega) mC1 (k := 6) (by omega) (by decide) (v := u 1 6) (rfl) dX6_billsOf_13 ?_
      refine r_top (v := nI (sN (u 1) 6)) (SI_nb hm) ?_
      refine lv_icmp_ge (tgt := 68) hx hb dX6_billsOf_14 (by decide) (fun _ => ?_) (fun c => absurd ((nI_leI (a := (sN (u 1) 6)) (b := k) (by omega) (by omega)).mpr (by omega)) c)
      refine lv_iload_n hx hb dX6_billsOf_68 rfl (lv_at hl 1 rfl) ?_
      exact e_int S hr hlk rfl hK hS hP (show v_X6_billsOf_loop u p1 p2 0 k x3 = x3 from rfl).symm dX6_billsOf_69
    | succ n ih_LP_loop =>
      intro k hk_LP_loop x3 H locs hP hS ls hl
      refine lv_iload hx hb dX6_billsOf_5 (lv_at hl 0 rfl) ?_
      refine lv_aload_n hx hb dX6_billsOf_7 rfl (lv_at hl 2 rfl) ?_
      refine g_get S hK hP (i := 0) (by omega) mC0 rfl inlX6 0 (by decide) k_67 (v := .ref (a 1)) rfl dX6_billsOf_8 ?_
      refine lv_bipush (v := 6) hx hb dX6_billsOf_11 (by decide) ?_
      refine g_aldN S hK hP (i := 1) (by omega) mC1 (k := 6) (by omega) (by decide) (v := u 1 6) (rfl) dX6_billsOf_13 ?_
      refine r_top (v := nI (sN (u 1) 6)) (SI_nb hm) ?_
      refine lv_icmp_ge (tgt := 68) hx hb dX6_billsOf_14 (by decide) (fun c => absurd c (fun z => absurd ((nI_leI (a := (sN (u 1) 6)) (b := k) (by omega) (by omega)).mp z) (by omega))) (fun _ => ?_)
      refine lv_iload_n hx hb dX6_billsOf_17 rfl (lv_at hl 1 rfl) ?_
      refine lv_iload_n hx hb dX6_billsOf_18 rfl (lv_at hl 3 rfl) ?_
      refine lv_bipush (v := -5) hx hb dX6_billsOf_19 (by decide) ?_
      refine lv_icmp_eq (tgt := 39) hx hb dX6_billsOf_21 (by decide) (fun c1 => ?_) (fun c1 => ?_)
      · skip
        refine lv_iload_n hx hb dX6_billsOf_39 rfl (lv_at hl 4 rfl) ?_
        refine lv_bipush (v := -5) hx hb dX6_billsOf_40 (by decide) ?_
        refine lv_icmp_eq (tgt := 55) hx hb dX6_billsOf_42 (by decide) (fun c2 => ?_) (fun c2 => ?_)
        · skip
          refine lv_iconst (v := 1) hx hb dX6_billsOf_55 (by decide) ?_
          refine lv_goto (tgt := 60) hx hb dX6_billsOf_56 (by decide) ?_
          refine lv_iadd hx hb dX6_billsOf_60 ?_
          refine lv_istore_n (lv' := [(3, .int (x3 + (1 : Int32))), (4, .int (nI k)), (0, .ref (a 0)), (1, .int p1), (2, .int p2)]) hx hb dX6_billsOf_61 rfl hl (by decide) rfl (fun ls hl => ?_)
          refine lv_iinc (v := nI (k + 1)) (lv' := [(4, .int (nI (k + 1))), (3, .int (x3 + (1 : Int32))), (0, .ref (a 0)), (1, .int p1), (2, .int p2)]) hx hb dX6_billsOf_62 hl (k := 1) rfl (nI_1 _) (by decide) rfl (fun ls hl => ?_)
          refine lv_goto (tgt := 5) hx hb dX6_billsOf_65 (by decide) ?_
          refine q_eqI (show v_X6_billsOf_loop u p1 p2 (n + 1) k x3 = v_X6_billsOf_loop u p1 p2 n (k + 1) (x3 + (1 : Int32)) from (if_pos c1).trans ((if_pos c2).trans rfl)) rfl ?_
          exact ih_LP_loop (k + 1) (by omega) _ _ _ hP hS ls (lv_sub hl [0, 1, 2, 3, 4] rfl)
        · skip
          refine lv_aload_n hx hb dX6_billsOf_45 rfl (lv_at hl 2 rfl) ?_
          refine lv_iload hx hb dX6_billsOf_46 (lv_at hl 0 rfl) ?_
          refine lv_iload_n hx hb dX6_billsOf_48 rfl (lv_at hl 4 rfl) ?_
          refine r_callI S hK hP (c_X6_is l G a hI u k (by omega) _ ) (r_cw S k_290 k_287 k_288 k_289 k_5 q_X6_is ⟨Nat.le_of_ble_eq_true rfl, Nat.le_of_ble_eq_true rfl⟩ rfl rfl) (g_recv hK hP (i := 0) (by omega) mC0 rfl) rfl hl.1 rfl (Nat.le_of_ble_eq_true rfl) dX6_billsOf_49 ⟨Nat.zero_le _, Nat.zero_le _⟩ hS (fun _ h => h) (fun H locs hP _ _ hS => ?_)
          have hP : mP G a u H := hP
          refine lv_if_eq (tgt := 59) hx hb dX6_billsOf_52 (by decide) (fun c3 => ?_) (fun c3 => ?_)
          · skip
            refine lv_iconst (v := 0) hx hb dX6_billsOf_59 (by decide) ?_
            refine lv_iadd hx hb dX6_billsOf_60 ?_
            refine lv_istore_n (lv' := [(3, .int (x3 + (0 : Int32))), (4, .int (nI k)), (0, .ref (a 0)), (1, .int p1), (2, .int p2)]) hx hb dX6_billsOf_61 rfl hl (by decide) rfl (fun ls hl => ?_)
            refine lv_iinc (v := nI (k + 1)) (lv' := [(4, .int (nI (k + 1))), (3, .int (x3 + (0 : Int32))), (0, .ref (a 0)), (1, .int p1), (2, .int p2)]) hx hb dX6_billsOf_62 hl (k := 1) rfl (nI_1 _) (by decide) rfl (fun ls hl => ?_)
            refine lv_goto (tgt := 5) hx hb dX6_billsOf_65 (by decide) ?_
            refine q_eqI (show v_X6_billsOf_loop u p1 p2 (n + 1) k x3 = v_X6_billsOf_loop u p1 p2 n (k + 1) (x3 + (0 : Int32)) from (if_pos c1).trans ((if_neg c2).trans ((if_pos c3).trans rfl))) rfl ?_
            exact ih_LP_loop (k + 1) (by omega) _ _ _ hP hS ls (lv_sub hl [0, 1, 2, 3, 4] rfl)
          · skip
            refine lv_iconst (v := 1) hx hb dX6_billsOf_55 (by decide) ?_
            refine lv_goto (tgt := 60) hx hb dX6_billsOf_56 (by decide) ?_
            refine lv_iadd hx hb dX6_billsOf_60 ?_
            refine lv_istore_n (lv' := [(3, .int (x3 + (1 : Int32))), (4, .int (nI k)), (0, .ref (a 0)), (1, .int p1), (2, .int p2)]) hx hb dX6_billsOf_61 rfl hl (by decide) rfl (fun ls hl => ?_)
            refine lv_iinc (v := nI (k + 1)) (lv' := [(4, .int (nI (k + 1))), (3, .int (x3 + (1 : Int32))), (0, .ref (a 0)), (1, .int p1), (2, .int p2)]) hx hb dX6_billsOf_62 hl (k := 1) rfl (nI_1 _) (by decide) rfl (fun ls hl => ?_)
            refine lv_goto (tgt := 5) hx hb dX6_billsOf_65 (by decide) ?_
            refine q_eqI (show v_X6_billsOf_loop u p1 p2 (n + 1) k x3 = v_X6_billsOf_loop u p1 p2 n (k + 1) (x3 + (1 : Int32)) from (if_pos c1).trans ((if_neg c2).trans ((if_neg c3).trans rfl))) rfl ?_
            exact ih_LP_loop (k + 1) (by omega) _ _ _ hP hS ls (lv_sub hl [0, 1, 2, 3, 4] rfl)
      · skip
        refine lv_aload_n hx hb dX6_billsOf_24 rfl (lv_at hl 2 rfl) ?_
        refine g_get S hK hP (i := 0) (by omega) mC0 rfl inlX6 0 (by decide) k_67 (v := .ref (a 1)) rfl dX6_billsOf_25 ?_
        refine lv_iload hx hb dX6_billsOf_28 (lv_at hl 0 rfl) ?_
        refine lv_iconst (v := 0) hx hb dX6_billsOf_30 (by decide) ?_
        refine r_callS S hK hP (c_X6_of l G (mP G a u) (gA 8 a) k 0 trivial trivial ) (r_cs S k_221 k_219 k_220 k_5 q_X6_of ⟨Nat.le_of_ble_eq_true rfl, Nat.le_of_ble_eq_true rfl⟩ rfl rfl) rfl hl.1 rfl (Nat.le_of_ble_eq_true rfl) dX6_billsOf_31 ⟨Nat.zero_le _, Nat.zero_le _⟩ hS (fun _ h => h) (fun H locs hP _ _ hS => ?_)
        have hP : mP G a u H := hP
        refine r_top (v := nI (233 + 12 * k + 0)) rfl ?_
        refine g_aldN S hK hP (i := 1) (by omega) mC1 (k := 233 + 12 * k + 0) (by omega) (by decide) (v := u 1 (233 + 12 * k + 0)) (rfl) dX6_billsOf_34 ?_
        refine lv_iload_n hx hb dX6_billsOf_35 rfl (lv_at hl 3 rfl) ?_
        refine lv_icmp_ne (tgt := 59) hx hb dX6_billsOf_36 (by decide) (fun c4 => ?_) (fun c4 => ?_)
        · skip
          refine lv_iconst (v := 0) hx hb dX6_billsOf_59 (by decide) ?_
          refine lv_iadd hx hb dX6_billsOf_60 ?_
          refine lv_istore_n (lv' := [(3, .int (x3 + (0 : Int32))), (4, .int (nI k)), (0, .ref (a 0)), (1, .int p1), (2, .int p2)]) hx hb dX6_billsOf_61 rfl hl (by decide) rfl (fun ls hl => ?_)
          refine lv_iinc (v := nI (k + 1)) (lv' := [(4, .int (nI (k + 1))), (3, .int (x3 + (0 : Int32))), (0, .ref (a 0)), (1, .int p1), (2, .int p2)]) hx hb dX6_billsOf_62 hl (k := 1) rfl (nI_1 _) (by decide) rfl (fun ls hl => ?_)
          refine lv_goto (tgt := 5) hx hb dX6_billsOf_65 (by decide) ?_
          refine q_eqI (show v_X6_billsOf_loop u p1 p2 (n + 1) k x3 = v_X6_billsOf_loop u p1 p2 n (k + 1) (x3 + (0 : Int32)) from (if_neg c1).trans ((if_neg c4).trans rfl)) rfl ?_
          exact ih_LP_loop (k + 1) (by omega) _ _ _ hP hS ls (lv_sub hl [0, 1, 2, 3, 4] rfl)
        · skip
          refine lv_iload_n hx hb dX6_billsOf_39 rfl (lv_at hl 4 rfl) ?_
          refine lv_bipush (v := -5) hx hb dX6_billsOf_40 (by decide) ?_
          refine lv_icmp_eq (tgt := 55) hx hb dX6_billsOf_42 (by decide) (fun c5 => ?_) (fun c5 => ?_)
          · skip
            refine lv_iconst (v := 1) hx hb dX6_billsOf_55 (by decide) ?_
            refine lv_goto (tgt := 60) hx hb dX6_billsOf_56 (by decide) ?_
            refine lv_iadd hx hb dX6_billsOf_60 ?_
            refine lv_istore_n (lv' := [(3, .int (x3 + (1 : Int32))), (4, .int (nI k)), (0, .ref (a 0)), (1, .int p1), (2, .int p2)]) hx hb dX6_billsOf_61 rfl hl (by decide) rfl (fun ls hl => ?_)
            refine lv_iinc (v := nI (k + 1)) (lv' := [(4, .int (nI (k + 1))), (3, .int (x3 + (1 : Int32))), (0, .ref (a 0)), (1, .int p1), (2, .int p2)]) hx hb dX6_billsOf_62 hl (k := 1) rfl (nI_1 _) (by decide) rfl (fun ls hl => ?_)
            refine lv_goto (tgt := 5) hx hb dX6_billsOf_65 (by decide) ?_
            refine q_eqI (show v_X6_billsOf_loop u p1 p2 (n + 1) k x3 = v_X6_billsOf_loop u p1 p2 n (k + 1) (x3 + (1 : Int32)) from (if_neg c1).trans ((if_pos c4).trans ((if_pos c5).trans rfl))) rfl ?_
            exact ih_LP_loop (k + 1) (by omega) _ _ _ hP hS ls (lv_sub hl [0, 1, 2, 3, 4] rfl)
          · skip
            refine lv_aload_n hx hb dX6_billsOf_45 rfl (lv_at hl 2 rfl) ?_
            refine lv_iload hx hb dX6_billsOf_46 (lv_at hl 0 rfl) ?_
            refine lv_iload_n hx hb dX6_billsOf_48 rfl (lv_at hl 4 rfl) ?_
            refine r_callI S hK hP (c_X6_is l G a hI u k (by omega) _ ) (r_cw S k_290 k_287 k_288 k_289 k_5 q_X6_is ⟨Nat.le_of_ble_eq_true rfl, Nat.le_of_ble_eq_true rfl⟩ rfl rfl) (g_recv hK hP (i := 0) (by omega) mC0 rfl) rfl hl.1 rfl (Nat.le_of_ble_eq_true rfl) dX6_billsOf_49 ⟨Nat.zero_le _, Nat.zero_le _⟩ hS (fun _ h => h) (fun H locs hP _ _ hS => ?_)
            have hP : mP G a u H := hP
            refine lv_if_eq (tgt := 59) hx hb dX6_billsOf_52 (by decide) (fun c6 => ?_) (fun c6 => ?_)
            · skip
              refine lv_iconst (v := 0) hx hb dX6_billsOf_59 (by decide) ?_
              refine lv_iadd hx hb dX6_billsOf_60 ?_
              refine lv_istore_n (lv' := [(3, .int (x3 + (0 : Int32))), (4, .int (nI k)), (0, .ref (a 0)), (1, .int p1), (2, .int p2)]) hx hb dX6_billsOf_61 rfl hl (by decide) rfl (fun ls hl => ?_)
              refine lv_iinc (v := nI (k + 1)) (lv' := [(4, .int (nI (k + 1))), (3, .int (x3 + (0 : Int32))), (0, .ref (a 0)), (1, .int p1), (2, .int p2)]) hx hb dX6_billsOf_62 hl (k := 1) rfl (nI_1 _) (by decide) rfl (fun ls hl => ?_)
              refine lv_goto (tgt := 5) hx hb dX6_billsOf_65 (by decide) ?_
              refine q_eqI (show v_X6_billsOf_loop u p1 p2 (n + 1) k x3 = v_X6_billsOf_loop u p1 p2 n (k + 1) (x3 + (0 : Int32)) from (if_neg c1).trans ((if_pos c4).trans ((if_neg c5).trans ((if_pos c6).trans rfl)))) rfl ?_
              exact ih_LP_loop (k + 1) (by omega) _ _ _ hP hS ls (lv_sub hl [0, 1, 2, 3, 4] rfl)
            · skip
              refine lv_iconst (v := 1) hx hb dX6_billsOf_55 (by decide) ?_
              refine lv_goto (tgt := 60) hx hb dX6_billsOf_56 (by decide) ?_
              refine lv_iadd hx hb dX6_billsOf_60 ?_
              refine lv_istore_n (lv' := [(3, .int (x3 + (1 : Int32))), (4, .int (nI k)), (0, .ref (a 0)), (1, .int p1), (2, .int p2)]) hx hb dX6_billsOf_61 rfl hl (by decide) rfl (fun ls hl => ?_)
              refine lv_iinc (v := nI (k + 1)) (lv' := [(4, .int (nI (k + 1))), (3, .int (x3 + (1 : Int32))), (0, .ref (a 0)), (1, .int p1), (2, .int p2)]) hx hb dX6_billsOf_62 hl (k := 1) rfl (nI_1 _) (by decide) rfl (fun ls hl => ?_)
              refine lv_goto (tgt := 5) hx hb dX6_billsOf_65 (by decide) ?_
              refine q_eqI (show v_X6_billsOf_loop u p1 p2 (n + 1) k x3 = v_X6_billsOf_loop u p1 p2 n (k + 1) (x3 + (1 : Int32)) from (if_neg c1).trans ((if_pos c4).trans ((if_neg c5).trans ((if_neg c6).trans rfl)))) rfl ?_
              exact ih_LP_loop (k + 1) (by omega) _ _ _ hP hS ls (lv_sub hl [0, 1, 2, 3, 4] rfl)
  refine q_eqI (show v_X6_billsOf u p1 p2 = v_X6_billsOf_loop u p1 p2 (sN (u 1) 6) 0 (0 : Int32) from rfl) rfl ?_
  exact LP_loop (sN (u 1) 6) 0 (by omega) _ _ _ hP hS ls (lv_sub hl [0, 1, 2, 3, 4] rfl)

def v_X6_sum_loop (u : Nat → Nat → Int32) (w : Nat) : Nat → Nat → Int32 → Int32
  | 0, k, x2 => x2
  | n + 1, k, x2 => v_X6_sum_loop u w n (k + 1) (x2 + (u 1 (233 + 12 * k + w)))
def v_X6_sum (u : Nat → Nat → Int32) (w : Nat) : Int32 := v_X6_sum_loop u w (sN (u 1) 6) 0 (0 : Int32)
theorem q_X6_sum : yX6_sum.cls ≠ "java/lang/invoke/MethodHandle" ∧ yX6_sum.cls ≠ "java/lang/invoke/VarHandle" ∧ (parseMethodDescriptor yX6_sum.desc).map (fun d => d.parameters.length) = some 1 := ⟨by decide, by decide, by decide +kernel⟩
set_option maxHeartbeats 4000000 in
set_option maxRecDepth 100000 in
theorem c_X6_sum (l : Launch) (G : kG) (a : Nat → Nat) (hI : gI 8 a) (u : Nat → Nat → Int32) (w : Nat) (hw : w < 12) (hm : SI (u 1)) : Met l yX6_sum (Cond.code yX6_sum cX6_sum 4 (some .int) :: BIG) (rmK 1) (pcG G (mP G a u) [.ref (a 0), .int (nI w)]) (qcI G (gA 8 a) (mP G a u) (v_X6_sum u w)) 0 0 (gA 8 a) := by
  refine m_start (by decide) (Nat.le_of_ble_eq_true rfl) ?_
  have hnb := SI_nb2 hm
  intro p e s m args below meth c S hr hlk hnm hP hK ls hl
  have hx := S.1
  have hb := S.2.1
  have hown := S.2.2.2.1
  have hS : va_S (gA 8 a) s.heap s.heap [] := va_S.rf
  have hl : lv_has ls 4 [(0, .ref (a 0)), (1, .int (nI w))] := hl
  refine lv_iconst (v := 0) hx hb dX6_sum_0 (by decide) ?_
  refine lv_istore_n (lv' := [(2, .int (0 : Int32)), (0, .ref (a 0)), (1, .int (nI w))]) hx hb dX6_sum_1 rfl hl (by decide) rfl (fun ls hl => ?_)
  refine lv_iconst (v := 0) hx hb dX6_sum_2 (by decide) ?_
  refine lv_istore_n (lv' := [(3, .int (0 : Int32)), (2, .int (0 : Int32)), (0, .ref (a 0)), (1, .int (nI w))]) hx hb dX6_sum_3 rfl hl (by decide) rfl (fun ls hl => ?_)
  have LP_loop : ∀ (n : Nat) (k : Nat), k + n = sN (u 1) 6 → ∀ (x2 : Int32) (H : Heap) (locs : List Loc), mP G a u H → va_S (gA 8 a) s.heap H locs → ∀ ls : Array Slot, lv_has ls 4 [(3, .int (nI k)), (2, .int x2), (0, .ref (a 0)), (1, .int (nI w))] → W p l e (rmK 1) s m args below meth c H locs 0 0 (MQ below (qcI G (gA 8 a) (mP G a u) (v_X6_sum_loop u w n k x2)) args s 0 0 (gA 8 a)) (F0 m 4 ls []) := by
    intro n
    induction n with
    | zero =>
      intro k hk_LP_loop x2 H locs hP hS ls hl
      refine lv_iload_n hx hb dX6_sum_4 rfl (lv_at hl 0 rfl) ?_
      refine lv_aload_n hx hb dX6_sum_5 rfl (lv_at hl 2 rfl) ?_
      refine g_get S hK hP (i := 0) (by omega) mC0 rfl inlX6 0 (by decide) k_67 (v := .ref (a 1)) rfl dX6_sum_6 ?_
      refine lv_bipush (v := 6) hx hb dX6_sum_9 (by decide) ?_
      refine g_aldN S hK hP (i := 1) (by omega) mC1 (k := 6) (by omega) (by decide) (v := u 1 6) (rfl) dX6_sum_11 ?_
      refine r_top (v := nI (sN (u 1) 6)) (SI_nb hm) ?_
      refine lv_icmp_ge (tgt := 34) hx hb dX6_sum_12 (by decide) (fun _ => ?_) (fun c => absurd ((nI_leI (a := (sN (u 1) 6)) (b := k) (by omega) (by omega)).mpr (by omega)) c)
      refine lv_iload_n hx hb dX6_sum_34 rfl (lv_at hl 1 rfl) ?_
      exact e_int S hr hlk rfl hK hS hP (show v_X6_sum_loop u w 0 k x2 = x2 from rfl).symm dX6_sum_35
    | succ n ih_LP_loop =>
      intro k hk_LP_loop x2 H locs hP hS ls hl
      refine lv_iload_n hx hb dX6_sum_4 rfl (lv_at hl 0 rfl) ?_
      refine lv_aload_n hx hb dX6_sum_5 rfl (lv_at hl 2 rfl) ?_
      refine g_get S hK hP (i := 0) (by omega) mC0 rfl inlX6 0 (by decide) k_67 (v := .ref (a 1)) rfl dX6_sum_6 ?_
      refine lv_bipush (v := 6) hx hb dX6_sum_9 (by decide) ?_
      refine g_aldN S hK hP (i := 1) (by omega) mC1 (k := 6) (by omega) (by decide) (v := u 1 6) (rfl) dX6_sum_11 ?_
      refine r_top (v := nI (sN (u 1) 6)) (SI_nb hm) ?_
      refine lv_icmp_ge (tgt := 34) hx hb dX6_sum_12 (by decide) (fun c => absurd c (fun z => absurd ((nI_leI (a := (sN (u 1) 6)) (b := k) (by omega) (by omega)).mp z) (by omega))) (fun _ => ?_)
      refine lv_iload_n hx hb dX6_sum_15 rfl (lv_at hl 1 rfl) ?_
      refine lv_aload_n hx hb dX6_sum_16 rfl (lv_at hl 2 rfl) ?_
      refine g_get S hK hP (i := 0) (by omega) mC0 rfl inlX6 0 (by decide) k_67 (v := .ref (a 1)) rfl dX6_sum_17 ?_
      refine lv_iload_n hx hb dX6_sum_20 rfl (lv_at hl 0 rfl) ?_
      refine lv_iload_n hx hb dX6_sum_21 rfl (lv_at hl 3 rfl) ?_
      refine r_callS S hK hP (c_X6_of l G (mP G a u) (gA 8 a) k w trivial trivial ) (r_cs S k_221 k_219 k_220 k_5 q_X6_of ⟨Nat.le_of_ble_eq_true rfl, Nat.le_of_ble_eq_true rfl⟩ rfl rfl) rfl hl.1 rfl (Nat.le_of_ble_eq_true rfl) dX6_sum_22 ⟨Nat.zero_le _, Nat.zero_le _⟩ hS (fun _ h => h) (fun H locs hP _ _ hS => ?_)
      have hP : mP G a u H := hP
      refine r_top (v := nI (233 + 12 * k + w)) rfl ?_
      refine g_aldN S hK hP (i := 1) (by omega) mC1 (k := 233 + 12 * k + w) (by omega) (by decide) (v := u 1 (233 + 12 * k + w)) (rfl) dX6_sum_25 ?_
      refine lv_iadd hx hb dX6_sum_26 ?_
      refine lv_istore_n (lv' := [(2, .int (x2 + (u 1 (233 + 12 * k + w)))), (3, .int (nI k)), (0, .ref (a 0)), (1, .int (nI w))]) hx hb dX6_sum_27 rfl hl (by decide) rfl (fun ls hl => ?_)
      refine lv_iinc (v := nI (k + 1)) (lv' := [(3, .int (nI (k + 1))), (2, .int (x2 + (u 1 (233 + 12 * k + w)))), (0, .ref (a 0)), (1, .int (nI w))]) hx hb dX6_sum_28 hl (k := 1) rfl (nI_1 _) (by decide) rfl (fun ls hl => ?_)
      refine lv_goto (tgt := 4) hx hb dX6_sum_31 (by decide) ?_
      refine q_eqI (show v_X6_sum_loop u w (n + 1) k x2 = v_X6_sum_loop u w n (k + 1) (x2 + (u 1 (233 + 12 * k + w))) from rfl) rfl ?_
      exact ih_LP_loop (k + 1) (by omega) _ _ _ hP hS ls (lv_sub hl [0, 1, 2, 3] rfl)
  refine q_eqI (show v_X6_sum u w = v_X6_sum_loop u w (sN (u 1) 6) 0 (0 : Int32) from rfl) rfl ?_
  exact LP_loop (sN (u 1) 6) 0 (by omega) _ _ _ hP hS ls (lv_sub hl [0, 1, 2, 3] rfl)

def v_X6_sumOfCustomers_loop (u : Nat → Nat → Int32) (w : Nat) : Nat → Nat → Int32 → Int32
  | 0, k, x2 => x2
  | n + 1, k, x2 => v_X6_sumOfCustomers_loop u w n (k + 1) (x2 + (u 1 (w + k)))
def v_X6_sumOfCustomers (u : Nat → Nat → Int32) (w : Nat) : Int32 := v_X6_sumOfCustomers_loop u w 8 0 (0 : Int32)
theorem q_X6_sumOfCustomers : yX6_sumOfCustomers.cls ≠ "java/lang/invoke/MethodHandle" ∧ yX6_sumOfCustomers.cls ≠ "java/lang/invoke/VarHandle" ∧ (parseMethodDescriptor yX6_sumOfCustomers.desc).map (fun d => d.parameters.length) = some 1 := ⟨by decide, by decide, by decide +kernel⟩
set_option maxHeartbeats 4000000 in
set_option maxRecDepth 100000 in
theorem c_X6_sumOfCustomers (l : Launch) (G : kG) (a : Nat → Nat) (hI : gI 8 a) (u : Nat → Nat → Int32) (w : Nat) (hw : w < 700) : Met l yX6_sumOfCustomers (Cond.code yX6_sumOfCustomers cX6_sumOfCustomers 4 (some .int) :: BIG) (rmK 0) (pcG G (mP G a u) [.ref (a 0), .int (nI w)]) (qcI G (gA 8 a) (mP G a u) (v_X6_sumOfCustomers u w)) 0 0 (gA 8 a) := by
  refine m_start (by decide) (Nat.le_of_ble_eq_true rfl) ?_
  intro p e s m args below meth c S hr hlk hnm hP hK ls hl
  have hx := S.1
  have hb := S.2.1
  have hown := S.2.2.2.1
  have hS : va_S (gA 8 a) s.heap s.heap [] := va_S.rf
  have hl : lv_has ls 4 [(0, .ref (a 0)), (1, .int (nI w))] := hl
  refine lv_iconst (v := 0) hx hb dX6_sumOfCustomers_0 (by decide) ?_
  refine lv_istore_n (lv' := [(2, .int (0 : Int32)), (0, .ref (a 0)), (1, .int (nI w))]) hx hb dX6_sumOfCustomers_1 rfl hl (by decide) rfl (fun ls hl => ?_)
  refine lv_iconst (v := 0) hx hb dX6_sumOfCustomers_2 (by decide) ?_
  refine lv_istore_n (lv' := [(3, .int (0 : Int32)), (2, .int (0 : Int32)), (0, .ref (a 0)), (1, .int (nI w))]) hx hb dX6_sumOfCustomers_3 rfl hl (by decide) rfl (fun ls hl => ?_)
  have LP_loop : ∀ (n : Nat) (k : Nat), k + n = 8 → ∀ (x2 : Int32) (H : Heap) (locs : List Loc), mP G a u H → va_S (gA 8 a) s.heap H locs → ∀ ls : Array Slot, lv_has ls 4 [(3, .int (nI k)), (2, .int x2), (0, .ref (a 0)), (1, .int (nI w))] → W p l e (rmK 0) s m args below meth c H locs 0 0 (MQ below (qcI G (gA 8 a) (mP G a u) (v_X6_sumOfCustomers_loop u w n k x2)) args s 0 0 (gA 8 a)) (F0 m 4 ls []) := by
    intro n
    induction n with
    | zero =>
      intro k hk_LP_loop x2 H locs hP hS ls hl
      refine lv_iload_n hx hb dX6_sumOfCustomers_4 rfl (lv_at hl 0 rfl) ?_
      refine lv_bipush (v := 8) hx hb dX6_sumOfCustomers_5 (by decide) ?_
      refine lv_icmp_ge (tgt := 27) hx hb dX6_sumOfCustomers_7 (by decide) (fun _ => ?_) (fun c => absurd ((nI_leI (a := 8) (b := k) (by omega) (by omega)).mpr (by omega)) c)
      refine lv_iload_n hx hb dX6_sumOfCustomers_27 rfl (lv_at hl 1 rfl) ?_
      exact e_int S hr hlk rfl hK hS hP (show v_X6_sumOfCustomers_loop u w 0 k x2 = x2 from rfl).symm dX6_sumOfCustomers_28
    | succ n ih_LP_loop =>
      intro k hk_LP_loop x2 H locs hP hS ls hl
      refine lv_iload_n hx hb dX6_sumOfCustomers_4 rfl (lv_at hl 0 rfl) ?_
      refine lv_bipush (v := 8) hx hb dX6_sumOfCustomers_5 (by decide) ?_
      refine lv_icmp_ge (tgt := 27) hx hb dX6_sumOfCustomers_7 (by decide) (fun c => absurd c (fun z => absurd ((nI_leI (a := 8) (b := k) (by omega) (by omega)).mp z) (by omega))) (fun _ => ?_)
      refine lv_iload_n hx hb dX6_sumOfCustomers_10 rfl (lv_at hl 1 rfl) ?_
      refine lv_aload_n hx hb dX6_sumOfCustomers_11 rfl (lv_at hl 2 rfl) ?_
      refine g_get S hK hP (i := 0) (by omega) mC0 rfl inlX6 0 (by decide) k_67 (v := .ref (a 1)) rfl dX6_sumOfCustomers_12 ?_
      refine lv_iload_n hx hb dX6_sumOfCustomers_15 rfl (lv_at hl 3 rfl) ?_
      refine lv_iload_n hx hb dX6_sumOfCustomers_16 rfl (lv_at hl 0 rfl) ?_
      refine lv_iadd hx hb dX6_sumOfCustomers_17 ?_
      refine r_top (v := nI (w + k)) (nI_add w k) ?_
      refine g_aldN S hK hP (i := 1) (by omega) mC1 (k := w + k) (by omega) (by decide) (v := u 1 (w + k)) (rfl) dX6_sumOfCustomers_18 ?_
      refine lv_iadd hx hb dX6_sumOfCustomers_19 ?_
      refine lv_istore_n (lv' := [(2, .int (x2 + (u 1 (w + k)))), (3, .int (nI k)), (0, .ref (a 0)), (1, .int (nI w))]) hx hb dX6_sumOfCustomers_20 rfl hl (by decide) rfl (fun ls hl => ?_)
      refine lv_iinc (v := nI (k + 1)) (lv' := [(3, .int (nI (k + 1))), (2, .int (x2 + (u 1 (w + k)))), (0, .ref (a 0)), (1, .int (nI w))]) hx hb dX6_sumOfCustomers_21 hl (k := 1) rfl (nI_1 _) (by decide) rfl (fun ls hl => ?_)
      refine lv_goto (tgt := 4) hx hb dX6_sumOfCustomers_24 (by decide) ?_
      refine q_eqI (show v_X6_sumOfCustomers_loop u w (n + 1) k x2 = v_X6_sumOfCustomers_loop u w n (k + 1) (x2 + (u 1 (w + k))) from rfl) rfl ?_
      exact ih_LP_loop (k + 1) (by omega) _ _ _ hP hS ls (lv_sub hl [0, 1, 2, 3] rfl)
  refine q_eqI (show v_X6_sumOfCustomers u w = v_X6_sumOfCustomers_loop u w 8 0 (0 : Int32) from rfl) rfl ?_
  exact LP_loop 8 0 (by omega) _ _ _ hP hS ls (lv_sub hl [0, 1, 2, 3] rfl)
