def v_X3_discountDays (b : Nat → Nat → Int32) : Int32 := b 6 0
theorem q_X3_discountDays : yX3_discountDays.cls ≠ "java/lang/invoke/MethodHandle" ∧ yX3_discountDays.cls ≠ "java/lang/invoke/VarHandle" ∧ (parseMethodDescriptor yX3_discountDays.desc).map (fun d => d.parameters.length) = some 0 := ⟨by decide, by decide, by decide +kernel⟩
set_option maxHeartbeats 4000000 in
set_option maxRecDepth 100000 in
theorem c_X3_discountDays (l : Launch) (G : kG) (a : Nat → Nat) (hI : gI 47 a) (b : Nat → Nat → Int32) : Met l yX3_discountDays (Cond.code yX3_discountDays cX3_discountDays 1 (some .int) :: BIG) (rmK 0) (pcG G (bP G a b) [.ref (a 5)]) (qcI G (gA 47 a) (bP G a b) (v_X3_discountDays b)) 0 0 (gA 47 a) := by
  refine m_start (by decide) (Nat.le_of_ble_eq_true rfl) ?_
  intro p e s m args below meth c S hr hlk hnm hP hK ls hl
  have hx := S.1
  have hb := S.2.1
  have hown := S.2.2.2.1
  have hS : va_S (gA 47 a) s.heap s.heap [] := va_S.rf
  have hl : lv_has ls 1 [(0, .ref (a 5))] := hl
  refine lv_aload_n hx hb dX3_discountDays_0 rfl (lv_at hl 0 rfl) ?_
  refine g_get S hK hP (i := 5) (by omega) bC5 rfl inlX3 0 (by decide) k_42 (v := .ref (a 6)) rfl dX3_discountDays_1 ?_
  refine lv_iconst (v := 0) hx hb dX3_discountDays_4 (by decide) ?_
  refine g_aldN S hK hP (i := 6) (by omega) bC6 (k := 0) (by omega) (by decide) (v := b 6 0) (rfl) dX3_discountDays_5 ?_
  exact e_int S hr hlk rfl hK hS hP (show v_X3_discountDays b  = b 6 0 from rfl).symm dX3_discountDays_6

def v_X3_discountPercent (b : Nat → Nat → Int32) : Int32 := b 6 1
theorem q_X3_discountPercent : yX3_discountPercent.cls ≠ "java/lang/invoke/MethodHandle" ∧ yX3_discountPercent.cls ≠ "java/lang/invoke/VarHandle" ∧ (parseMethodDescriptor yX3_discountPercent.desc).map (fun d => d.parameters.length) = some 0 := ⟨by decide, by decide, by decide +kernel⟩
set_option maxHeartbeats 4000000 in
set_option maxRecDepth 100000 in
theorem c_X3_discountPercent (l : Launch) (G : kG) (a : Nat → Nat) (hI : gI 47 a) (b : Nat → Nat → Int32) : Met l yX3_discountPercent (Cond.code yX3_discountPercent cX3_discountPercent 1 (some .int) :: BIG) (rmK 0) (pcG G (bP G a b) [.ref (a 5)]) (qcI G (gA 47 a) (bP G a b) (v_X3_discountPercent b)) 0 0 (gA 47 a) := by
  refine m_start (by decide) (Nat.le_of_ble_eq_true rfl) ?_
  intro p e s m args below meth c S hr hlk hnm hP hK ls hl
  have hx := S.1
  have hb := S.2.1
  have hown := S.2.2.2.1
  have hS : va_S (gA 47 a) s.heap s.heap [] := va_S.rf
  have hl : lv_has ls 1 [(0, .ref (a 5))] := hl
  refine lv_aload_n hx hb dX3_discountPercent_0 rfl (lv_at hl 0 rfl) ?_
  refine g_get S hK hP (i := 5) (by omega) bC5 rfl inlX3 0 (by decide) k_42 (v := .ref (a 6)) rfl dX3_discountPercent_1 ?_
  refine lv_iconst (v := 1) hx hb dX3_discountPercent_4 (by decide) ?_
  refine g_aldN S hK hP (i := 6) (by omega) bC6 (k := 1) (by omega) (by decide) (v := b 6 1) (rfl) dX3_discountPercent_5 ?_
  exact e_int S hr hlk rfl hK hS hP (show v_X3_discountPercent b  = b 6 1 from rfl).symm dX3_discountPercent_6

def v_X3_reminderDays (b : Nat → Nat → Int32) : Int32 := b 6 2
theorem q_X3_reminderDays : yX3_reminderDays.cls ≠ "java/lang/invoke/MethodHandle" ∧ yX3_reminderDays.cls ≠ "java/lang/invoke/VarHandle" ∧ (parseMethodDescriptor yX3_reminderDays.desc).map (fun d => d.parameters.length) = some 0 := ⟨by decide, by decide, by decide +kernel⟩
set_option maxHeartbeats 4000000 in
set_option maxRecDepth 100000 in
theorem c_X3_reminderDays (l : Launch) (G : kG) (a : Nat → Nat) (hI : gI 47 a) (b : Nat → Nat → Int32) : Met l yX3_reminderDays (Cond.code yX3_reminderDays cX3_reminderDays 1 (some .int) :: BIG) (rmK 0) (pcG G (bP G a b) [.ref (a 5)]) (qcI G (gA 47 a) (bP G a b) (v_X3_reminderDays b)) 0 0 (gA 47 a) := by
  refine m_start (by decide) (Nat.le_of_ble_eq_true rfl) ?_
  intro p e s m args below meth c S hr hlk hnm hP hK ls hl
  have hx := S.1
  have hb := S.2.1
  have hown := S.2.2.2.1
  have hS : va_S (gA 47 a) s.heap s.heap [] := va_S.rf
  have hl : lv_has ls 1 [(0, .ref (a 5))] := hl
  refine lv_aload_n hx hb dX3_reminderDays_0 rfl (lv_at hl 0 rfl) ?_
  refine g_get S hK hP (i := 5) (by omega) bC5 rfl inlX3 0 (by decide) k_42 (v := .ref (a 6)) rfl dX3_reminderDays_1 ?_
  refine lv_iconst (v := 2) hx hb dX3_reminderDays_4 (by decide) ?_
  refine g_aldN S hK hP (i := 6) (by omega) bC6 (k := 2) (by omega) (by decide) (v := b 6 2) (rfl) dX3_reminderDays_5 ?_
  exact e_int S hr hlk rfl hK hS hP (show v_X3_reminderDays b  = b 6 2 from rfl).symm dX3_reminderDays_6

def v_X3_reminderFee (b : Nat → Nat → Int32) : Int32 := b 6 3
theorem q_X3_reminderFee : yX3_reminderFee.cls ≠ "java/lang/invoke/MethodHandle" ∧ yX3_reminderFee.cls ≠ "java/lang/invoke/VarHandle" ∧ (parseMethodDescriptor yX3_reminderFee.desc).map (fun d => d.parameters.length) = some 0 := ⟨by decide, by decide, by decide +kernel⟩
set_option maxHeartbeats 4000000 in
set_option maxRecDepth 100000 in
theorem c_X3_reminderFee (l : Launch) (G : kG) (a : Nat → Nat) (hI : gI 47 a) (b : Nat → Nat → Int32) : Met l yX3_reminderFee (Cond.code yX3_reminderFee cX3_reminderFee 1 (some .int) :: BIG) (rmK 0) (pcG G (bP G a b) [.ref (a 5)]) (qcI G (gA 47 a) (bP G a b) (v_X3_reminderFee b)) 0 0 (gA 47 a) := by
  refine m_start (by decide) (Nat.le_of_ble_eq_true rfl) ?_
  intro p e s m args below meth c S hr hlk hnm hP hK ls hl
  have hx := S.1
  have hb := S.2.1
  have hown := S.2.2.2.1
  have hS : va_S (gA 47 a) s.heap s.heap [] := va_S.rf
  have hl : lv_has ls 1 [(0, .ref (a 5))] := hl
  refine lv_aload_n hx hb dX3_reminderFee_0 rfl (lv_at hl 0 rfl) ?_
  refine g_get S hK hP (i := 5) (by omega) bC5 rfl inlX3 0 (by decide) k_42 (v := .ref (a 6)) rfl dX3_reminderFee_1 ?_
  refine lv_iconst (v := 3) hx hb dX3_reminderFee_4 (by decide) ?_
  refine g_aldN S hK hP (i := 6) (by omega) bC6 (k := 3) (by omega) (by decide) (v := b 6 3) (rfl) dX3_reminderFee_5 ?_
  exact e_int S hr hlk rfl hK hS hP (show v_X3_reminderFee b  = b 6 3 from rfl).symm dX3_reminderFee_6

def v_X3_taxWay (b : Nat → Nat → Int32) : Int32 := b 6 4
theorem q_X3_taxWay : yX3_taxWay.cls ≠ "java/lang/invoke/MethodHandle" ∧ yX3_taxWay.cls ≠ "java/lang/invoke/VarHandle" ∧ (parseMethodDescriptor yX3_taxWay.desc).map (fun d => d.parameters.length) = some 0 := ⟨by decide, by decide, by decide +kernel⟩
set_option maxHeartbeats 4000000 in
set_option maxRecDepth 100000 in
theorem c_X3_taxWay (l : Launch) (G : kG) (a : Nat → Nat) (hI : gI 47 a) (b : Nat → Nat → Int32) : Met l yX3_taxWay (Cond.code yX3_taxWay cX3_taxWay 1 (some .int) :: BIG) (rmK 0) (pcG G (bP G a b) [.ref (a 5)]) (qcI G (gA 47 a) (bP G a b) (v_X3_taxWay b)) 0 0 (gA 47 a) := by
  refine m_start (by decide) (Nat.le_of_ble_eq_true rfl) ?_
  intro p e s m args below meth c S hr hlk hnm hP hK ls hl
  have hx := S.1
  have hb := S.2.1
  have hown := S.2.2.2.1
  have hS : va_S (gA 47 a) s.heap s.heap [] := va_S.rf
  have hl : lv_has ls 1 [(0, .ref (a 5))] := hl
  refine lv_aload_n hx hb dX3_taxWay_0 rfl (lv_at hl 0 rfl) ?_
  refine g_get S hK hP (i := 5) (by omega) bC5 rfl inlX3 0 (by decide) k_42 (v := .ref (a 6)) rfl dX3_taxWay_1 ?_
  refine lv_iconst (v := 4) hx hb dX3_taxWay_4 (by decide) ?_
  refine g_aldN S hK hP (i := 6) (by omega) bC6 (k := 4) (by omega) (by decide) (v := b 6 4) (rfl) dX3_taxWay_5 ?_
  exact e_int S hr hlk rfl hK hS hP (show v_X3_taxWay b  = b 6 4 from rfl).symm dX3_taxWay_6

def v_X1_billAt (b : Nat → Nat → Int32) (p1 : Int32) : Option Nat := if p1 < 0 then none else if (40 : Int32) ≤ p1 then none else if b (p1.toNatClampNeg + 7) 0 = (-1 : Int32) then none else some p1.toNatClampNeg
theorem q_X1_billAt : yX1_billAt.cls ≠ "java/lang/invoke/MethodHandle" ∧ yX1_billAt.cls ≠ "java/lang/invoke/VarHandle" ∧ (parseMethodDescriptor yX1_billAt.desc).map (fun d => d.parameters.length) = some 1 := ⟨by decide, by decide, by decide +kernel⟩
set_option maxHeartbeats 4000000 in
set_option maxRecDepth 100000 in
theorem c_X1_billAt (l : Launch) (G : kG) (a : Nat → Nat) (hI : gI 47 a) (b : Nat → Nat → Int32) (p1 : Int32) : Met l yX1_billAt (Cond.code yX1_billAt cX1_billAt 2 (some (.object "InvoiceBook$Bill")) :: BIG) (rmK 0) (pcG G (bP G a b) [.ref (a 0), .int p1]) (qcQ G (gA 47 a) (bP G a b) ((v_X1_billAt b p1).map (fun j => a (j + 7)))) 0 0 (gA 47 a) := by
  refine m_start (by decide) (Nat.le_of_ble_eq_true rfl) ?_
  intro p e s m args below meth c S hr hlk hnm hP hK ls hl
  have hx := S.1
  have hb := S.2.1
  have hown := S.2.2.2.1
  have hS : va_S (gA 47 a) s.heap s.heap [] := va_S.rf
  have hl : lv_has ls 2 [(0, .ref (a 0)), (1, .int p1)] := hl
  refine lv_iload_n hx hb dX1_billAt_0 rfl (lv_at hl 1 rfl) ?_
  refine lv_if_lt (tgt := 26) hx hb dX1_billAt_1 (by decide) (fun c1 => ?_) (fun c1 => ?_)
  · skip
    refine lv_null hx hb dX1_billAt_26 ?_
    exact e_ref (v := (none).map (fun j => a (j + 7))) S hr (Or.inl ⟨_, rfl⟩) hlk hK hS hP (congrArg (fun o : Option Nat => o.map (fun j => a (j + 7))) (show v_X1_billAt b p1 = none from (if_pos c1).trans rfl).symm) dX1_billAt_27
  · skip
    refine lv_iload_n hx hb dX1_billAt_4 rfl (lv_at hl 1 rfl) ?_
    refine lv_aload_n hx hb dX1_billAt_5 rfl (lv_at hl 0 rfl) ?_
    refine g_get S hK hP (i := 0) (by omega) bC0 rfl inlX1 0 (by decide) k_28 (v := .ref (a 1)) rfl dX1_billAt_6 ?_
    refine g_alen S hK hP (i := 1) (by omega) (bC1 _) 2 rfl (v := 40) rfl dX1_billAt_9 ?_
    refine lv_icmp_ge (tgt := 26) hx hb dX1_billAt_10 (by decide) (fun c2 => ?_) (fun c2 => ?_)
    · skip
      refine lv_null hx hb dX1_billAt_26 ?_
      exact e_ref (v := (none).map (fun j => a (j + 7))) S hr (Or.inl ⟨_, rfl⟩) hlk hK hS hP (congrArg (fun o : Option Nat => o.map (fun j => a (j + 7))) (show v_X1_billAt b p1 = none from (if_neg c1).trans ((if_pos c2).trans rfl)).symm) dX1_billAt_27
    · skip
      refine lv_aload_n hx hb dX1_billAt_13 rfl (lv_at hl 0 rfl) ?_
      refine g_get S hK hP (i := 0) (by omega) bC0 rfl inlX1 0 (by decide) k_28 (v := .ref (a 1)) rfl dX1_billAt_14 ?_
      refine lv_iload_n hx hb dX1_billAt_17 rfl (lv_at hl 1 rfl) ?_
      have hb3 : p1.toNatClampNeg < 40 := vp_lt (vp_of (vp_lo1 c1) (vp_hi1 (n := 40) c2 rfl (by decide)))
      refine g_baldI S hK hP (i := 1) (by omega) bC1 (vp_of (vp_lo1 c1) (vp_hi1 (n := 40) c2 rfl (by decide))) (v := .ref (a (p1.toNatClampNeg + 7))) rfl dX1_billAt_18 ?_
      refine g_get S hK hP (i := p1.toNatClampNeg + 7) (by omega) bC7 rfl inlX0 0 (by decide) k_169 (v := .int (b (p1.toNatClampNeg + 7) 0)) rfl dX1_billAt_19 ?_
      refine lv_iconst (v := -1) hx hb dX1_billAt_22 (by decide) ?_
      refine lv_icmp_ne (tgt := 28) hx hb dX1_billAt_23 (by decide) (fun c4 => ?_) (fun c4 => ?_)
      · skip
        refine lv_aload_n hx hb dX1_billAt_28 rfl (lv_at hl 0 rfl) ?_
        refine g_get S hK hP (i := 0) (by omega) bC0 rfl inlX1 0 (by decide) k_28 (v := .ref (a 1)) rfl dX1_billAt_29 ?_
        refine lv_iload_n hx hb dX1_billAt_32 rfl (lv_at hl 1 rfl) ?_
        have hb5 : p1.toNatClampNeg < 40 := vp_lt (vp_of (vp_lo1 c1) (vp_hi1 (n := 40) c2 rfl (by decide)))
        refine g_baldI S hK hP (i := 1) (by omega) bC1 (vp_of (vp_lo1 c1) (vp_hi1 (n := 40) c2 rfl (by decide))) (v := .ref (a (p1.toNatClampNeg + 7))) rfl dX1_billAt_33 ?_
        exact e_ref (v := (some p1.toNatClampNeg).map (fun j => a (j + 7))) S hr (Or.inl ⟨_, rfl⟩) hlk hK hS hP (congrArg (fun o : Option Nat => o.map (fun j => a (j + 7))) (show v_X1_billAt b p1 = some p1.toNatClampNeg from (if_neg c1).trans ((if_neg c2).trans ((if_neg c4).trans rfl))).symm) dX1_billAt_34
      · skip
        refine lv_null hx hb dX1_billAt_26 ?_
        exact e_ref (v := (none).map (fun j => a (j + 7))) S hr (Or.inl ⟨_, rfl⟩) hlk hK hS hP (congrArg (fun o : Option Nat => o.map (fun j => a (j + 7))) (show v_X1_billAt b p1 = none from (if_neg c1).trans ((if_neg c2).trans ((if_pos c4).trans rfl))).symm) dX1_billAt_27

def v_X1_creditOf (b : Nat → Nat → Int32) (p1 : Int32) : Int32 := if v_X5_isCustomer p1 = 0 then (0 : Int32) else b 2 p1.toNatClampNeg
theorem q_X1_creditOf : yX1_creditOf.cls ≠ "java/lang/invoke/MethodHandle" ∧ yX1_creditOf.cls ≠ "java/lang/invoke/VarHandle" ∧ (parseMethodDescriptor yX1_creditOf.desc).map (fun d => d.parameters.length) = some 1 := ⟨by decide, by decide, by decide +kernel⟩
set_option maxHeartbeats 4000000 in
set_option maxRecDepth 100000 in
theorem c_X1_creditOf (l : Launch) (G : kG) (a : Nat → Nat) (hI : gI 47 a) (b : Nat → Nat → Int32) (p1 : Int32) : Met l yX1_creditOf (Cond.code yX1_creditOf cX1_creditOf 2 (some .int) :: BIG) (rmK 1) (pcG G (bP G a b) [.ref (a 0), .int p1]) (qcI G (gA 47 a) (bP G a b) (v_X1_creditOf b p1)) 0 0 (gA 47 a) := by
  refine m_start (by decide) (Nat.le_of_ble_eq_true rfl) ?_
  intro p e s m args below meth c S hr hlk hnm hP hK ls hl
  have hx := S.1
  have hb := S.2.1
  have hown := S.2.2.2.1
  have hS : va_S (gA 47 a) s.heap s.heap [] := va_S.rf
  have hl : lv_has ls 2 [(0, .ref (a 0)), (1, .int p1)] := hl
  refine lv_iload_n hx hb dX1_creditOf_0 rfl (lv_at hl 1 rfl) ?_
  refine r_callSN S hK hP (c_X5_isCustomer l G (bP G a b) (gA 47 a) _ ) k_218 hK.2.2.2.2.1 k_217 k_2 q_X5_isCustomer ⟨Nat.le_of_ble_eq_true rfl, Nat.le_of_ble_eq_true rfl⟩ rfl rfl rfl hl.1 rfl (Nat.le_of_ble_eq_true rfl) dX1_creditOf_1 ⟨Nat.zero_le _, Nat.zero_le _⟩ hS (fun _ h => h) (fun H locs hP _ _ hS => ?_)
  have hP : bP G a b H := hP
  refine lv_if_eq (tgt := 16) hx hb dX1_creditOf_4 (by decide) (fun c1 => ?_) (fun c1 => ?_)
  · skip
    refine lv_iconst (v := 0) hx hb dX1_creditOf_16 (by decide) ?_
    exact e_int S hr hlk rfl hK hS hP (show v_X1_creditOf b p1 = (0 : Int32) from (if_pos c1).trans rfl).symm dX1_creditOf_17
  · skip
    refine lv_aload_n hx hb dX1_creditOf_7 rfl (lv_at hl 0 rfl) ?_
    refine g_get S hK hP (i := 0) (by omega) bC0 rfl inlX1 1 (by decide) k_30 (v := .ref (a 2)) rfl dX1_creditOf_8 ?_
    refine lv_iload_n hx hb dX1_creditOf_11 rfl (lv_at hl 1 rfl) ?_
    refine g_ald S hK hP (i := 2) (by omega) bC2 (vp_X5_isCustomer c1 (by decide)) (v := b 2 p1.toNatClampNeg) (rfl) dX1_creditOf_12 ?_
    refine lv_goto (tgt := 17) hx hb dX1_creditOf_13 (by decide) ?_
    exact e_int S hr hlk rfl hK hS hP (show v_X1_creditOf b p1 = b 2 p1.toNatClampNeg from (if_neg c1).trans rfl).symm dX1_creditOf_17

def w_X1_setCredit (b : Nat → Nat → Int32) (p1 : Int32) (p2 : Int32) : Nat → Nat → Int32 := if v_X5_isCustomer p1 = 0 then b else up b 2 p1.toNatClampNeg p2
theorem q_X1_setCredit : yX1_setCredit.cls ≠ "java/lang/invoke/MethodHandle" ∧ yX1_setCredit.cls ≠ "java/lang/invoke/VarHandle" ∧ (parseMethodDescriptor yX1_setCredit.desc).map (fun d => d.parameters.length) = some 2 := ⟨by decide, by decide, by decide +kernel⟩
set_option maxHeartbeats 4000000 in
set_option maxRecDepth 100000 in
theorem c_X1_setCredit (l : Launch) (G : kG) (a : Nat → Nat) (hI : gI 47 a) (b : Nat → Nat → Int32) (p1 : Int32) (p2 : Int32) : Met l yX1_setCredit (Cond.code yX1_setCredit cX1_setCredit 3 none :: BIG) (rmK 1) (pcG G (bP G a b) [.ref (a 0), .int p1, .int p2]) (qcV G (gA 47 a) (bP G a (w_X1_setCredit b p1 p2))) 0 0 (gA 47 a) := by
  refine m_start (by decide) (Nat.le_of_ble_eq_true rfl) ?_
  intro p e s m args below meth c S hr hlk hnm hP hK ls hl
  have hx := S.1
  have hb := S.2.1
  have hown := S.2.2.2.1
  have hS : va_S (gA 47 a) s.heap s.heap [] := va_S.rf
  have hl : lv_has ls 3 [(0, .ref (a 0)), (1, .int p1), (2, .int p2)] := hl
  refine lv_iload_n hx hb dX1_setCredit_0 rfl (lv_at hl 1 rfl) ?_
  refine r_callSN S hK hP (c_X5_isCustomer l G (bP G a b) (gA 47 a) _ ) k_218 hK.2.2.2.2.1 k_217 k_2 q_X5_isCustomer ⟨Nat.le_of_ble_eq_true rfl, Nat.le_of_ble_eq_true rfl⟩ rfl rfl rfl hl.1 rfl (Nat.le_of_ble_eq_true rfl) dX1_setCredit_1 ⟨Nat.zero_le _, Nat.zero_le _⟩ hS (fun _ h => h) (fun H locs hP _ _ hS => ?_)
  have hP : bP G a b H := hP
  refine lv_if_eq (tgt := 14) hx hb dX1_setCredit_4 (by decide) (fun c1 => ?_) (fun c1 => ?_)
  · skip
    exact e_void S hr hlk hK hS (gP_eq (show w_X1_setCredit b p1 p2 = b from (if_pos c1).trans rfl) hP) dX1_setCredit_14
  · skip
    refine lv_aload_n hx hb dX1_setCredit_7 rfl (lv_at hl 0 rfl) ?_
    refine g_get S hK hP (i := 0) (by omega) bC0 rfl inlX1 1 (by decide) k_30 (v := .ref (a 2)) rfl dX1_setCredit_8 ?_
    refine lv_iload_n hx hb dX1_setCredit_11 rfl (lv_at hl 1 rfl) ?_
    refine lv_iload_n hx hb dX1_setCredit_12 rfl (lv_at hl 2 rfl) ?_
    refine g_ast S hK hP hI hS (i := 2) (by omega) bC2 (vp_X5_isCustomer c1 (by decide)) dX1_setCredit_13 (fun H locs hP hS => ?_)
    have hP : bP G a (up b 2 p1.toNatClampNeg p2) H := hP
    exact e_void S hr hlk hK hS (gP_eq (show w_X1_setCredit b p1 p2 = up b 2 p1.toNatClampNeg p2 from (if_neg c1).trans rfl) hP) dX1_setCredit_14

def v_X1_countBills_loop (b : Nat → Nat → Int32) (p1 : Int32) (p2 : Int32) : Nat → Nat → Int32 → Int32
  | 0, k, x3 => x3
  | n + 1, k, x3 => if v_X0_is b k p1 p2 = 0 then (v_X1_countBills_loop b p1 p2 n (k + 1) (x3 + (0 : Int32))) else v_X1_countBills_loop b p1 p2 n (k + 1) (x3 + (1 : Int32))
def v_X1_countBills (b : Nat → Nat → Int32) (p1 : Int32) (p2 : Int32) : Int32 := v_X1_countBills_loop b p1 p2 40 0 (0 : Int32)
theorem q_X1_countBills : yX1_countBills.cls ≠ "java/lang/invoke/MethodHandle" ∧ yX1_countBills.cls ≠ "java/lang/invoke/VarHandle" ∧ (parseMethodDescriptor yX1_countBills.desc).map (fun d => d.parameters.length) = some 2 := ⟨by decide, by decide, by decide +kernel⟩
set_option maxHeartbeats 4000000 in
set_option maxRecDepth 100000 in
theorem c_X1_countBills (l : Launch) (G : kG) (a : Nat → Nat) (hI : gI 47 a) (b : Nat → Nat → Int32) (p1 : Int32) (p2 : Int32) : Met l yX1_countBills (Cond.code yX1_countBills cX1_countBills 8 (some .int) :: BIG) (rmK 1) (pcG G (bP G a b) [.ref (a 0), .int p1, .int p2]) (qcI G (gA 47 a) (bP G a b) (v_X1_countBills b p1 p2)) 0 0 (gA 47 a) := by
  refine m_start (by decide) (Nat.le_of_ble_eq_true rfl) ?_
  intro p e s m args below meth c S hr hlk hnm hP hK ls hl
  have hx := S.1
  have hb := S.2.1
  have hown := S.2.2.2.1
  have hS : va_S (gA 47 a) s.heap s.heap [] := va_S.rf
  have hl : lv_has ls 8 [(0, .ref (a 0)), (1, .int p1), (2, .int p2)] := hl
  refine lv_iconst (v := 0) hx hb dX1_countBills_0 (by decide) ?_
  refine lv_istore_n (lv' := [(3, .int (0 : Int32)), (0, .ref (a 0)), (1, .int p1), (2, .int p2)]) hx hb dX1_countBills_1 rfl hl (by decide) rfl (fun ls hl => ?_)
  refine lv_aload_n hx hb dX1_countBills_2 rfl (lv_at hl 1 rfl) ?_
  refine g_get S hK hP (i := 0) (by omega) bC0 rfl inlX1 0 (by decide) k_28 (v := .ref (a 1)) rfl dX1_countBills_3 ?_
  refine lv_astore (lv' := [(4, .ref (a 1)), (3, .int (0 : Int32)), (0, .ref (a 0)), (1, .int p1), (2, .int p2)]) hx hb dX1_countBills_6 hl (by decide) rfl (fun ls hl => ?_)
  refine lv_aload hx hb dX1_countBills_8 (lv_at hl 0 rfl) ?_
  refine g_alen S hK hP (i := 1) (by omega) (bC1 _) 2 rfl (v := 40) rfl dX1_countBills_10 ?_
  refine lv_istore (lv' := [(5, .int (40 : Int32)), (4, .ref (a 1)), (3, .int (0 : Int32)), (0, .ref (a 0)), (1, .int p1), (2, .int p2)]) hx hb dX1_countBills_11 hl (by decide) rfl (fun ls hl => ?_)
  refine lv_iconst (v := 0) hx hb dX1_countBills_13 (by decide) ?_
  refine lv_istore (lv' := [(6, .int (0 : Int32)), (5, .int (40 : Int32)), (4, .ref (a 1)), (3, .int (0 : Int32)), (0, .ref (a 0)), (1, .int p1), (2, .int p2)]) hx hb dX1_countBills_14 hl (by decide) rfl (fun ls hl => ?_)
  have LP_loop : ∀ (n : Nat) (k : Nat), k + n = 40 → ∀ (x3 : Int32) (H : Heap) (locs : List Loc), bP G a b H → va_S (gA 47 a) s.heap H locs → ∀ ls : Array Slot, lv_has ls 8 [(6, .int (nI k)), (5, .int (40 : Int32)), (4, .ref (a 1)), (3, .int x3), (0, .ref (a 0)), (1, .int p1), (2, .int p2)] → W p l e (rmK 1) s m args below meth c H locs 0 0 (MQ below (qcI G (gA 47 a) (bP G a b) (v_X1_countBills_loop b p1 p2 n k x3)) args s 0 0 (gA 47 a)) (F0 m 16 ls []) := by
    intro n
    induction n with
    | zero =>
      intro k hk_LP_loop x3 H locs hP hS ls hl
      refine lv_iload hx hb dX1_countBills_16 (lv_at hl 0 rfl) ?_
      refine lv_iload hx hb dX1_countBills_18 (lv_at hl 1 rfl) ?_
      refine lv_icmp_ge (tgt := 54) hx hb dX1_countBills_20 (by decide) (fun _ => ?_) (fun c => absurd ((nI_leI (a := 40) (b := k) (by omega) (by omega)).mpr (by omega)) c)
      refine lv_iload_n hx hb dX1_countBills_54 rfl (lv_at hl 3 rfl) ?_
      exact e_int S hr hlk rfl hK hS hP (show v_X1_countBills_loop b p1 p2 0 k x3 = x3 from rfl).symm dX1_countBills_55
    | succ n ih_LP_loop =>
      intro k hk_LP_loop x3 H locs hP hS ls hl
      refine lv_iload hx hb dX1_countBills_16 (lv_at hl 0 rfl) ?_
      refine lv_iload hx hb dX1_countBills_18 (lv_at hl 1 rfl) ?_
      refine lv_icmp_ge (tgt := 54) hx hb dX1_countBills_20 (by decide) (fun c => absurd c (fun z => absurd ((nI_leI (a := 40) (b := k) (by omega) (by omega)).mp z) (by omega))) (fun _ => ?_)
      refine lv_aload hx hb dX1_countBills_23 (lv_at hl 2 rfl) ?_
      refine lv_iload hx hb dX1_countBills_25 (lv_at hl 0 rfl) ?_
      refine g_bald S hK hP (i := 1) (by omega) bC1 (k := k) (by omega) (by decide) (v := .ref (a (k + 7))) rfl dX1_countBills_27 ?_
      refine lv_astore (lv' := [(7, .ref (a (k + 7))), (6, .int (nI k)), (5, .int (40 : Int32)), (4, .ref (a 1)), (3, .int x3), (0, .ref (a 0)), (1, .int p1), (2, .int p2)]) hx hb dX1_countBills_28 hl (by decide) rfl (fun ls hl => ?_)
      refine lv_iload_n hx hb dX1_countBills_30 rfl (lv_at hl 4 rfl) ?_
      refine lv_aload hx hb dX1_countBills_31 (lv_at hl 0 rfl) ?_
      refine lv_iload_n hx hb dX1_countBills_33 rfl (lv_at hl 6 rfl) ?_
      refine lv_iload_n hx hb dX1_countBills_34 rfl (lv_at hl 7 rfl) ?_
      refine r_callI S hK hP (c_X0_is l G a hI b k (by omega) _ _ ) (r_cw S k_81 k_78 k_79 k_80 k_38 q_X0_is ⟨Nat.le_of_ble_eq_true rfl, Nat.le_of_ble_eq_true rfl⟩ rfl rfl) (g_recv hK hP (i := k + 7) (by omega) bC7 rfl) rfl hl.1 rfl (Nat.le_of_ble_eq_true rfl) dX1_countBills_35 ⟨Nat.zero_le _, Nat.zero_le _⟩ hS (fun _ h => h) (fun H locs hP _ _ hS => ?_)
      have hP : bP G a b H := hP
      refine lv_if_eq (tgt := 45) hx hb dX1_countBills_38 (by decide) (fun c1 => ?_) (fun c1 => ?_)
      · skip
        refine lv_iconst (v := 0) hx hb dX1_countBills_45 (by decide) ?_
        refine lv_iadd hx hb dX1_countBills_46 ?_
        refine lv_istore_n (lv' := [(3, .int (x3 + (0 : Int32))), (7, .ref (a (k + 7))), (6, .int (nI k)), (5, .int (40 : Int32)), (4, .ref (a 1)), (0, .ref (a 0)), (1, .int p1), (2, .int p2)]) hx hb dX1_countBills_47 rfl hl (by decide) rfl (fun ls hl => ?_)
        refine lv_iinc (v := nI (k + 1)) (lv' := [(6, .int (nI (k + 1))), (3, .int (x3 + (0 : Int32))), (7, .ref (a (k + 7))), (5, .int (40 : Int32)), (4, .ref (a 1)), (0, .ref (a 0)), (1, .int p1), (2, .int p2)]) hx hb dX1_countBills_48 hl (k := 2) rfl (nI_1 _) (by decide) rfl (fun ls hl => ?_)
        refine lv_goto (tgt := 16) hx hb dX1_countBills_51 (by decide) ?_
        refine q_eqI (show v_X1_countBills_loop b p1 p2 (n + 1) k x3 = v_X1_countBills_loop b p1 p2 n (k + 1) (x3 + (0 : Int32)) from (if_pos c1).trans rfl) rfl ?_
        exact ih_LP_loop (k + 1) (by omega) _ _ _ hP hS ls (lv_sub hl [0, 3, 4, 1, 5, 6, 7] rfl)
      · skip
        refine lv_iconst (v := 1) hx hb dX1_countBills_41 (by decide) ?_
        refine lv_goto (tgt := 46) hx hb dX1_countBills_42 (by decide) ?_
        refine lv_iadd hx hb dX1_countBills_46 ?_
        refine lv_istore_n (lv' := [(3, .int (x3 + (1 : Int32))), (7, .ref (a (k + 7))), (6, .int (nI k)), (5, .int (40 : Int32)), (4, .ref (a 1)), (0, .ref (a 0)), (1, .int p1), (2, .int p2)]) hx hb dX1_countBills_47 rfl hl (by decide) rfl (fun ls hl => ?_)
        refine lv_iinc (v := nI (k + 1)) (lv' := [(6, .int (nI (k + 1))), (3, .int (x3 + (1 : Int32))), (7, .ref (a (k + 7))), (5, .int (40 : Int32)), (4, .ref (a 1)), (0, .ref (a 0)), (1, .int p1), (2, .int p2)]) hx hb dX1_countBills_48 hl (k := 2) rfl (nI_1 _) (by decide) rfl (fun ls hl => ?_)
        refine lv_goto (tgt := 16) hx hb dX1_countBills_51 (by decide) ?_
        refine q_eqI (show v_X1_countBills_loop b p1 p2 (n + 1) k x3 = v_X1_countBills_loop b p1 p2 n (k + 1) (x3 + (1 : Int32)) from (if_neg c1).trans rfl) rfl ?_
        exact ih_LP_loop (k + 1) (by omega) _ _ _ hP hS ls (lv_sub hl [0, 3, 4, 1, 5, 6, 7] rfl)
  refine q_eqI (show v_X1_countBills b p1 p2 = v_X1_countBills_loop b p1 p2 40 0 (0 : Int32) from rfl) rfl ?_
  exact LP_loop 40 0 (by omega) _ _ _ hP hS ls (lv_sub hl [0, 1, 2, 3, 4, 5, 6] rfl)

def v_X1_countOverdue_loop (b : Nat → Nat → Int32) : Nat → Nat → Int32 → Int32
  | 0, k, x1 => x1
  | n + 1, k, x1 => if v_X0_isOverdue b k (b 0 5) = 0 then (v_X1_countOverdue_loop b n (k + 1) (x1 + (0 : Int32))) else v_X1_countOverdue_loop b n (k + 1) (x1 + (1 : Int32))
def v_X1_countOverdue (b : Nat → Nat → Int32) : Int32 := v_X1_countOverdue_loop b 40 0 (0 : Int32)
theorem q_X1_countOverdue : yX1_countOverdue.cls ≠ "java/lang/invoke/MethodHandle" ∧ yX1_countOverdue.cls ≠ "java/lang/invoke/VarHandle" ∧ (parseMethodDescriptor yX1_countOverdue.desc).map (fun d => d.parameters.length) = some 0 := ⟨by decide, by decide, by decide +kernel⟩
set_option maxHeartbeats 4000000 in
set_option maxRecDepth 100000 in
theorem c_X1_countOverdue (l : Launch) (G : kG) (a : Nat → Nat) (hI : gI 47 a) (b : Nat → Nat → Int32) : Met l yX1_countOverdue (Cond.code yX1_countOverdue cX1_countOverdue 6 (some .int) :: BIG) (rmK 1) (pcG G (bP G a b) [.ref (a 0)]) (qcI G (gA 47 a) (bP G a b) (v_X1_countOverdue b)) 0 0 (gA 47 a) := by
  refine m_start (by decide) (Nat.le_of_ble_eq_true rfl) ?_
  intro p e s m args below meth c S hr hlk hnm hP hK ls hl
  have hx := S.1
  have hb := S.2.1
  have hown := S.2.2.2.1
  have hS : va_S (gA 47 a) s.heap s.heap [] := va_S.rf
  have hl : lv_has ls 6 [(0, .ref (a 0))] := hl
  refine lv_iconst (v := 0) hx hb dX1_countOverdue_0 (by decide) ?_
  refine lv_istore_n (lv' := [(1, .int (0 : Int32)), (0, .ref (a 0))]) hx hb dX1_countOverdue_1 rfl hl (by decide) rfl (fun ls hl => ?_)
  refine lv_aload_n hx hb dX1_countOverdue_2 rfl (lv_at hl 1 rfl) ?_
  refine g_get S hK hP (i := 0) (by omega) bC0 rfl inlX1 0 (by decide) k_28 (v := .ref (a 1)) rfl dX1_countOverdue_3 ?_
  refine lv_astore_n (lv' := [(2, .ref (a 1)), (1, .int (0 : Int32)), (0, .ref (a 0))]) hx hb dX1_countOverdue_6 rfl hl (by decide) rfl (fun ls hl => ?_)
  refine lv_aload_n hx hb dX1_countOverdue_7 rfl (lv_at hl 0 rfl) ?_
  refine g_alen S hK hP (i := 1) (by omega) (bC1 _) 2 rfl (v := 40) rfl dX1_countOverdue_8 ?_
  refine lv_istore_n (lv' := [(3, .int (40 : Int32)), (2, .ref (a 1)), (1, .int (0 : Int32)), (0, .ref (a 0))]) hx hb dX1_countOverdue_9 rfl hl (by decide) rfl (fun ls hl => ?_)
  refine lv_iconst (v := 0) hx hb dX1_countOverdue_10 (by decide) ?_
  refine lv_istore (lv' := [(4, .int (0 : Int32)), (3, .int (40 : Int32)), (2, .ref (a 1)), (1, .int (0 : Int32)), (0, .ref (a 0))]) hx hb dX1_countOverdue_11 hl (by decide) rfl (fun ls hl => ?_)
  have LP_loop : ∀ (n : Nat) (k : Nat), k + n = 40 → ∀ (x1 : Int32) (H : Heap) (locs : List Loc), bP G a b H → va_S (gA 47 a) s.heap H locs → ∀ ls : Array Slot, lv_has ls 6 [(4, .int (nI k)), (3, .int (40 : Int32)), (2, .ref (a 1)), (1, .int x1), (0, .ref (a 0))] → W p l e (rmK 1) s m args below meth c H locs 0 0 (MQ below (qcI G (gA 47 a) (bP G a b) (v_X1_countOverdue_loop b n k x1)) args s 0 0 (gA 47 a)) (F0 m 13 ls []) := by
    intro n
    induction n with
    | zero =>
      intro k hk_LP_loop x1 H locs hP hS ls hl
      refine lv_iload hx hb dX1_countOverdue_13 (lv_at hl 0 rfl) ?_
      refine lv_iload_n hx hb dX1_countOverdue_15 rfl (lv_at hl 1 rfl) ?_
      refine lv_icmp_ge (tgt := 51) hx hb dX1_countOverdue_16 (by decide) (fun _ => ?_) (fun c => absurd ((nI_leI (a := 40) (b := k) (by omega) (by omega)).mpr (by omega)) c)
      refine lv_iload_n hx hb dX1_countOverdue_51 rfl (lv_at hl 3 rfl) ?_
      exact e_int S hr hlk rfl hK hS hP (show v_X1_countOverdue_loop b 0 k x1 = x1 from rfl).symm dX1_countOverdue_52
    | succ n ih_LP_loop =>
      intro k hk_LP_loop x1 H locs hP hS ls hl
      refine lv_iload hx hb dX1_countOverdue_13 (lv_at hl 0 rfl) ?_
      refine lv_iload_n hx hb dX1_countOverdue_15 rfl (lv_at hl 1 rfl) ?_
      refine lv_icmp_ge (tgt := 51) hx hb dX1_countOverdue_16 (by decide) (fun c => absurd c (fun z => absurd ((nI_leI (a := 40) (b := k) (by omega) (by omega)).mp z) (by omega))) (fun _ => ?_)
      refine lv_aload_n hx hb dX1_countOverdue_19 rfl (lv_at hl 2 rfl) ?_
      refine lv_iload hx hb dX1_countOverdue_20 (lv_at hl 0 rfl) ?_
      refine g_bald S hK hP (i := 1) (by omega) bC1 (k := k) (by omega) (by decide) (v := .ref (a (k + 7))) rfl dX1_countOverdue_22 ?_
      refine lv_astore (lv' := [(5, .ref (a (k + 7))), (4, .int (nI k)), (3, .int (40 : Int32)), (2, .ref (a 1)), (1, .int x1), (0, .ref (a 0))]) hx hb dX1_countOverdue_23 hl (by decide) rfl (fun ls hl => ?_)
      refine lv_iload_n hx hb dX1_countOverdue_25 rfl (lv_at hl 4 rfl) ?_
      refine lv_aload hx hb dX1_countOverdue_26 (lv_at hl 0 rfl) ?_
      refine lv_aload_n hx hb dX1_countOverdue_28 rfl (lv_at hl 5 rfl) ?_
      refine g_get S hK hP (i := 0) (by omega) bC0 rfl inlX1 5 (by decide) k_87 (v := .int (b 0 5)) rfl dX1_countOverdue_29 ?_
      refine r_callI S hK hP (c_X0_isOverdue l G a hI b k (by omega) _ ) (r_cw S k_91 k_88 k_89 k_90 k_38 q_X0_isOverdue ⟨Nat.le_of_ble_eq_true rfl, Nat.le_of_ble_eq_true rfl⟩ rfl rfl) (g_recv hK hP (i := k + 7) (by omega) bC7 rfl) rfl hl.1 rfl (Nat.le_of_ble_eq_true rfl) dX1_countOverdue_32 ⟨Nat.zero_le _, Nat.zero_le _⟩ hS (fun _ h => h) (fun H locs hP _ _ hS => ?_)
      have hP : bP G a b H := hP
      refine lv_if_eq (tgt := 42) hx hb dX1_countOverdue_35 (by decide) (fun c1 => ?_) (fun c1 => ?_)
      · skip
        refine lv_iconst (v := 0) hx hb dX1_countOverdue_42 (by decide) ?_
        refine lv_iadd hx hb dX1_countOverdue_43 ?_
        refine lv_istore_n (lv' := [(1, .int (x1 + (0 : Int32))), (5, .ref (a (k + 7))), (4, .int (nI k)), (3, .int (40 : Int32)), (2, .ref (a 1)), (0, .ref (a 0))]) hx hb dX1_countOverdue_44 rfl hl (by decide) rfl (fun ls hl => ?_)
        refine lv_iinc (v := nI (k + 1)) (lv' := [(4, .int (nI (k + 1))), (1, .int (x1 + (0 : Int32))), (5, .ref (a (k + 7))), (3, .int (40 : Int32)), (2, .ref (a 1)), (0, .ref (a 0))]) hx hb dX1_countOverdue_45 hl (k := 2) rfl (nI_1 _) (by decide) rfl (fun ls hl => ?_)
        refine lv_goto (tgt := 13) hx hb dX1_countOverdue_48 (by decide) ?_
        refine q_eqI (show v_X1_countOverdue_loop b (n + 1) k x1 = v_X1_countOverdue_loop b n (k + 1) (x1 + (0 : Int32)) from (if_pos c1).trans rfl) rfl ?_
        exact ih_LP_loop (k + 1) (by omega) _ _ _ hP hS ls (lv_sub hl [0, 3, 4, 1, 5] rfl)
      · skip
        refine lv_iconst (v := 1) hx hb dX1_countOverdue_38 (by decide) ?_
        refine lv_goto (tgt := 43) hx hb dX1_countOverdue_39 (by decide) ?_
        refine lv_iadd hx hb dX1_countOverdue_43 ?_
        refine lv_istore_n (lv' := [(1, .int (x1 + (1 : Int32))), (5, .ref (a (k + 7))), (4, .int (nI k)), (3, .int (40 : Int32)), (2, .ref (a 1)), (0, .ref (a 0))]) hx hb dX1_countOverdue_44 rfl hl (by decide) rfl (fun ls hl => ?_)
        refine lv_iinc (v := nI (k + 1)) (lv' := [(4, .int (nI (k + 1))), (1, .int (x1 + (1 : Int32))), (5, .ref (a (k + 7))), (3, .int (40 : Int32)), (2, .ref (a 1)), (0, .ref (a 0))]) hx hb dX1_countOverdue_45 hl (k := 2) rfl (nI_1 _) (by decide) rfl (fun ls hl => ?_)
        refine lv_goto (tgt := 13) hx hb dX1_countOverdue_48 (by decide) ?_
        refine q_eqI (show v_X1_countOverdue_loop b (n + 1) k x1 = v_X1_countOverdue_loop b n (k + 1) (x1 + (1 : Int32)) from (if_neg c1).trans rfl) rfl ?_
        exact ih_LP_loop (k + 1) (by omega) _ _ _ hP hS ls (lv_sub hl [0, 3, 4, 1, 5] rfl)
  refine q_eqI (show v_X1_countOverdue b  = v_X1_countOverdue_loop b 40 0 (0 : Int32) from rfl) rfl ?_
  exact LP_loop 40 0 (by omega) _ _ _ hP hS ls (lv_sub hl [0, 1, 2, 3, 4] rfl)

def v_X1_owedOn_loop (b : Nat → Nat → Int32) (p1 : Int32) (p2 : Int32) : Nat → Nat → Int32 → Int32
  | 0, k, x3 => x3
  | n + 1, k, x3 => if v_X0_is b k p1 p2 = 0 then (v_X1_owedOn_loop b p1 p2 n (k + 1) (x3 + (0 : Int32))) else v_X1_owedOn_loop b p1 p2 n (k + 1) (x3 + (v_X0_owed b k))
def v_X1_owedOn (b : Nat → Nat → Int32) (p1 : Int32) (p2 : Int32) : Int32 := v_X1_owedOn_loop b p1 p2 40 0 (0 : Int32)
theorem q_X1_owedOn : yX1_owedOn.cls ≠ "java/lang/invoke/MethodHandle" ∧ yX1_owedOn.cls ≠ "java/lang/invoke/VarHandle" ∧ (parseMethodDescriptor yX1_owedOn.desc).map (fun d => d.parameters.length) = some 2 := ⟨by decide, by decide, by decide +kernel⟩
set_option maxHeartbeats 4000000 in
set_option maxRecDepth 100000 in
theorem c_X1_owedOn (l : Launch) (G : kG) (a : Nat → Nat) (hI : gI 47 a) (b : Nat → Nat → Int32) (p1 : Int32) (p2 : Int32) : Met l yX1_owedOn (Cond.code yX1_owedOn cX1_owedOn 8 (some .int) :: BIG) (rmK 1) (pcG G (bP G a b) [.ref (a 0), .int p1, .int p2]) (qcI G (gA 47 a) (bP G a b) (v_X1_owedOn b p1 p2)) 0 0 (gA 47 a) := by
  refine m_start (by decide) (Nat.le_of_ble_eq_true rfl) ?_
  intro p e s m args below meth c S hr hlk hnm hP hK ls hl
  have hx := S.1
  have hb := S.2.1
  have hown := S.2.2.2.1
  have hS : va_S (gA 47 a) s.heap s.heap [] := va_S.rf
  have hl : lv_has ls 8 [(0, .ref (a 0)), (1, .int p1), (2, .int p2)] := hl
  refine lv_iconst (v := 0) hx hb dX1_owedOn_0 (by decide) ?_
  refine lv_istore_n (lv' := [(3, .int (0 : Int32)), (0, .ref (a 0)), (1, .int p1), (2, .int p2)]) hx hb dX1_owedOn_1 rfl hl (by decide) rfl (fun ls hl => ?_)
  refine lv_aload_n hx hb dX1_owedOn_2 rfl (lv_at hl 1 rfl) ?_
  refine g_get S hK hP (i := 0) (by omega) bC0 rfl inlX1 0 (by decide) k_28 (v := .ref (a 1)) rfl dX1_owedOn_3 ?_
  refine lv_astore (lv' := [(4, .ref (a 1)), (3, .int (0 : Int32)), (0, .ref (a 0)), (1, .int p1), (2, .int p2)]) hx hb dX1_owedOn_6 hl (by decide) rfl (fun ls hl => ?_)
  refine lv_aload hx hb dX1_owedOn_8 (lv_at hl 0 rfl) ?_
  refine g_alen S hK hP (i := 1) (by omega) (bC1 _) 2 rfl (v := 40) rfl dX1_owedOn_10 ?_
  refine lv_istore (lv' := [(5, .int (40 : Int32)), (4, .ref (a 1)), (3, .int (0 : Int32)), (0, .ref (a 0)), (1, .int p1), (2, .int p2)]) hx hb dX1_owedOn_11 hl (by decide) rfl (fun ls hl => ?_)
  refine lv_iconst (v := 0) hx hb dX1_owedOn_13 (by decide) ?_
  refine lv_istore (lv' := [(6, .int (0 : Int32)), (5, .int (40 : Int32)), (4, .ref (a 1)), (3, .int (0 : Int32)), (0, .ref (a 0)), (1, .int p1), (2, .int p2)]) hx hb dX1_owedOn_14 hl (by decide) rfl (fun ls hl => ?_)
  have LP_loop : ∀ (n : Nat) (k : Nat), k + n = 40 → ∀ (x3 : Int32) (H : Heap) (locs : List Loc), bP G a b H → va_S (gA 47 a) s.heap H locs → ∀ ls : Array Slot, lv_has ls 8 [(6, .int (nI k)), (5, .int (40 : Int32)), (4, .ref (a 1)), (3, .int x3), (0, .ref (a 0)), (1, .int p1), (2, .int p2)] → W p l e (rmK 1) s m args below meth c H locs 0 0 (MQ below (qcI G (gA 47 a) (bP G a b) (v_X1_owedOn_loop b p1 p2 n k x3)) args s 0 0 (gA 47 a)) (F0 m 16 ls []) := by
    intro n
    induction n with
    | zero =>
      intro k hk_LP_loop x3 H locs hP hS ls hl
      refine lv_iload hx hb dX1_owedOn_16 (lv_at hl 0 rfl) ?_
      refine lv_iload hx hb dX1_owedOn_18 (lv_at hl 1 rfl) ?_
      refine lv_icmp_ge (tgt := 58) hx hb dX1_owedOn_20 (by decide) (fun _ => ?_) (fun c => absurd ((nI_leI (a := 40) (b := k) (by omega) (by omega)).mpr (by omega)) c)
      refine lv_iload_n hx hb dX1_owedOn_58 rfl (lv_at hl 3 rfl) ?_
      exact e_int S hr hlk rfl hK hS hP (show v_X1_owedOn_loop b p1 p2 0 k x3 = x3 from rfl).symm dX1_owedOn_59
    | succ n ih_LP_loop =>
      intro k hk_LP_loop x3 H locs hP hS ls hl
      refine lv_iload hx hb dX1_owedOn_16 (lv_at hl 0 rfl) ?_
      refine lv_iload hx hb dX1_owedOn_18 (lv_at hl 1 rfl) ?_
      refine lv_icmp_ge (tgt := 58) hx hb dX1_owedOn_20 (by decide) (fun c => absurd c (fun z => absurd ((nI_leI (a := 40) (b := k) (by omega) (by omega)).mp z) (by omega))) (fun _ => ?_)
      refine lv_aload hx hb dX1_owedOn_23 (lv_at hl 2 rfl) ?_
      refine lv_iload hx hb dX1_owedOn_25 (lv_at hl 0 rfl) ?_
      refine g_bald S hK hP (i := 1) (by omega) bC1 (k := k) (by omega) (by decide) (v := .ref (a (k + 7))) rfl dX1_owedOn_27 ?_
      refine lv_astore (lv' := [(7, .ref (a (k + 7))), (6, .int (nI k)), (5, .int (40 : Int32)), (4, .ref (a 1)), (3, .int x3), (0, .ref (a 0)), (1, .int p1), (2, .int p2)]) hx hb dX1_owedOn_28 hl (by decide) rfl (fun ls hl => ?_)
      refine lv_iload_n hx hb dX1_owedOn_30 rfl (lv_at hl 4 rfl) ?_
      refine lv_aload hx hb dX1_owedOn_31 (lv_at hl 0 rfl) ?_
      refine lv_iload_n hx hb dX1_owedOn_33 rfl (lv_at hl 6 rfl) ?_
      refine lv_iload_n hx hb dX1_owedOn_34 rfl (lv_at hl 7 rfl) ?_
      refine r_callI S hK hP (c_X0_is l G a hI b k (by omega) _ _ ) (r_cw S k_81 k_78 k_79 k_80 k_38 q_X0_is ⟨Nat.le_of_ble_eq_true rfl, Nat.le_of_ble_eq_true rfl⟩ rfl rfl) (g_recv hK hP (i := k + 7) (by omega) bC7 rfl) rfl hl.1 rfl (Nat.le_of_ble_eq_true rfl) dX1_owedOn_35 ⟨Nat.zero_le _, Nat.zero_le _⟩ hS (fun _ h => h) (fun H locs hP _ _ hS => ?_)
      have hP : bP G a b H := hP
      refine lv_if_eq (tgt := 49) hx hb dX1_owedOn_38 (by decide) (fun c1 => ?_) (fun c1 => ?_)
      · skip
        refine lv_iconst (v := 0) hx hb dX1_owedOn_49 (by decide) ?_
        refine lv_iadd hx hb dX1_owedOn_50 ?_
        refine lv_istore_n (lv' := [(3, .int (x3 + (0 : Int32))), (7, .ref (a (k + 7))), (6, .int (nI k)), (5, .int (40 : Int32)), (4, .ref (a 1)), (0, .ref (a 0)), (1, .int p1), (2, .int p2)]) hx hb dX1_owedOn_51 rfl hl (by decide) rfl (fun ls hl => ?_)
        refine lv_iinc (v := nI (k + 1)) (lv' := [(6, .int (nI (k + 1))), (3, .int (x3 + (0 : Int32))), (7, .ref (a (k + 7))), (5, .int (40 : Int32)), (4, .ref (a 1)), (0, .ref (a 0)), (1, .int p1), (2, .int p2)]) hx hb dX1_owedOn_52 hl (k := 2) rfl (nI_1 _) (by decide) rfl (fun ls hl => ?_)
        refine lv_goto (tgt := 16) hx hb dX1_owedOn_55 (by decide) ?_
        refine q_eqI (show v_X1_owedOn_loop b p1 p2 (n + 1) k x3 = v_X1_owedOn_loop b p1 p2 n (k + 1) (x3 + (0 : Int32)) from (if_pos c1).trans rfl) rfl ?_
        exact ih_LP_loop (k + 1) (by omega) _ _ _ hP hS ls (lv_sub hl [0, 3, 4, 1, 5, 6, 7] rfl)
      · skip
        refine lv_aload hx hb dX1_owedOn_41 (lv_at hl 0 rfl) ?_
        refine r_callI S hK hP (c_X0_owed l G a hI b k (by omega) ) (r_cw S k_101 k_98 k_99 k_100 k_38 q_X0_owed ⟨Nat.le_of_ble_eq_true rfl, Nat.le_of_ble_eq_true rfl⟩ rfl rfl) (g_recv hK hP (i := k + 7) (by omega) bC7 rfl) rfl hl.1 rfl (Nat.le_of_ble_eq_true rfl) dX1_owedOn_43 ⟨Nat.zero_le _, Nat.zero_le _⟩ hS (fun _ h => h) (fun H locs hP _ _ hS => ?_)
        have hP : bP G a b H := hP
        refine lv_goto (tgt := 50) hx hb dX1_owedOn_46 (by decide) ?_
        refine lv_iadd hx hb dX1_owedOn_50 ?_
        refine lv_istore_n (lv' := [(3, .int (x3 + (v_X0_owed b k))), (7, .ref (a (k + 7))), (6, .int (nI k)), (5, .int (40 : Int32)), (4, .ref (a 1)), (0, .ref (a 0)), (1, .int p1), (2, .int p2)]) hx hb dX1_owedOn_51 rfl hl (by decide) rfl (fun ls hl => ?_)
        refine lv_iinc (v := nI (k + 1)) (lv' := [(6, .int (nI (k + 1))), (3, .int (x3 + (v_X0_owed b k))), (7, .ref (a (k + 7))), (5, .int (40 : Int32)), (4, .ref (a 1)), (0, .ref (a 0)), (1, .int p1), (2, .int p2)]) hx hb dX1_owedOn_52 hl (k := 2) rfl (nI_1 _) (by decide) rfl (fun ls hl => ?_)
        refine lv_goto (tgt := 16) hx hb dX1_owedOn_55 (by decide) ?_
        refine q_eqI (show v_X1_owedOn_loop b p1 p2 (n + 1) k x3 = v_X1_owedOn_loop b p1 p2 n (k + 1) (x3 + (v_X0_owed b k)) from (if_neg c1).trans rfl) rfl ?_
        exact ih_LP_loop (k + 1) (by omega) _ _ _ hP hS ls (lv_sub hl [0, 3, 4, 1, 5, 6, 7] rfl)
  refine q_eqI (show v_X1_owedOn b p1 p2 = v_X1_owedOn_loop b p1 p2 40 0 (0 : Int32) from rfl) rfl ?_
  exact LP_loop 40 0 (by omega) _ _ _ hP hS ls (lv_sub hl [0, 1, 2, 3, 4, 5, 6] rfl)

def v_X1_oldestOpenBill_loop (b : Nat → Nat → Int32) (p1 : Int32) : Nat → Nat → Int32
  | 0, k => (-5 : Int32)
  | n + 1, k => if v_X0_is b k p1 (0 : Int32) = 0 then (v_X1_oldestOpenBill_loop b p1 n (k + 1)) else nI k
def v_X1_oldestOpenBill (b : Nat → Nat → Int32) (p1 : Int32) : Int32 := v_X1_oldestOpenBill_loop b p1 40 0
theorem q_X1_oldestOpenBill : yX1_oldestOpenBill.cls ≠ "java/lang/invoke/MethodHandle" ∧ yX1_oldestOpenBill.cls ≠ "java/lang/invoke/VarHandle" ∧ (parseMethodDescriptor yX1_oldestOpenBill.desc).map (fun d => d.parameters.length) = some 1 := ⟨by decide, by decide, by decide +kernel⟩
set_option maxHeartbeats 4000000 in
set_option maxRecDepth 100000 in
theorem c_X1_oldestOpenBill (l : Launch) (G : kG) (a : Nat → Nat) (hI : gI 47 a) (b : Nat → Nat → Int32) (p1 : Int32) : Met l yX1_oldestOpenBill (Cond.code yX1_oldestOpenBill cX1_oldestOpenBill 3 (some .int) :: BIG) (rmK 1) (pcG G (bP G a b) [.ref (a 0), .int p1]) (qcI G (gA 47 a) (bP G a b) (v_X1_oldestOpenBill b p1)) 0 0 (gA 47 a) := by
  refine m_start (by decide) (Nat.le_of_ble_eq_true rfl) ?_
  intro p e s m args below meth c S hr hlk hnm hP hK ls hl
  have hx := S.1
  have hb := S.2.1
  have hown := S.2.2.2.1
  have hS : va_S (gA 47 a) s.heap s.heap [] := va_S.rf
  have hl : lv_has ls 3 [(0, .ref (a 0)), (1, .int p1)] := hl
  refine lv_iconst (v := 0) hx hb dX1_oldestOpenBill_0 (by decide) ?_
  refine lv_istore_n (lv' := [(2, .int (0 : Int32)), (0, .ref (a 0)), (1, .int p1)]) hx hb dX1_oldestOpenBill_1 rfl hl (by decide) rfl (fun ls hl => ?_)
  have LP_loop : ∀ (n : Nat) (k : Nat), k + n = 40 → ∀ (H : Heap) (locs : List Loc), bP G a b H → va_S (gA 47 a) s.heap H locs → ∀ ls : Array Slot, lv_has ls 3 [(2, .int (nI k)), (0, .ref (a 0)), (1, .int p1)] → W p l e (rmK 1) s m args below meth c H locs 0 0 (MQ below (qcI G (gA 47 a) (bP G a b) (v_X1_oldestOpenBill_loop b p1 n k)) args s 0 0 (gA 47 a)) (F0 m 2 ls []) := by
    intro n
    induction n with
    | zero =>
      intro k hk_LP_loop H locs hP hS ls hl
      refine lv_iload_n hx hb dX1_oldestOpenBill_2 rfl (lv_at hl 0 rfl) ?_
      refine lv_aload_n hx hb dX1_oldestOpenBill_3 rfl (lv_at hl 1 rfl) ?_
      refine g_get S hK hP (i := 0) (by omega) bC0 rfl inlX1 0 (by decide) k_28 (v := .ref (a 1)) rfl dX1_oldestOpenBill_4 ?_
      refine g_alen S hK hP (i := 1) (by omega) (bC1 _) 2 rfl (v := 40) rfl dX1_oldestOpenBill_7 ?_
      refine lv_icmp_ge (tgt := 33) hx hb dX1_oldestOpenBill_8 (by decide) (fun _ => ?_) (fun c => absurd ((nI_leI (a := 40) (b := k) (by omega) (by omega)).mpr (by omega)) c)
      refine lv_bipush (v := -5) hx hb dX1_oldestOpenBill_33 (by decide) ?_
      exact e_int S hr hlk rfl hK hS hP (show v_X1_oldestOpenBill_loop b p1 0 k = (-5 : Int32) from rfl).symm dX1_oldestOpenBill_35
    | succ n ih_LP_loop =>
      intro k hk_LP_loop H locs hP hS ls hl
      refine lv_iload_n hx hb dX1_oldestOpenBill_2 rfl (lv_at hl 0 rfl) ?_
      refine lv_aload_n hx hb dX1_oldestOpenBill_3 rfl (lv_at hl 1 rfl) ?_
      refine g_get S hK hP (i := 0) (by omega) bC0 rfl inlX1 0 (by decide) k_28 (v := .ref (a 1)) rfl dX1_oldestOpenBill_4 ?_
      refine g_alen S hK hP (i := 1) (by omega) (bC1 _) 2 rfl (v := 40) rfl dX1_oldestOpenBill_7 ?_
      refine lv_icmp_ge (tgt := 33) hx hb dX1_oldestOpenBill_8 (by decide) (fun c => absurd c (fun z => absurd ((nI_leI (a := 40) (b := k) (by omega) (by omega)).mp z) (by omega))) (fun _ => ?_)
      refine lv_aload_n hx hb dX1_oldestOpenBill_11 rfl (lv_at hl 1 rfl) ?_
      refine g_get S hK hP (i := 0) (by omega) bC0 rfl inlX1 0 (by decide) k_28 (v := .ref (a 1)) rfl dX1_oldestOpenBill_12 ?_
      refine lv_iload_n hx hb dX1_oldestOpenBill_15 rfl (lv_at hl 0 rfl) ?_
      refine g_bald S hK hP (i := 1) (by omega) bC1 (k := k) (by omega) (by decide) (v := .ref (a (k + 7))) rfl dX1_oldestOpenBill_16 ?_
      refine lv_iload_n hx hb dX1_oldestOpenBill_17 rfl (lv_at hl 2 rfl) ?_
      refine lv_iconst (v := 0) hx hb dX1_oldestOpenBill_18 (by decide) ?_
      refine r_callI S hK hP (c_X0_is l G a hI b k (by omega) _ _ ) (r_cw S k_81 k_78 k_79 k_80 k_38 q_X0_is ⟨Nat.le_of_ble_eq_true rfl, Nat.le_of_ble_eq_true rfl⟩ rfl rfl) (g_recv hK hP (i := k + 7) (by omega) bC7 rfl) rfl hl.1 rfl (Nat.le_of_ble_eq_true rfl) dX1_oldestOpenBill_19 ⟨Nat.zero_le _, Nat.zero_le _⟩ hS (fun _ h => h) (fun H locs hP _ _ hS => ?_)
      have hP : bP G a b H := hP
      refine lv_if_eq (tgt := 27) hx hb dX1_oldestOpenBill_22 (by decide) (fun c1 => ?_) (fun c1 => ?_)
      · skip
        refine lv_iinc (v := nI (k + 1)) (lv' := [(2, .int (nI (k + 1))), (0, .ref (a 0)), (1, .int p1)]) hx hb dX1_oldestOpenBill_27 hl (k := 0) rfl (nI_1 _) (by decide) rfl (fun ls hl => ?_)
        refine lv_goto (tgt := 2) hx hb dX1_oldestOpenBill_30 (by decide) ?_
        refine q_eqI (show v_X1_oldestOpenBill_loop b p1 (n + 1) k = v_X1_oldestOpenBill_loop b p1 n (k + 1) from (if_pos c1).trans rfl) rfl ?_
        exact ih_LP_loop (k + 1) (by omega) _ _ hP hS ls (lv_sub hl [0, 1, 2] rfl)
      · skip
        refine lv_iload_n hx hb dX1_oldestOpenBill_25 rfl (lv_at hl 0 rfl) ?_
        exact e_int S hr hlk rfl hK hS hP (show v_X1_oldestOpenBill_loop b p1 (n + 1) k = nI k from (if_neg c1).trans rfl).symm dX1_oldestOpenBill_26
  refine q_eqI (show v_X1_oldestOpenBill b p1 = v_X1_oldestOpenBill_loop b p1 40 0 from rfl) rfl ?_
  exact LP_loop 40 0 (by omega) _ _ hP hS ls (lv_sub hl [0, 1, 2] rfl)

def v_X1_paidOn_loop (b : Nat → Nat → Int32) (p1 : Int32) : Nat → Nat → Int32 → Int32
  | 0, k, x2 => x2
  | n + 1, k, x2 => if v_X0_is b k p1 (-9 : Int32) = 0 then (v_X1_paidOn_loop b p1 n (k + 1) (x2 + (0 : Int32))) else v_X1_paidOn_loop b p1 n (k + 1) (x2 + (b (k + 7) 8))
def v_X1_paidOn (b : Nat → Nat → Int32) (p1 : Int32) : Int32 := v_X1_paidOn_loop b p1 40 0 (0 : Int32)
theorem q_X1_paidOn : yX1_paidOn.cls ≠ "java/lang/invoke/MethodHandle" ∧ yX1_paidOn.cls ≠ "java/lang/invoke/VarHandle" ∧ (parseMethodDescriptor yX1_paidOn.desc).map (fun d => d.parameters.length) = some 1 := ⟨by decide, by decide, by decide +kernel⟩
set_option maxHeartbeats 4000000 in
set_option maxRecDepth 100000 in
theorem c_X1_paidOn (l : Launch) (G : kG) (a : Nat → Nat) (hI : gI 47 a) (b : Nat → Nat → Int32) (p1 : Int32) : Met l yX1_paidOn (Cond.code yX1_paidOn cX1_paidOn 7 (some .int) :: BIG) (rmK 1) (pcG G (bP G a b) [.ref (a 0), .int p1]) (qcI G (gA 47 a) (bP G a b) (v_X1_paidOn b p1)) 0 0 (gA 47 a) := by
  refine m_start (by decide) (Nat.le_of_ble_eq_true rfl) ?_
  intro p e s m args below meth c S hr hlk hnm hP hK ls hl
  have hx := S.1
  have hb := S.2.1
  have hown := S.2.2.2.1
  have hS : va_S (gA 47 a) s.heap s.heap [] := va_S.rf
  have hl : lv_has ls 7 [(0, .ref (a 0)), (1, .int p1)] := hl
  refine lv_iconst (v := 0) hx hb dX1_paidOn_0 (by decide) ?_
  refine lv_istore_n (lv' := [(2, .int (0 : Int32)), (0, .ref (a 0)), (1, .int p1)]) hx hb dX1_paidOn_1 rfl hl (by decide) rfl (fun ls hl => ?_)
  refine lv_aload_n hx hb dX1_paidOn_2 rfl (lv_at hl 1 rfl) ?_
  refine g_get S hK hP (i := 0) (by omega) bC0 rfl inlX1 0 (by decide) k_28 (v := .ref (a 1)) rfl dX1_paidOn_3 ?_
  refine lv_astore_n (lv' := [(3, .ref (a 1)), (2, .int (0 : Int32)), (0, .ref (a 0)), (1, .int p1)]) hx hb dX1_paidOn_6 rfl hl (by decide) rfl (fun ls hl => ?_)
  refine lv_aload_n hx hb dX1_paidOn_7 rfl (lv_at hl 0 rfl) ?_
  refine g_alen S hK hP (i := 1) (by omega) (bC1 _) 2 rfl (v := 40) rfl dX1_paidOn_8 ?_
  refine lv_istore (lv' := [(4, .int (40 : Int32)), (3, .ref (a 1)), (2, .int (0 : Int32)), (0, .ref (a 0)), (1, .int p1)]) hx hb dX1_paidOn_9 hl (by decide) rfl (fun ls hl => ?_)
  refine lv_iconst (v := 0) hx hb dX1_paidOn_11 (by decide) ?_
  refine lv_istore (lv' := [(5, .int (0 : Int32)), (4, .int (40 : Int32)), (3, .ref (a 1)), (2, .int (0 : Int32)), (0, .ref (a 0)), (1, .int p1)]) hx hb dX1_paidOn_12 hl (by decide) rfl (fun ls hl => ?_)
  have LP_loop : ∀ (n : Nat) (k : Nat), k + n = 40 → ∀ (x2 : Int32) (H : Heap) (locs : List Loc), bP G a b H → va_S (gA 47 a) s.heap H locs → ∀ ls : Array Slot, lv_has ls 7 [(5, .int (nI k)), (4, .int (40 : Int32)), (3, .ref (a 1)), (2, .int x2), (0, .ref (a 0)), (1, .int p1)] → W p l e (rmK 1) s m args below meth c H locs 0 0 (MQ below (qcI G (gA 47 a) (bP G a b) (v_X1_paidOn_loop b p1 n k x2)) args s 0 0 (gA 47 a)) (F0 m 14 ls []) := by
    intro n
    induction n with
    | zero =>
      intro k hk_LP_loop x2 H locs hP hS ls hl
      refine lv_iload hx hb dX1_paidOn_14 (lv_at hl 0 rfl) ?_
      refine lv_iload hx hb dX1_paidOn_16 (lv_at hl 1 rfl) ?_
      refine lv_icmp_ge (tgt := 56) hx hb dX1_paidOn_18 (by decide) (fun _ => ?_) (fun c => absurd ((nI_leI (a := 40) (b := k) (by omega) (by omega)).mpr (by omega)) c)
      refine lv_iload_n hx hb dX1_paidOn_56 rfl (lv_at hl 3 rfl) ?_
      exact e_int S hr hlk rfl hK hS hP (show v_X1_paidOn_loop b p1 0 k x2 = x2 from rfl).symm dX1_paidOn_57
    | succ n ih_LP_loop =>
      intro k hk_LP_loop x2 H locs hP hS ls hl
      refine lv_iload hx hb dX1_paidOn_14 (lv_at hl 0 rfl) ?_
      refine lv_iload hx hb dX1_paidOn_16 (lv_at hl 1 rfl) ?_
      refine lv_icmp_ge (tgt := 56) hx hb dX1_paidOn_18 (by decide) (fun c => absurd c (fun z => absurd ((nI_leI (a := 40) (b := k) (by omega) (by omega)).mp z) (by omega))) (fun _ => ?_)
      refine lv_aload_n hx hb dX1_paidOn_21 rfl (lv_at hl 2 rfl) ?_
      refine lv_iload hx hb dX1_paidOn_22 (lv_at hl 0 rfl) ?_
      refine g_bald S hK hP (i := 1) (by omega) bC1 (k := k) (by omega) (by decide) (v := .ref (a (k + 7))) rfl dX1_paidOn_24 ?_
      refine lv_astore (lv' := [(6, .ref (a (k + 7))), (5, .int (nI k)), (4, .int (40 : Int32)), (3, .ref (a 1)), (2, .int x2), (0, .ref (a 0)), (1, .int p1)]) hx hb dX1_paidOn_25 hl (by decide) rfl (fun ls hl => ?_)
      refine lv_iload_n hx hb dX1_paidOn_27 rfl (lv_at hl 4 rfl) ?_
      refine lv_aload hx hb dX1_paidOn_28 (lv_at hl 0 rfl) ?_
      refine lv_iload_n hx hb dX1_paidOn_30 rfl (lv_at hl 6 rfl) ?_
      refine lv_bipush (v := -9) hx hb dX1_paidOn_31 (by decide) ?_
      refine r_callI S hK hP (c_X0_is l G a hI b k (by omega) _ _ ) (r_cw S k_81 k_78 k_79 k_80 k_38 q_X0_is ⟨Nat.le_of_ble_eq_true rfl, Nat.le_of_ble_eq_true rfl⟩ rfl rfl) (g_recv hK hP (i := k + 7) (by omega) bC7 rfl) rfl hl.1 rfl (Nat.le_of_ble_eq_true rfl) dX1_paidOn_33 ⟨Nat.zero_le _, Nat.zero_le _⟩ hS (fun _ h => h) (fun H locs hP _ _ hS => ?_)
      have hP : bP G a b H := hP
      refine lv_if_eq (tgt := 47) hx hb dX1_paidOn_36 (by decide) (fun c1 => ?_) (fun c1 => ?_)
      · skip
        refine lv_iconst (v := 0) hx hb dX1_paidOn_47 (by decide) ?_
        refine lv_iadd hx hb dX1_paidOn_48 ?_
        refine lv_istore_n (lv' := [(2, .int (x2 + (0 : Int32))), (6, .ref (a (k + 7))), (5, .int (nI k)), (4, .int (40 : Int32)), (3, .ref (a 1)), (0, .ref (a 0)), (1, .int p1)]) hx hb dX1_paidOn_49 rfl hl (by decide) rfl (fun ls hl => ?_)
        refine lv_iinc (v := nI (k + 1)) (lv' := [(5, .int (nI (k + 1))), (2, .int (x2 + (0 : Int32))), (6, .ref (a (k + 7))), (4, .int (40 : Int32)), (3, .ref (a 1)), (0, .ref (a 0)), (1, .int p1)]) hx hb dX1_paidOn_50 hl (k := 2) rfl (nI_1 _) (by decide) rfl (fun ls hl => ?_)
        refine lv_goto (tgt := 14) hx hb dX1_paidOn_53 (by decide) ?_
        refine q_eqI (show v_X1_paidOn_loop b p1 (n + 1) k x2 = v_X1_paidOn_loop b p1 n (k + 1) (x2 + (0 : Int32)) from (if_pos c1).trans rfl) rfl ?_
        exact ih_LP_loop (k + 1) (by omega) _ _ _ hP hS ls (lv_sub hl [0, 3, 4, 1, 5, 6] rfl)
      · skip
        refine lv_aload hx hb dX1_paidOn_39 (lv_at hl 0 rfl) ?_
        refine g_get S hK hP (i := k + 7) (by omega) bC7 rfl inlX0 8 (by decide) k_114 (v := .int (b (k + 7) 8)) rfl dX1_paidOn_41 ?_
        refine lv_goto (tgt := 48) hx hb dX1_paidOn_44 (by decide) ?_
        refine lv_iadd hx hb dX1_paidOn_48 ?_
        refine lv_istore_n (lv' := [(2, .int (x2 + (b (k + 7) 8))), (6, .ref (a (k + 7))), (5, .int (nI k)), (4, .int (40 : Int32)), (3, .ref (a 1)), (0, .ref (a 0)), (1, .int p1)]) hx hb dX1_paidOn_49 rfl hl (by decide) rfl (fun ls hl => ?_)
        refine lv_iinc (v := nI (k + 1)) (lv' := [(5, .int (nI (k + 1))), (2, .int (x2 + (b (k + 7) 8))), (6, .ref (a (k + 7))), (4, .int (40 : Int32)), (3, .ref (a 1)), (0, .ref (a 0)), (1, .int p1)]) hx hb dX1_paidOn_50 hl (k := 2) rfl (nI_1 _) (by decide) rfl (fun ls hl => ?_)
        refine lv_goto (tgt := 14) hx hb dX1_paidOn_53 (by decide) ?_
        refine q_eqI (show v_X1_paidOn_loop b p1 (n + 1) k x2 = v_X1_paidOn_loop b p1 n (k + 1) (x2 + (b (k + 7) 8)) from (if_neg c1).trans rfl) rfl ?_
        exact ih_LP_loop (k + 1) (by omega) _ _ _ hP hS ls (lv_sub hl [0, 3, 4, 1, 5, 6] rfl)
  refine q_eqI (show v_X1_paidOn b p1 = v_X1_paidOn_loop b p1 40 0 (0 : Int32) from rfl) rfl ?_
  exact LP_loop 40 0 (by omega) _ _ _ hP hS ls (lv_sub hl [0, 1, 2, 3, 4, 5] rfl)

def v_X1_allCredit_loop (b : Nat → Nat → Int32) : Nat → Nat → Int32 → Int32
  | 0, k, x1 => x1
  | n + 1, k, x1 => v_X1_allCredit_loop b n (k + 1) (x1 + (b 2 k))
def v_X1_allCredit (b : Nat → Nat → Int32) : Int32 := v_X1_allCredit_loop b 8 0 (0 : Int32)
theorem q_X1_allCredit : yX1_allCredit.cls ≠ "java/lang/invoke/MethodHandle" ∧ yX1_allCredit.cls ≠ "java/lang/invoke/VarHandle" ∧ (parseMethodDescriptor yX1_allCredit.desc).map (fun d => d.parameters.length) = some 0 := ⟨by decide, by decide, by decide +kernel⟩
set_option maxHeartbeats 4000000 in
set_option maxRecDepth 100000 in
theorem c_X1_allCredit (l : Launch) (G : kG) (a : Nat → Nat) (hI : gI 47 a) (b : Nat → Nat → Int32) : Met l yX1_allCredit (Cond.code yX1_allCredit cX1_allCredit 6 (some .int) :: BIG) (rmK 0) (pcG G (bP G a b) [.ref (a 0)]) (qcI G (gA 47 a) (bP G a b) (v_X1_allCredit b)) 0 0 (gA 47 a) := by
  refine m_start (by decide) (Nat.le_of_ble_eq_true rfl) ?_
  intro p e s m args below meth c S hr hlk hnm hP hK ls hl
  have hx := S.1
  have hb := S.2.1
  have hown := S.2.2.2.1
  have hS : va_S (gA 47 a) s.heap s.heap [] := va_S.rf
  have hl : lv_has ls 6 [(0, .ref (a 0))] := hl
  refine lv_iconst (v := 0) hx hb dX1_allCredit_0 (by decide) ?_
  refine lv_istore_n (lv' := [(1, .int (0 : Int32)), (0, .ref (a 0))]) hx hb dX1_allCredit_1 rfl hl (by decide) rfl (fun ls hl => ?_)
  refine lv_aload_n hx hb dX1_allCredit_2 rfl (lv_at hl 1 rfl) ?_
  refine g_get S hK hP (i := 0) (by omega) bC0 rfl inlX1 1 (by decide) k_30 (v := .ref (a 2)) rfl dX1_allCredit_3 ?_
  refine lv_astore_n (lv' := [(2, .ref (a 2)), (1, .int (0 : Int32)), (0, .ref (a 0))]) hx hb dX1_allCredit_6 rfl hl (by decide) rfl (fun ls hl => ?_)
  refine lv_aload_n hx hb dX1_allCredit_7 rfl (lv_at hl 0 rfl) ?_
  refine g_alen S hK hP (i := 2) (by omega) (bC2 _) 0 rfl (v := 8) rfl dX1_allCredit_8 ?_
  refine lv_istore_n (lv' := [(3, .int (8 : Int32)), (2, .ref (a 2)), (1, .int (0 : Int32)), (0, .ref (a 0))]) hx hb dX1_allCredit_9 rfl hl (by decide) rfl (fun ls hl => ?_)
  refine lv_iconst (v := 0) hx hb dX1_allCredit_10 (by decide) ?_
  refine lv_istore (lv' := [(4, .int (0 : Int32)), (3, .int (8 : Int32)), (2, .ref (a 2)), (1, .int (0 : Int32)), (0, .ref (a 0))]) hx hb dX1_allCredit_11 hl (by decide) rfl (fun ls hl => ?_)
  have LP_loop : ∀ (n : Nat) (k : Nat), k + n = 8 → ∀ (x1 : Int32) (H : Heap) (locs : List Loc), bP G a b H → va_S (gA 47 a) s.heap H locs → ∀ ls : Array Slot, lv_has ls 6 [(4, .int (nI k)), (3, .int (8 : Int32)), (2, .ref (a 2)), (1, .int x1), (0, .ref (a 0))] → W p l e (rmK 0) s m args below meth c H locs 0 0 (MQ below (qcI G (gA 47 a) (bP G a b) (v_X1_allCredit_loop b n k x1)) args s 0 0 (gA 47 a)) (F0 m 13 ls []) := by
    intro n
    induction n with
    | zero =>
      intro k hk_LP_loop x1 H locs hP hS ls hl
      refine lv_iload hx hb dX1_allCredit_13 (lv_at hl 0 rfl) ?_
      refine lv_iload_n hx hb dX1_allCredit_15 rfl (lv_at hl 1 rfl) ?_
      refine lv_icmp_ge (tgt := 36) hx hb dX1_allCredit_16 (by decide) (fun _ => ?_) (fun c => absurd ((nI_leI (a := 8) (b := k) (by omega) (by omega)).mpr (by omega)) c)
      refine lv_iload_n hx hb dX1_allCredit_36 rfl (lv_at hl 3 rfl) ?_
      exact e_int S hr hlk rfl hK hS hP (show v_X1_allCredit_loop b 0 k x1 = x1 from rfl).symm dX1_allCredit_37
    | succ n ih_LP_loop =>
      intro k hk_LP_loop x1 H locs hP hS ls hl
      refine lv_iload hx hb dX1_allCredit_13 (lv_at hl 0 rfl) ?_
      refine lv_iload_n hx hb dX1_allCredit_15 rfl (lv_at hl 1 rfl) ?_
      refine lv_icmp_ge (tgt := 36) hx hb dX1_allCredit_16 (by decide) (fun c => absurd c (fun z => absurd ((nI_leI (a := 8) (b := k) (by omega) (by omega)).mp z) (by omega))) (fun _ => ?_)
      refine lv_aload_n hx hb dX1_allCredit_19 rfl (lv_at hl 2 rfl) ?_
      refine lv_iload hx hb dX1_allCredit_20 (lv_at hl 0 rfl) ?_
      refine g_aldN S hK hP (i := 2) (by omega) bC2 (k := k) (by omega) (by decide) (v := b 2 k) (rfl) dX1_allCredit_22 ?_
      refine lv_istore (lv' := [(5, .int (b 2 k)), (4, .int (nI k)), (3, .int (8 : Int32)), (2, .ref (a 2)), (1, .int x1), (0, .ref (a 0))]) hx hb dX1_allCredit_23 hl (by decide) rfl (fun ls hl => ?_)
      refine lv_iload_n hx hb dX1_allCredit_25 rfl (lv_at hl 4 rfl) ?_
      refine lv_iload hx hb dX1_allCredit_26 (lv_at hl 0 rfl) ?_
      refine lv_iadd hx hb dX1_allCredit_28 ?_
      refine lv_istore_n (lv' := [(1, .int (x1 + (b 2 k))), (5, .int (b 2 k)), (4, .int (nI k)), (3, .int (8 : Int32)), (2, .ref (a 2)), (0, .ref (a 0))]) hx hb dX1_allCredit_29 rfl hl (by decide) rfl (fun ls hl => ?_)
      refine lv_iinc (v := nI (k + 1)) (lv' := [(4, .int (nI (k + 1))), (1, .int (x1 + (b 2 k))), (5, .int (b 2 k)), (3, .int (8 : Int32)), (2, .ref (a 2)), (0, .ref (a 0))]) hx hb dX1_allCredit_30 hl (k := 2) rfl (nI_1 _) (by decide) rfl (fun ls hl => ?_)
      refine lv_goto (tgt := 13) hx hb dX1_allCredit_33 (by decide) ?_
      refine q_eqI (show v_X1_allCredit_loop b (n + 1) k x1 = v_X1_allCredit_loop b n (k + 1) (x1 + (b 2 k)) from rfl) rfl ?_
      exact ih_LP_loop (k + 1) (by omega) _ _ _ hP hS ls (lv_sub hl [0, 3, 4, 1, 5] rfl)
  refine q_eqI (show v_X1_allCredit b  = v_X1_allCredit_loop b 8 0 (0 : Int32) from rfl) rfl ?_
  exact LP_loop 8 0 (by omega) _ _ _ hP hS ls (lv_sub hl [0, 1, 2, 3, 4] rfl)

def v_X1_allDiscounts_loop (b : Nat → Nat → Int32) : Nat → Nat → Int32 → Int32
  | 0, k, x1 => x1
  | n + 1, k, x1 => v_X1_allDiscounts_loop b n (k + 1) (x1 + (b (k + 7) 9))
def v_X1_allDiscounts (b : Nat → Nat → Int32) : Int32 := v_X1_allDiscounts_loop b 40 0 (0 : Int32)
theorem q_X1_allDiscounts : yX1_allDiscounts.cls ≠ "java/lang/invoke/MethodHandle" ∧ yX1_allDiscounts.cls ≠ "java/lang/invoke/VarHandle" ∧ (parseMethodDescriptor yX1_allDiscounts.desc).map (fun d => d.parameters.length) = some 0 := ⟨by decide, by decide, by decide +kernel⟩
set_option maxHeartbeats 4000000 in
set_option maxRecDepth 100000 in
theorem c_X1_allDiscounts (l : Launch) (G : kG) (a : Nat → Nat) (hI : gI 47 a) (b : Nat → Nat → Int32) : Met l yX1_allDiscounts (Cond.code yX1_allDiscounts cX1_allDiscounts 6 (some .int) :: BIG) (rmK 0) (pcG G (bP G a b) [.ref (a 0)]) (qcI G (gA 47 a) (bP G a b) (v_X1_allDiscounts b)) 0 0 (gA 47 a) := by
  refine m_start (by decide) (Nat.le_of_ble_eq_true rfl) ?_
  intro p e s m args below meth c S hr hlk hnm hP hK ls hl
  have hx := S.1
  have hb := S.2.1
  have hown := S.2.2.2.1
  have hS : va_S (gA 47 a) s.heap s.heap [] := va_S.rf
  have hl : lv_has ls 6 [(0, .ref (a 0))] := hl
  refine lv_iconst (v := 0) hx hb dX1_allDiscounts_0 (by decide) ?_
  refine lv_istore_n (lv' := [(1, .int (0 : Int32)), (0, .ref (a 0))]) hx hb dX1_allDiscounts_1 rfl hl (by decide) rfl (fun ls hl => ?_)
  refine lv_aload_n hx hb dX1_allDiscounts_2 rfl (lv_at hl 1 rfl) ?_
  refine g_get S hK hP (i := 0) (by omega) bC0 rfl inlX1 0 (by decide) k_28 (v := .ref (a 1)) rfl dX1_allDiscounts_3 ?_
  refine lv_astore_n (lv' := [(2, .ref (a 1)), (1, .int (0 : Int32)), (0, .ref (a 0))]) hx hb dX1_allDiscounts_6 rfl hl (by decide) rfl (fun ls hl => ?_)
  refine lv_aload_n hx hb dX1_allDiscounts_7 rfl (lv_at hl 0 rfl) ?_
  refine g_alen S hK hP (i := 1) (by omega) (bC1 _) 2 rfl (v := 40) rfl dX1_allDiscounts_8 ?_
  refine lv_istore_n (lv' := [(3, .int (40 : Int32)), (2, .ref (a 1)), (1, .int (0 : Int32)), (0, .ref (a 0))]) hx hb dX1_allDiscounts_9 rfl hl (by decide) rfl (fun ls hl => ?_)
  refine lv_iconst (v := 0) hx hb dX1_allDiscounts_10 (by decide) ?_
  refine lv_istore (lv' := [(4, .int (0 : Int32)), (3, .int (40 : Int32)), (2, .ref (a 1)), (1, .int (0 : Int32)), (0, .ref (a 0))]) hx hb dX1_allDiscounts_11 hl (by decide) rfl (fun ls hl => ?_)
  have LP_loop : ∀ (n : Nat) (k : Nat), k + n = 40 → ∀ (x1 : Int32) (H : Heap) (locs : List Loc), bP G a b H → va_S (gA 47 a) s.heap H locs → ∀ ls : Array Slot, lv_has ls 6 [(4, .int (nI k)), (3, .int (40 : Int32)), (2, .ref (a 1)), (1, .int x1), (0, .ref (a 0))] → W p l e (rmK 0) s m args below meth c H locs 0 0 (MQ below (qcI G (gA 47 a) (bP G a b) (v_X1_allDiscounts_loop b n k x1)) args s 0 0 (gA 47 a)) (F0 m 13 ls []) := by
    intro n
    induction n with
    | zero =>
      intro k hk_LP_loop x1 H locs hP hS ls hl
      refine lv_iload hx hb dX1_allDiscounts_13 (lv_at hl 0 rfl) ?_
      refine lv_iload_n hx hb dX1_allDiscounts_15 rfl (lv_at hl 1 rfl) ?_
      refine lv_icmp_ge (tgt := 39) hx hb dX1_allDiscounts_16 (by decide) (fun _ => ?_) (fun c => absurd ((nI_leI (a := 40) (b := k) (by omega) (by omega)).mpr (by omega)) c)
      refine lv_iload_n hx hb dX1_allDiscounts_39 rfl (lv_at hl 3 rfl) ?_
      exact e_int S hr hlk rfl hK hS hP (show v_X1_allDiscounts_loop b 0 k x1 = x1 from rfl).symm dX1_allDiscounts_40
    | succ n ih_LP_loop =>
      intro k hk_LP_loop x1 H locs hP hS ls hl
      refine lv_iload hx hb dX1_allDiscounts_13 (lv_at hl 0 rfl) ?_
      refine lv_iload_n hx hb dX1_allDiscounts_15 rfl (lv_at hl 1 rfl) ?_
      refine lv_icmp_ge (tgt := 39) hx hb dX1_allDiscounts_16 (by decide) (fun c => absurd c (fun z => absurd ((nI_leI (a := 40) (b := k) (by omega) (by omega)).mp z) (by omega))) (fun _ => ?_)
      refine lv_aload_n hx hb dX1_allDiscounts_19 rfl (lv_at hl 2 rfl) ?_
      refine lv_iload hx hb dX1_allDiscounts_20 (lv_at hl 0 rfl) ?_
      refine g_bald S hK hP (i := 1) (by omega) bC1 (k := k) (by omega) (by decide) (v := .ref (a (k + 7))) rfl dX1_allDiscounts_22 ?_
      refine lv_astore (lv' := [(5, .ref (a (k + 7))), (4, .int (nI k)), (3, .int (40 : Int32)), (2, .ref (a 1)), (1, .int x1), (0, .ref (a 0))]) hx hb dX1_allDiscounts_23 hl (by decide) rfl (fun ls hl => ?_)
      refine lv_iload_n hx hb dX1_allDiscounts_25 rfl (lv_at hl 4 rfl) ?_
      refine lv_aload hx hb dX1_allDiscounts_26 (lv_at hl 0 rfl) ?_
      refine g_get S hK hP (i := k + 7) (by omega) bC7 rfl inlX0 9 (by decide) k_119 (v := .int (b (k + 7) 9)) rfl dX1_allDiscounts_28 ?_
      refine lv_iadd hx hb dX1_allDiscounts_31 ?_
      refine lv_istore_n (lv' := [(1, .int (x1 + (b (k + 7) 9))), (5, .ref (a (k + 7))), (4, .int (nI k)), (3, .int (40 : Int32)), (2, .ref (a 1)), (0, .ref (a 0))]) hx hb dX1_allDiscounts_32 rfl hl (by decide) rfl (fun ls hl => ?_)
      refine lv_iinc (v := nI (k + 1)) (lv' := [(4, .int (nI (k + 1))), (1, .int (x1 + (b (k + 7) 9))), (5, .ref (a (k + 7))), (3, .int (40 : Int32)), (2, .ref (a 1)), (0, .ref (a 0))]) hx hb dX1_allDiscounts_33 hl (k := 2) rfl (nI_1 _) (by decide) rfl (fun ls hl => ?_)
      refine lv_goto (tgt := 13) hx hb dX1_allDiscounts_36 (by decide) ?_
      refine q_eqI (show v_X1_allDiscounts_loop b (n + 1) k x1 = v_X1_allDiscounts_loop b n (k + 1) (x1 + (b (k + 7) 9)) from rfl) rfl ?_
      exact ih_LP_loop (k + 1) (by omega) _ _ _ hP hS ls (lv_sub hl [0, 3, 4, 1, 5] rfl)
  refine q_eqI (show v_X1_allDiscounts b  = v_X1_allDiscounts_loop b 40 0 (0 : Int32) from rfl) rfl ?_
  exact LP_loop 40 0 (by omega) _ _ _ hP hS ls (lv_sub hl [0, 1, 2, 3, 4] rfl)

def v_X1_allFees_loop (b : Nat → Nat → Int32) : Nat → Nat → Int32 → Int32
  | 0, k, x1 => x1
  | n + 1, k, x1 => v_X1_allFees_loop b n (k + 1) (x1 + (b (k + 7) 10))
def v_X1_allFees (b : Nat → Nat → Int32) : Int32 := v_X1_allFees_loop b 40 0 (0 : Int32)
theorem q_X1_allFees : yX1_allFees.cls ≠ "java/lang/invoke/MethodHandle" ∧ yX1_allFees.cls ≠ "java/lang/invoke/VarHandle" ∧ (parseMethodDescriptor yX1_allFees.desc).map (fun d => d.parameters.length) = some 0 := ⟨by decide, by decide, by decide +kernel⟩
set_option maxHeartbeats 4000000 in
set_option maxRecDepth 100000 in
theorem c_X1_allFees (l : Launch) (G : kG) (a : Nat → Nat) (hI : gI 47 a) (b : Nat → Nat → Int32) : Met l yX1_allFees (Cond.code yX1_allFees cX1_allFees 6 (some .int) :: BIG) (rmK 0) (pcG G (bP G a b) [.ref (a 0)]) (qcI G (gA 47 a) (bP G a b) (v_X1_allFees b)) 0 0 (gA 47 a) := by
  refine m_start (by decide) (Nat.le_of_ble_eq_true rfl) ?_
  intro p e s m args below meth c S hr hlk hnm hP hK ls hl
  have hx := S.1
  have hb := S.2.1
  have hown := S.2.2.2.1
  have hS : va_S (gA 47 a) s.heap s.heap [] := va_S.rf
  have hl : lv_has ls 6 [(0, .ref (a 0))] := hl
  refine lv_iconst (v := 0) hx hb dX1_allFees_0 (by decide) ?_
  refine lv_istore_n (lv' := [(1, .int (0 : Int32)), (0, .ref (a 0))]) hx hb dX1_allFees_1 rfl hl (by decide) rfl (fun ls hl => ?_)
  refine lv_aload_n hx hb dX1_allFees_2 rfl (lv_at hl 1 rfl) ?_
  refine g_get S hK hP (i := 0) (by omega) bC0 rfl inlX1 0 (by decide) k_28 (v := .ref (a 1)) rfl dX1_allFees_3 ?_
  refine lv_astore_n (lv' := [(2, .ref (a 1)), (1, .int (0 : Int32)), (0, .ref (a 0))]) hx hb dX1_allFees_6 rfl hl (by decide) rfl (fun ls hl => ?_)
  refine lv_aload_n hx hb dX1_allFees_7 rfl (lv_at hl 0 rfl) ?_
  refine g_alen S hK hP (i := 1) (by omega) (bC1 _) 2 rfl (v := 40) rfl dX1_allFees_8 ?_
  refine lv_istore_n (lv' := [(3, .int (40 : Int32)), (2, .ref (a 1)), (1, .int (0 : Int32)), (0, .ref (a 0))]) hx hb dX1_allFees_9 rfl hl (by decide) rfl (fun ls hl => ?_)
  refine lv_iconst (v := 0) hx hb dX1_allFees_10 (by decide) ?_
  refine lv_istore (lv' := [(4, .int (0 : Int32)), (3, .int (40 : Int32)), (2, .ref (a 1)), (1, .int (0 : Int32)), (0, .ref (a 0))]) hx hb dX1_allFees_11 hl (by decide) rfl (fun ls hl => ?_)
  have LP_loop : ∀ (n : Nat) (k : Nat), k + n = 40 → ∀ (x1 : Int32) (H : Heap) (locs : List Loc), bP G a b H → va_S (gA 47 a) s.heap H locs → ∀ ls : Array Slot, lv_has ls 6 [(4, .int (nI k)), (3, .int (40 : Int32)), (2, .ref (a 1)), (1, .int x1), (0, .ref (a 0))] → W p l e (rmK 0) s m args below meth c H locs 0 0 (MQ below (qcI G (gA 47 a) (bP G a b) (v_X1_allFees_loop b n k x1)) args s 0 0 (gA 47 a)) (F0 m 13 ls []) := by
    intro n
    induction n with
    | zero =>
      intro k hk_LP_loop x1 H locs hP hS ls hl
      refine lv_iload hx hb dX1_allFees_13 (lv_at hl 0 rfl) ?_
      refine lv_iload_n hx hb dX1_allFees_15 rfl (lv_at hl 1 rfl) ?_
      refine lv_icmp_ge (tgt := 39) hx hb dX1_allFees_16 (by decide) (fun _ => ?_) (fun c => absurd ((nI_leI (a := 40) (b := k) (by omega) (by omega)).mpr (by omega)) c)
      refine lv_iload_n hx hb dX1_allFees_39 rfl (lv_at hl 3 rfl) ?_
      exact e_int S hr hlk rfl hK hS hP (show v_X1_allFees_loop b 0 k x1 = x1 from rfl).symm dX1_allFees_40
    | succ n ih_LP_loop =>
      intro k hk_LP_loop x1 H locs hP hS ls hl
      refine lv_iload hx hb dX1_allFees_13 (lv_at hl 0 rfl) ?_
      refine lv_iload_n hx hb dX1_allFees_15 rfl (lv_at hl 1 rfl) ?_
      refine lv_icmp_ge (tgt := 39) hx hb dX1_allFees_16 (by decide) (fun c => absurd c (fun z => absurd ((nI_leI (a := 40) (b := k) (by omega) (by omega)).mp z) (by omega))) (fun _ => ?_)
      refine lv_aload_n hx hb dX1_allFees_19 rfl (lv_at hl 2 rfl) ?_
      refine lv_iload hx hb dX1_allFees_20 (lv_at hl 0 rfl) ?_
      refine g_bald S hK hP (i := 1) (by omega) bC1 (k := k) (by omega) (by decide) (v := .ref (a (k + 7))) rfl dX1_allFees_22 ?_
      refine lv_astore (lv' := [(5, .ref (a (k + 7))), (4, .int (nI k)), (3, .int (40 : Int32)), (2, .ref (a 1)), (1, .int x1), (0, .ref (a 0))]) hx hb dX1_allFees_23 hl (by decide) rfl (fun ls hl => ?_)
      refine lv_iload_n hx hb dX1_allFees_25 rfl (lv_at hl 4 rfl) ?_
      refine lv_aload hx hb dX1_allFees_26 (lv_at hl 0 rfl) ?_
      refine g_get S hK hP (i := k + 7) (by omega) bC7 rfl inlX0 10 (by decide) k_124 (v := .int (b (k + 7) 10)) rfl dX1_allFees_28 ?_
      refine lv_iadd hx hb dX1_allFees_31 ?_
      refine lv_istore_n (lv' := [(1, .int (x1 + (b (k + 7) 10))), (5, .ref (a (k + 7))), (4, .int (nI k)), (3, .int (40 : Int32)), (2, .ref (a 1)), (0, .ref (a 0))]) hx hb dX1_allFees_32 rfl hl (by decide) rfl (fun ls hl => ?_)
      refine lv_iinc (v := nI (k + 1)) (lv' := [(4, .int (nI (k + 1))), (1, .int (x1 + (b (k + 7) 10))), (5, .ref (a (k + 7))), (3, .int (40 : Int32)), (2, .ref (a 1)), (0, .ref (a 0))]) hx hb dX1_allFees_33 hl (k := 2) rfl (nI_1 _) (by decide) rfl (fun ls hl => ?_)
      refine lv_goto (tgt := 13) hx hb dX1_allFees_36 (by decide) ?_
      refine q_eqI (show v_X1_allFees_loop b (n + 1) k x1 = v_X1_allFees_loop b n (k + 1) (x1 + (b (k + 7) 10)) from rfl) rfl ?_
      exact ih_LP_loop (k + 1) (by omega) _ _ _ hP hS ls (lv_sub hl [0, 3, 4, 1, 5] rfl)
  refine q_eqI (show v_X1_allFees b  = v_X1_allFees_loop b 40 0 (0 : Int32) from rfl) rfl ?_
  exact LP_loop 40 0 (by omega) _ _ _ hP hS ls (lv_sub hl [0, 1, 2, 3, 4] rfl)

def v_X1_allReminders_loop (b : Nat → Nat → Int32) : Nat → Nat → Int32 → Int32
  | 0, k, x1 => x1
  | n + 1, k, x1 => v_X1_allReminders_loop b n (k + 1) (x1 + (b (k + 7) 11))
def v_X1_allReminders (b : Nat → Nat → Int32) : Int32 := v_X1_allReminders_loop b 40 0 (0 : Int32)
theorem q_X1_allReminders : yX1_allReminders.cls ≠ "java/lang/invoke/MethodHandle" ∧ yX1_allReminders.cls ≠ "java/lang/invoke/VarHandle" ∧ (parseMethodDescriptor yX1_allReminders.desc).map (fun d => d.parameters.length) = some 0 := ⟨by decide, by decide, by decide +kernel⟩
set_option maxHeartbeats 4000000 in
set_option maxRecDepth 100000 in
theorem c_X1_allReminders (l : Launch) (G : kG) (a : Nat → Nat) (hI : gI 47 a) (b : Nat → Nat → Int32) : Met l yX1_allReminders (Cond.code yX1_allReminders cX1_allReminders 6 (some .int) :: BIG) (rmK 0) (pcG G (bP G a b) [.ref (a 0)]) (qcI G (gA 47 a) (bP G a b) (v_X1_allReminders b)) 0 0 (gA 47 a) := by
  refine m_start (by decide) (Nat.le_of_ble_eq_true rfl) ?_
  intro p e s m args below meth c S hr hlk hnm hP hK ls hl
  have hx := S.1
  have hb := S.2.1
  have hown := S.2.2.2.1
  have hS : va_S (gA 47 a) s.heap s.heap [] := va_S.rf
  have hl : lv_has ls 6 [(0, .ref (a 0))] := hl
  refine lv_iconst (v := 0) hx hb dX1_allReminders_0 (by decide) ?_
  refine lv_istore_n (lv' := [(1, .int (0 : Int32)), (0, .ref (a 0))]) hx hb dX1_allReminders_1 rfl hl (by decide) rfl (fun ls hl => ?_)
  refine lv_aload_n hx hb dX1_allReminders_2 rfl (lv_at hl 1 rfl) ?_
  refine g_get S hK hP (i := 0) (by omega) bC0 rfl inlX1 0 (by decide) k_28 (v := .ref (a 1)) rfl dX1_allReminders_3 ?_
  refine lv_astore_n (lv' := [(2, .ref (a 1)), (1, .int (0 : Int32)), (0, .ref (a 0))]) hx hb dX1_allReminders_6 rfl hl (by decide) rfl (fun ls hl => ?_)
  refine lv_aload_n hx hb dX1_allReminders_7 rfl (lv_at hl 0 rfl) ?_
  refine g_alen S hK hP (i := 1) (by omega) (bC1 _) 2 rfl (v := 40) rfl dX1_allReminders_8 ?_
  refine lv_istore_n (lv' := [(3, .int (40 : Int32)), (2, .ref (a 1)), (1, .int (0 : Int32)), (0, .ref (a 0))]) hx hb dX1_allReminders_9 rfl hl (by decide) rfl (fun ls hl => ?_)
  refine lv_iconst (v := 0) hx hb dX1_allReminders_10 (by decide) ?_
  refine lv_istore (lv' := [(4, .int (0 : Int32)), (3, .int (40 : Int32)), (2, .ref (a 1)), (1, .int (0 : Int32)), (0, .ref (a 0))]) hx hb dX1_allReminders_11 hl (by decide) rfl (fun ls hl => ?_)
  have LP_loop : ∀ (n : Nat) (k : Nat), k + n = 40 → ∀ (x1 : Int32) (H : Heap) (locs : List Loc), bP G a b H → va_S (gA 47 a) s.heap H locs → ∀ ls : Array Slot, lv_has ls 6 [(4, .int (nI k)), (3, .int (40 : Int32)), (2, .ref (a 1)), (1, .int x1), (0, .ref (a 0))] → W p l e (rmK 0) s m args below meth c H locs 0 0 (MQ below (qcI G (gA 47 a) (bP G a b) (v_X1_allReminders_loop b n k x1)) args s 0 0 (gA 47 a)) (F0 m 13 ls []) := by
    intro n
    induction n with
    | zero =>
      intro k hk_LP_loop x1 H locs hP hS ls hl
      refine lv_iload hx hb dX1_allReminders_13 (lv_at hl 0 rfl) ?_
      refine lv_iload_n hx hb dX1_allReminders_15 rfl (lv_at hl 1 rfl) ?_
      refine lv_icmp_ge (tgt := 39) hx hb dX1_allReminders_16 (by decide) (fun _ => ?_) (fun c => absurd ((nI_leI (a := 40) (b := k) (by omega) (by omega)).mpr (by omega)) c)
      refine lv_iload_n hx hb dX1_allReminders_39 rfl (lv_at hl 3 rfl) ?_
      exact e_int S hr hlk rfl hK hS hP (show v_X1_allReminders_loop b 0 k x1 = x1 from rfl).symm dX1_allReminders_40
    | succ n ih_LP_loop =>
      intro k hk_LP_loop x1 H locs hP hS ls hl
      refine lv_iload hx hb dX1_allReminders_13 (lv_at hl 0 rfl) ?_
      refine lv_iload_n hx hb dX1_allReminders_15 rfl (lv_at hl 1 rfl) ?_
      refine lv_icmp_ge (tgt := 39) hx hb dX1_allReminders_16 (by decide) (fun c => absurd c (fun z => absurd ((nI_leI (a := 40) (b := k) (by omega) (by omega)).mp z) (by omega))) (fun _ => ?_)
      refine lv_aload_n hx hb dX1_allReminders_19 rfl (lv_at hl 2 rfl) ?_
      refine lv_iload hx hb dX1_allReminders_20 (lv_at hl 0 rfl) ?_
      refine g_bald S hK hP (i := 1) (by omega) bC1 (k := k) (by omega) (by decide) (v := .ref (a (k + 7))) rfl dX1_allReminders_22 ?_
      refine lv_astore (lv' := [(5, .ref (a (k + 7))), (4, .int (nI k)), (3, .int (40 : Int32)), (2, .ref (a 1)), (1, .int x1), (0, .ref (a 0))]) hx hb dX1_allReminders_23 hl (by decide) rfl (fun ls hl => ?_)
      refine lv_iload_n hx hb dX1_allReminders_25 rfl (lv_at hl 4 rfl) ?_
      refine lv_aload hx hb dX1_allReminders_26 (lv_at hl 0 rfl) ?_
      refine g_get S hK hP (i := k + 7) (by omega) bC7 rfl inlX0 11 (by decide) k_129 (v := .int (b (k + 7) 11)) rfl dX1_allReminders_28 ?_
      refine lv_iadd hx hb dX1_allReminders_31 ?_
      refine lv_istore_n (lv' := [(1, .int (x1 + (b (k + 7) 11))), (5, .ref (a (k + 7))), (4, .int (nI k)), (3, .int (40 : Int32)), (2, .ref (a 1)), (0, .ref (a 0))]) hx hb dX1_allReminders_32 rfl hl (by decide) rfl (fun ls hl => ?_)
      refine lv_iinc (v := nI (k + 1)) (lv' := [(4, .int (nI (k + 1))), (1, .int (x1 + (b (k + 7) 11))), (5, .ref (a (k + 7))), (3, .int (40 : Int32)), (2, .ref (a 1)), (0, .ref (a 0))]) hx hb dX1_allReminders_33 hl (k := 2) rfl (nI_1 _) (by decide) rfl (fun ls hl => ?_)
      refine lv_goto (tgt := 13) hx hb dX1_allReminders_36 (by decide) ?_
      refine q_eqI (show v_X1_allReminders_loop b (n + 1) k x1 = v_X1_allReminders_loop b n (k + 1) (x1 + (b (k + 7) 11)) from rfl) rfl ?_
      exact ih_LP_loop (k + 1) (by omega) _ _ _ hP hS ls (lv_sub hl [0, 3, 4, 1, 5] rfl)
  refine q_eqI (show v_X1_allReminders b  = v_X1_allReminders_loop b 40 0 (0 : Int32) from rfl) rfl ?_
  exact LP_loop 40 0 (by omega) _ _ _ hP hS ls (lv_sub hl [0, 1, 2, 3, 4] rfl)

def v_X1_discountOn (b : Nat → Nat → Int32) (j1 : Nat) : Int32 := if 0 < b (j1 + 7) 11 then (0 : Int32) else if (b 0 5) - (b (j1 + 7) 6) ≤ v_X3_discountDays b then (if (v_X0_owed b j1) - (1 : Int32) < ((b (j1 + 7) 5) * (v_X3_discountPercent b)) / (100 : Int32) then (v_X0_owed b j1) - (1 : Int32) else ((b (j1 + 7) 5) * (v_X3_discountPercent b)) / (100 : Int32)) else (0 : Int32)
theorem q_X1_discountOn : yX1_discountOn.cls ≠ "java/lang/invoke/MethodHandle" ∧ yX1_discountOn.cls ≠ "java/lang/invoke/VarHandle" ∧ (parseMethodDescriptor yX1_discountOn.desc).map (fun d => d.parameters.length) = some 1 := ⟨by decide, by decide, by decide +kernel⟩
set_option maxHeartbeats 4000000 in
set_option maxRecDepth 100000 in
theorem c_X1_discountOn (l : Launch) (G : kG) (a : Nat → Nat) (hI : gI 47 a) (b : Nat → Nat → Int32) (j1 : Nat) (hj1 : j1 < 40) : Met l yX1_discountOn (Cond.code yX1_discountOn cX1_discountOn 2 (some .int) :: BIG) (rmK 1) (pcG G (bP G a b) [.ref (a 0), .ref (a (j1 + 7))]) (qcI G (gA 47 a) (bP G a b) (v_X1_discountOn b j1)) 0 0 (gA 47 a) := by
  refine m_start (by decide) (Nat.le_of_ble_eq_true rfl) ?_
  intro p e s m args below meth c S hr hlk hnm hP hK ls hl
  have hx := S.1
  have hb := S.2.1
  have hown := S.2.2.2.1
  have hS : va_S (gA 47 a) s.heap s.heap [] := va_S.rf
  have hl : lv_has ls 2 [(0, .ref (a 0)), (1, .ref (a (j1 + 7)))] := hl
  refine lv_aload_n hx hb dX1_discountOn_0 rfl (lv_at hl 1 rfl) ?_
  refine g_get S hK hP (i := j1 + 7) (by omega) bC7 rfl inlX0 11 (by decide) k_129 (v := .int (b (j1 + 7) 11)) rfl dX1_discountOn_1 ?_
  refine lv_if_gt (tgt := 26) hx hb dX1_discountOn_4 (by decide) (fun c1 => ?_) (fun c1 => ?_)
  · skip
    refine lv_iconst (v := 0) hx hb dX1_discountOn_26 (by decide) ?_
    exact e_int S hr hlk rfl hK hS hP (show v_X1_discountOn b j1 = (0 : Int32) from (if_pos c1).trans rfl).symm dX1_discountOn_27
  · skip
    refine lv_aload_n hx hb dX1_discountOn_7 rfl (lv_at hl 0 rfl) ?_
    refine g_get S hK hP (i := 0) (by omega) bC0 rfl inlX1 5 (by decide) k_87 (v := .int (b 0 5)) rfl dX1_discountOn_8 ?_
    refine lv_aload_n hx hb dX1_discountOn_11 rfl (lv_at hl 1 rfl) ?_
    refine g_get S hK hP (i := j1 + 7) (by omega) bC7 rfl inlX0 6 (by decide) k_239 (v := .int (b (j1 + 7) 6)) rfl dX1_discountOn_12 ?_
    refine lv_isub hx hb dX1_discountOn_15 ?_
    refine lv_aload_n hx hb dX1_discountOn_16 rfl (lv_at hl 0 rfl) ?_
    refine g_get S hK hP (i := 0) (by omega) bC0 rfl inlX1 4 (by decide) k_36 (v := .ref (a 5)) rfl dX1_discountOn_17 ?_
    refine r_callI S hK hP (c_X3_discountDays l G a hI b ) (r_cw S k_133 k_244 k_131 k_132 k_35 q_X3_discountDays ⟨Nat.le_of_ble_eq_true rfl, Nat.le_of_ble_eq_true rfl⟩ rfl rfl) (g_recv hK hP (i := 5) (by omega) bC5 rfl) rfl hl.1 rfl (Nat.le_of_ble_eq_true rfl) dX1_discountOn_20 ⟨Nat.zero_le _, Nat.zero_le _⟩ hS (fun _ h => h) (fun H locs hP _ _ hS => ?_)
    have hP : bP G a b H := hP
    refine lv_icmp_le (tgt := 28) hx hb dX1_discountOn_23 (by decide) (fun c2 => ?_) (fun c2 => ?_)
    · skip
      refine lv_aload_n hx hb dX1_discountOn_28 rfl (lv_at hl 1 rfl) ?_
      refine g_get S hK hP (i := j1 + 7) (by omega) bC7 rfl inlX0 5 (by decide) k_240 (v := .int (b (j1 + 7) 5)) rfl dX1_discountOn_29 ?_
      refine lv_aload_n hx hb dX1_discountOn_32 rfl (lv_at hl 0 rfl) ?_
      refine g_get S hK hP (i := 0) (by omega) bC0 rfl inlX1 4 (by decide) k_36 (v := .ref (a 5)) rfl dX1_discountOn_33 ?_
      refine r_callI S hK hP (c_X3_discountPercent l G a hI b ) (r_cw S k_137 k_245 k_135 k_136 k_35 q_X3_discountPercent ⟨Nat.le_of_ble_eq_true rfl, Nat.le_of_ble_eq_true rfl⟩ rfl rfl) (g_recv hK hP (i := 5) (by omega) bC5 rfl) rfl hl.1 rfl (Nat.le_of_ble_eq_true rfl) dX1_discountOn_36 ⟨Nat.zero_le _, Nat.zero_le _⟩ hS (fun _ h => h) (fun H locs hP _ _ hS => ?_)
      have hP : bP G a b H := hP
      refine lv_imul hx hb dX1_discountOn_39 ?_
      refine lv_bipush (v := 100) hx hb dX1_discountOn_40 (by decide) ?_
      refine lv_idiv hx hb dX1_discountOn_42 (by decide) ?_
      refine lv_aload_n hx hb dX1_discountOn_43 rfl (lv_at hl 1 rfl) ?_
      refine r_callI S hK hP (c_X0_owed l G a hI b j1 (by omega) ) (r_cw S k_101 k_98 k_99 k_100 k_38 q_X0_owed ⟨Nat.le_of_ble_eq_true rfl, Nat.le_of_ble_eq_true rfl⟩ rfl rfl) (g_recv hK hP (i := j1 + 7) (by omega) bC7 rfl) rfl hl.1 rfl (Nat.le_of_ble_eq_true rfl) dX1_discountOn_44 ⟨Nat.zero_le _, Nat.zero_le _⟩ hS (fun _ h => h) (fun H locs hP _ _ hS => ?_)
      have hP : bP G a b H := hP
      refine lv_iconst (v := 1) hx hb dX1_discountOn_47 (by decide) ?_
      refine lv_isub hx hb dX1_discountOn_48 ?_
      refine va_mmin hx hb (by rw [S.2.2.1]; exact hl.1.symm) hown (S.2.2.2.2 _ k_241) (S.2.2.2.2 _ k_242) (S.2.2.2.2 _ k_201) (S.2.2.2.2 _ k_243) (Nat.le_of_ble_eq_true rfl) (Nat.le_of_ble_eq_true rfl) (Nat.zero_le _) (Nat.zero_le _) dX1_discountOn_49 ?_
      exact e_int S hr hlk rfl hK hS hP (show v_X1_discountOn b j1 = if (v_X0_owed b j1) - (1 : Int32) < ((b (j1 + 7) 5) * (v_X3_discountPercent b)) / (100 : Int32) then (v_X0_owed b j1) - (1 : Int32) else ((b (j1 + 7) 5) * (v_X3_discountPercent b)) / (100 : Int32) from (if_neg c1).trans ((if_pos c2).trans rfl)).symm dX1_discountOn_52
    · skip
      refine lv_iconst (v := 0) hx hb dX1_discountOn_26 (by decide) ?_
      exact e_int S hr hlk rfl hK hS hP (show v_X1_discountOn b j1 = (0 : Int32) from (if_neg c1).trans ((if_neg c2).trans rfl)).symm dX1_discountOn_27

def v_X1_payOn (b : Nat → Nat → Int32) (j1 : Nat) (p2 : Int32) : Int32 := if 0 < p2 then (if p2 < (v_X0_owed b j1) - (v_X1_discountOn b j1) then (if v_X5_isYear (((w_X0_takeMoney b j1 p2 (0 : Int32) (b 0 5)) 0 5) / (100 : Int32)) = 0 then p2 else p2) else if v_X5_isYear (((w_X0_takeMoney b j1 ((v_X0_owed b j1) - (v_X1_discountOn b j1)) (v_X1_discountOn b j1) (b 0 5)) 0 5) / (100 : Int32)) = 0 then ((v_X0_owed b j1) - (v_X1_discountOn b j1)) else (v_X0_owed b j1) - (v_X1_discountOn b j1)) else (0 : Int32)
def w_X1_payOn (b : Nat → Nat → Int32) (j1 : Nat) (p2 : Int32) : Nat → Nat → Int32 := if 0 < p2 then (if p2 < (v_X0_owed b j1) - (v_X1_discountOn b j1) then (if v_X5_isYear (((w_X0_takeMoney b j1 p2 (0 : Int32) (b 0 5)) 0 5) / (100 : Int32)) = 0 then (w_X0_takeMoney b j1 p2 (0 : Int32) (b 0 5)) else up (w_X0_takeMoney b j1 p2 (0 : Int32) (b 0 5)) 3 ((((w_X0_takeMoney b j1 p2 (0 : Int32) (b 0 5)) 0 5) / (100 : Int32)).toNatClampNeg) (((w_X0_takeMoney b j1 p2 (0 : Int32) (b 0 5)) 3 ((((w_X0_takeMoney b j1 p2 (0 : Int32) (b 0 5)) 0 5) / (100 : Int32)).toNatClampNeg)) + (v_X0_taxIn (w_X0_takeMoney b j1 p2 (0 : Int32) (b 0 5)) j1 p2))) else if v_X5_isYear (((w_X0_takeMoney b j1 ((v_X0_owed b j1) - (v_X1_discountOn b j1)) (v_X1_discountOn b j1) (b 0 5)) 0 5) / (100 : Int32)) = 0 then (w_X0_takeMoney b j1 ((v_X0_owed b j1) - (v_X1_discountOn b j1)) (v_X1_discountOn b j1) (b 0 5)) else up (w_X0_takeMoney b j1 ((v_X0_owed b j1) - (v_X1_discountOn b j1)) (v_X1_discountOn b j1) (b 0 5)) 3 ((((w_X0_takeMoney b j1 ((v_X0_owed b j1) - (v_X1_discountOn b j1)) (v_X1_discountOn b j1) (b 0 5)) 0 5) / (100 : Int32)).toNatClampNeg) (((w_X0_takeMoney b j1 ((v_X0_owed b j1) - (v_X1_discountOn b j1)) (v_X1_discountOn b j1) (b 0 5)) 3 ((((w_X0_takeMoney b j1 ((v_X0_owed b j1) - (v_X1_discountOn b j1)) (v_X1_discountOn b j1) (b 0 5)) 0 5) / (100 : Int32)).toNatClampNeg)) + (v_X0_taxIn (w_X0_takeMoney b j1 ((v_X0_owed b j1) - (v_X1_discountOn b j1)) (v_X1_discountOn b j1) (b 0 5)) j1 ((v_X0_owed b j1) - (v_X1_discountOn b j1))))) else b
theorem q_X1_payOn : yX1_payOn.cls ≠ "java/lang/invoke/MethodHandle" ∧ yX1_payOn.cls ≠ "java/lang/invoke/VarHandle" ∧ (parseMethodDescriptor yX1_payOn.desc).map (fun d => d.parameters.length) = some 2 := ⟨by decide, by decide, by decide +kernel⟩
set_option maxHeartbeats 4000000 in
set_option maxRecDepth 100000 in
theorem c_X1_payOn (l : Launch) (G : kG) (a : Nat → Nat) (hI : gI 47 a) (b : Nat → Nat → Int32) (j1 : Nat) (hj1 : j1 < 40) (p2 : Int32) : Met l yX1_payOn (Cond.code yX1_payOn cX1_payOn 8 (some .int) :: BIG) (rmK 2) (pcG G (bP G a b) [.ref (a 0), .ref (a (j1 + 7)), .int p2]) (qcI G (gA 47 a) (bP G a (w_X1_payOn b j1 p2)) (v_X1_payOn b j1 p2)) 0 0 (gA 47 a) := by
  refine m_start (by decide) (Nat.le_of_ble_eq_true rfl) ?_
  intro p e s m args below meth c S hr hlk hnm hP hK ls hl
  have hx := S.1
  have hb := S.2.1
  have hown := S.2.2.2.1
  have hS : va_S (gA 47 a) s.heap s.heap [] := va_S.rf
  have hl : lv_has ls 8 [(0, .ref (a 0)), (1, .ref (a (j1 + 7))), (2, .int p2)] := hl
  refine lv_iload_n hx hb dX1_payOn_0 rfl (lv_at hl 2 rfl) ?_
  refine lv_if_gt (tgt := 6) hx hb dX1_payOn_1 (by decide) (fun c1 => ?_) (fun c1 => ?_)
  · skip
    refine lv_aload_n hx hb dX1_payOn_6 rfl (lv_at hl 0 rfl) ?_
    refine lv_aload_n hx hb dX1_payOn_7 rfl (lv_at hl 1 rfl) ?_
    refine r_callI S hK hP (c_X1_discountOn l G a hI b j1 (by omega) ) (r_cw S k_238 k_235 k_236 k_237 k_11 q_X1_discountOn ⟨Nat.le_of_ble_eq_true rfl, Nat.le_of_ble_eq_true rfl⟩ rfl rfl) (g_recv hK hP (i := 0) (by omega) bC0 rfl) rfl hl.1 rfl (Nat.le_of_ble_eq_true rfl) dX1_payOn_8 ⟨Nat.zero_le _, Nat.zero_le _⟩ hS (fun _ h => h) (fun H locs hP _ _ hS => ?_)
    have hP : bP G a b H := hP
    refine lv_istore_n (lv' := [(3, .int (v_X1_discountOn b j1)), (0, .ref (a 0)), (1, .ref (a (j1 + 7))), (2, .int p2)]) hx hb dX1_payOn_11 rfl hl (by decide) rfl (fun ls hl => ?_)
    refine lv_aload_n hx hb dX1_payOn_12 rfl (lv_at hl 2 rfl) ?_
    refine r_callI S hK hP (c_X0_owed l G a hI b j1 (by omega) ) (r_cw S k_101 k_98 k_99 k_100 k_38 q_X0_owed ⟨Nat.le_of_ble_eq_true rfl, Nat.le_of_ble_eq_true rfl⟩ rfl rfl) (g_recv hK hP (i := j1 + 7) (by omega) bC7 rfl) rfl hl.1 rfl (Nat.le_of_ble_eq_true rfl) dX1_payOn_13 ⟨Nat.zero_le _, Nat.zero_le _⟩ hS (fun _ h => h) (fun H locs hP _ _ hS => ?_)
    have hP : bP G a b H := hP
    refine lv_iload_n hx hb dX1_payOn_16 rfl (lv_at hl 0 rfl) ?_
    refine lv_isub hx hb dX1_payOn_17 ?_
    refine lv_istore (lv' := [(4, .int ((v_X0_owed b j1) - (v_X1_discountOn b j1))), (3, .int (v_X1_discountOn b j1)), (0, .ref (a 0)), (1, .ref (a (j1 + 7))), (2, .int p2)]) hx hb dX1_payOn_18 hl (by decide) rfl (fun ls hl => ?_)
    refine lv_iload_n hx hb dX1_payOn_20 rfl (lv_at hl 4 rfl) ?_
    refine lv_iload hx hb dX1_payOn_21 (lv_at hl 0 rfl) ?_
    refine lv_icmp_lt (tgt := 30) hx hb dX1_payOn_23 (by decide) (fun c2 => ?_) (fun c2 => ?_)
    · skip
      refine lv_iconst (v := 0) hx hb dX1_payOn_30 (by decide) ?_
      refine lv_istore (lv' := [(5, .int (0 : Int32)), (4, .int ((v_X0_owed b j1) - (v_X1_discountOn b j1))), (3, .int (v_X1_discountOn b j1)), (0, .ref (a 0)), (1, .ref (a (j1 + 7))), (2, .int p2)]) hx hb dX1_payOn_31 hl (by decide) rfl (fun ls hl => ?_)
      refine lv_iload hx hb dX1_payOn_33 (lv_at hl 0 rfl) ?_
      refine lv_if_eq (tgt := 43) hx hb dX1_payOn_35 (by decide) (fun _ => ?_) (fun c => absurd (by decide) c)
      refine lv_iload_n hx hb dX1_payOn_43 rfl (lv_at hl 5 rfl) ?_
      refine lv_istore (lv' := [(6, .int p2), (5, .int (0 : Int32)), (4, .int ((v_X0_owed b j1) - (v_X1_discountOn b j1))), (3, .int (v_X1_discountOn b j1)), (0, .ref (a 0)), (1, .ref (a (j1 + 7))), (2, .int p2)]) hx hb dX1_payOn_44 hl (by decide) rfl (fun ls hl => ?_)
      refine lv_aload_n hx hb dX1_payOn_46 rfl (lv_at hl 5 rfl) ?_
      refine lv_iload hx hb dX1_payOn_47 (lv_at hl 0 rfl) ?_
      refine lv_iload hx hb dX1_payOn_49 (lv_at hl 1 rfl) ?_
      refine lv_if_eq (tgt := 58) hx hb dX1_payOn_51 (by decide) (fun _ => ?_) (fun c => absurd (by decide) c)
      refine lv_iconst (v := 0) hx hb dX1_payOn_58 (by decide) ?_
      refine lv_aload_n hx hb dX1_payOn_59 rfl (lv_at hl 4 rfl) ?_
      refine g_get S hK hP (i := 0) (by omega) bC0 rfl inlX1 5 (by decide) k_87 (v := .int (b 0 5)) rfl dX1_payOn_60 ?_
      refine r_callV S hK hP (c_X0_takeMoney l G a hI b j1 (by omega) _ _ _ ) (r_cw S k_329 k_326 k_327 k_328 k_38 q_X0_takeMoney ⟨Nat.le_of_ble_eq_true rfl, Nat.le_of_ble_eq_true rfl⟩ rfl rfl) (g_recv hK hP (i := j1 + 7) (by omega) bC7 rfl) rfl hl.1 rfl (Nat.le_of_ble_eq_true rfl) dX1_payOn_63 ⟨Nat.zero_le _, Nat.zero_le _⟩ hS (fun _ h => h) (fun H locs hP _ _ hS => ?_)
      have hP : bP G a (w_X0_takeMoney b j1 p2 (0 : Int32) (b 0 5)) H := hP
      refine lv_aload_n hx hb dX1_payOn_66 rfl (lv_at hl 4 rfl) ?_
      refine g_get S hK hP (i := 0) (by omega) bC0 rfl inlX1 5 (by decide) k_87 (v := .int ((w_X0_takeMoney b j1 p2 (0 : Int32) (b 0 5)) 0 5)) rfl dX1_payOn_67 ?_
      refine lv_bipush (v := 100) hx hb dX1_payOn_70 (by decide) ?_
      refine lv_idiv hx hb dX1_payOn_72 (by decide) ?_
      refine lv_istore (lv' := [(7, .int (((w_X0_takeMoney b j1 p2 (0 : Int32) (b 0 5)) 0 5) / (100 : Int32))), (6, .int p2), (5, .int (0 : Int32)), (4, .int ((v_X0_owed b j1) - (v_X1_discountOn b j1))), (3, .int (v_X1_discountOn b j1)), (0, .ref (a 0)), (1, .ref (a (j1 + 7))), (2, .int p2)]) hx hb dX1_payOn_73 hl (by decide) rfl (fun ls hl => ?_)
      refine lv_iload hx hb dX1_payOn_75 (lv_at hl 0 rfl) ?_
      refine r_callSN S hK hP (c_X5_isYear l G (bP G a (w_X0_takeMoney b j1 p2 (0 : Int32) (b 0 5))) (gA 47 a) _ ) k_252 hK.2.2.2.2.2.1 k_251 k_2 q_X5_isYear ⟨Nat.le_of_ble_eq_true rfl, Nat.le_of_ble_eq_true rfl⟩ rfl rfl rfl hl.1 rfl (Nat.le_of_ble_eq_true rfl) dX1_payOn_77 ⟨Nat.zero_le _, Nat.zero_le _⟩ hS (fun _ h => h) (fun H locs hP _ _ hS => ?_)
      have hP : bP G a (w_X0_takeMoney b j1 p2 (0 : Int32) (b 0 5)) H := hP
      refine lv_if_eq (tgt := 99) hx hb dX1_payOn_80 (by decide) (fun c3 => ?_) (fun c3 => ?_)
      · skip
        refine lv_iload hx hb dX1_payOn_99 (lv_at hl 1 rfl) ?_
        exact e_int S hr hlk rfl hK hS (gP_eq (show w_X1_payOn b j1 p2 = w_X0_takeMoney b j1 p2 (0 : Int32) (b 0 5) from (if_pos c1).trans ((if_pos c2).trans ((if_pos c3).trans rfl))) hP) (show v_X1_payOn b j1 p2 = p2 from (if_pos c1).trans ((if_pos c2).trans ((if_pos c3).trans rfl))).symm dX1_payOn_101
      · skip
        refine lv_aload_n hx hb dX1_payOn_83 rfl (lv_at hl 5 rfl) ?_
        refine g_get S hK hP (i := 0) (by omega) bC0 rfl inlX1 2 (by decide) k_31 (v := .ref (a 3)) rfl dX1_payOn_84 ?_
        refine lv_iload hx hb dX1_payOn_87 (lv_at hl 0 rfl) ?_
        refine lv_dup2_11 hx hb dX1_payOn_89 rfl rfl ?_
        refine g_ald S hK hP (i := 3) (by omega) bC3 (vp_X5_isYear c3 (by decide)) (v := (w_X0_takeMoney b j1 p2 (0 : Int32) (b 0 5)) 3 ((((w_X0_takeMoney b j1 p2 (0 : Int32) (b 0 5)) 0 5) / (100 : Int32)).toNatClampNeg)) (rfl) dX1_payOn_90 ?_
        refine lv_aload_n hx hb dX1_payOn_91 rfl (lv_at hl 6 rfl) ?_
        refine lv_iload hx hb dX1_payOn_92 (lv_at hl 1 rfl) ?_
        refine r_callI S hK hP (c_X0_taxIn l G a hI (w_X0_takeMoney b j1 p2 (0 : Int32) (b 0 5)) j1 (by omega) _ ) (r_cw S k_334 k_331 k_332 k_333 k_38 q_X0_taxIn ⟨Nat.le_of_ble_eq_true rfl, Nat.le_of_ble_eq_true rfl⟩ rfl rfl) (g_recv hK hP (i := j1 + 7) (by omega) bC7 rfl) rfl hl.1 rfl (Nat.le_of_ble_eq_true rfl) dX1_payOn_94 ⟨Nat.zero_le _, Nat.zero_le _⟩ hS (fun _ h => h) (fun H locs hP _ _ hS => ?_)
        have hP : bP G a (w_X0_takeMoney b j1 p2 (0 : Int32) (b 0 5)) H := hP
        refine lv_iadd hx hb dX1_payOn_97 ?_
        refine g_ast S hK hP hI hS (i := 3) (by omega) bC3 (vp_X5_isYear c3 (by decide)) dX1_payOn_98 (fun H locs hP hS => ?_)
        have hP : bP G a (up (w_X0_takeMoney b j1 p2 (0 : Int32) (b 0 5)) 3 ((((w_X0_takeMoney b j1 p2 (0 : Int32) (b 0 5)) 0 5) / (100 : Int32)).toNatClampNeg) (((w_X0_takeMoney b j1 p2 (0 : Int32) (b 0 5)) 3 ((((w_X0_takeMoney b j1 p2 (0 : Int32) (b 0 5)) 0 5) / (100 : Int32)).toNatClampNeg)) + (v_X0_taxIn (w_X0_takeMoney b j1 p2 (0 : Int32) (b 0 5)) j1 p2))) H := hP
        refine lv_iload hx hb dX1_payOn_99 (lv_at hl 1 rfl) ?_
        exact e_int S hr hlk rfl hK hS (gP_eq (show w_X1_payOn b j1 p2 = up (w_X0_takeMoney b j1 p2 (0 : Int32) (b 0 5)) 3 ((((w_X0_takeMoney b j1 p2 (0 : Int32) (b 0 5)) 0 5) / (100 : Int32)).toNatClampNeg) (((w_X0_takeMoney b j1 p2 (0 : Int32) (b 0 5)) 3 ((((w_X0_takeMoney b j1 p2 (0 : Int32) (b 0 5)) 0 5) / (100 : Int32)).toNatClampNeg)) + (v_X0_taxIn (w_X0_takeMoney b j1 p2 (0 : Int32) (b 0 5)) j1 p2)) from (if_pos c1).trans ((if_pos c2).trans ((if_neg c3).trans rfl))) hP) (show v_X1_payOn b j1 p2 = p2 from (if_pos c1).trans ((if_pos c2).trans ((if_neg c3).trans rfl))).symm dX1_payOn_101
    · skip
      refine lv_iconst (v := 1) hx hb dX1_payOn_26 (by decide) ?_
      refine lv_goto (tgt := 31) hx hb dX1_payOn_27 (by decide) ?_
      refine lv_istore (lv' := [(5, .int (1 : Int32)), (4, .int ((v_X0_owed b j1) - (v_X1_discountOn b j1))), (3, .int (v_X1_discountOn b j1)), (0, .ref (a 0)), (1, .ref (a (j1 + 7))), (2, .int p2)]) hx hb dX1_payOn_31 hl (by decide) rfl (fun ls hl => ?_)
      refine lv_iload hx hb dX1_payOn_33 (lv_at hl 0 rfl) ?_
      refine lv_if_eq (tgt := 43) hx hb dX1_payOn_35 (by decide) (fun c => absurd c (by decide)) (fun _ => ?_)
      refine lv_iload hx hb dX1_payOn_38 (lv_at hl 1 rfl) ?_
      refine lv_goto (tgt := 44) hx hb dX1_payOn_40 (by decide) ?_
      refine lv_istore (lv' := [(6, .int ((v_X0_owed b j1) - (v_X1_discountOn b j1))), (5, .int (1 : Int32)), (4, .int ((v_X0_owed b j1) - (v_X1_discountOn b j1))), (3, .int (v_X1_discountOn b j1)), (0, .ref (a 0)), (1, .ref (a (j1 + 7))), (2, .int p2)]) hx hb dX1_payOn_44 hl (by decide) rfl (fun ls hl => ?_)
      refine lv_aload_n hx hb dX1_payOn_46 rfl (lv_at hl 5 rfl) ?_
      refine lv_iload hx hb dX1_payOn_47 (lv_at hl 0 rfl) ?_
      refine lv_iload hx hb dX1_payOn_49 (lv_at hl 1 rfl) ?_
      refine lv_if_eq (tgt := 58) hx hb dX1_payOn_51 (by decide) (fun c => absurd c (by decide)) (fun _ => ?_)
      refine lv_iload_n hx hb dX1_payOn_54 rfl (lv_at hl 3 rfl) ?_
      refine lv_goto (tgt := 59) hx hb dX1_payOn_55 (by decide) ?_
      refine lv_aload_n hx hb dX1_payOn_59 rfl (lv_at hl 4 rfl) ?_
      refine g_get S hK hP (i := 0) (by omega) bC0 rfl inlX1 5 (by decide) k_87 (v := .int (b 0 5)) rfl dX1_payOn_60 ?_
      refine r_callV S hK hP (c_X0_takeMoney l G a hI b j1 (by omega) _ _ _ ) (r_cw S k_329 k_326 k_327 k_328 k_38 q_X0_takeMoney ⟨Nat.le_of_ble_eq_true rfl, Nat.le_of_ble_eq_true rfl⟩ rfl rfl) (g_recv hK hP (i := j1 + 7) (by omega) bC7 rfl) rfl hl.1 rfl (Nat.le_of_ble_eq_true rfl) dX1_payOn_63 ⟨Nat.zero_le _, Nat.zero_le _⟩ hS (fun _ h => h) (fun H locs hP _ _ hS => ?_)
      have hP : bP G a (w_X0_takeMoney b j1 ((v_X0_owed b j1) - (v_X1_discountOn b j1)) (v_X1_discountOn b j1) (b 0 5)) H := hP
      refine lv_aload_n hx hb dX1_payOn_66 rfl (lv_at hl 4 rfl) ?_
      refine g_get S hK hP (i := 0) (by omega) bC0 rfl inlX1 5 (by decide) k_87 (v := .int ((w_X0_takeMoney b j1 ((v_X0_owed b j1) - (v_X1_discountOn b j1)) (v_X1_discountOn b j1) (b 0 5)) 0 5)) rfl dX1_payOn_67 ?_
      refine lv_bipush (v := 100) hx hb dX1_payOn_70 (by decide) ?_
      refine lv_idiv hx hb dX1_payOn_72 (by decide) ?_
      refine lv_istore (lv' := [(7, .int (((w_X0_takeMoney b j1 ((v_X0_owed b j1) - (v_X1_discountOn b j1)) (v_X1_discountOn b j1) (b 0 5)) 0 5) / (100 : Int32))), (6, .int ((v_X0_owed b j1) - (v_X1_discountOn b j1))), (5, .int (1 : Int32)), (4, .int ((v_X0_owed b j1) - (v_X1_discountOn b j1))), (3, .int (v_X1_discountOn b j1)), (0, .ref (a 0)), (1, .ref (a (j1 + 7))), (2, .int p2)]) hx hb dX1_payOn_73 hl (by decide) rfl (fun ls hl => ?_)
      refine lv_iload hx hb dX1_payOn_75 (lv_at hl 0 rfl) ?_
      refine r_callSN S hK hP (c_X5_isYear l G (bP G a (w_X0_takeMoney b j1 ((v_X0_owed b j1) - (v_X1_discountOn b j1)) (v_X1_discountOn b j1) (b 0 5))) (gA 47 a) _ ) k_252 hK.2.2.2.2.2.1 k_251 k_2 q_X5_isYear ⟨Nat.le_of_ble_eq_true rfl, Nat.le_of_ble_eq_true rfl⟩ rfl rfl rfl hl.1 rfl (Nat.le_of_ble_eq_true rfl) dX1_payOn_77 ⟨Nat.zero_le _, Nat.zero_le _⟩ hS (fun _ h => h) (fun H locs hP _ _ hS => ?_)
      have hP : bP G a (w_X0_takeMoney b j1 ((v_X0_owed b j1) - (v_X1_discountOn b j1)) (v_X1_discountOn b j1) (b 0 5)) H := hP
      refine lv_if_eq (tgt := 99) hx hb dX1_payOn_80 (by decide) (fun c4 => ?_) (fun c4 => ?_)
      · skip
        refine lv_iload hx hb dX1_payOn_99 (lv_at hl 1 rfl) ?_
        exact e_int S hr hlk rfl hK hS (gP_eq (show w_X1_payOn b j1 p2 = w_X0_takeMoney b j1 ((v_X0_owed b j1) - (v_X1_discountOn b j1)) (v_X1_discountOn b j1) (b 0 5) from (if_pos c1).trans ((if_neg c2).trans ((if_pos c4).trans rfl))) hP) (show v_X1_payOn b j1 p2 = (v_X0_owed b j1) - (v_X1_discountOn b j1) from (if_pos c1).trans ((if_neg c2).trans ((if_pos c4).trans rfl))).symm dX1_payOn_101
      · skip
        refine lv_aload_n hx hb dX1_payOn_83 rfl (lv_at hl 5 rfl) ?_
        refine g_get S hK hP (i := 0) (by omega) bC0 rfl inlX1 2 (by decide) k_31 (v := .ref (a 3)) rfl dX1_payOn_84 ?_
        refine lv_iload hx hb dX1_payOn_87 (lv_at hl 0 rfl) ?_
        refine lv_dup2_11 hx hb dX1_payOn_89 rfl rfl ?_
        refine g_ald S hK hP (i := 3) (by omega) bC3 (vp_X5_isYear c4 (by decide)) (v := (w_X0_takeMoney b j1 ((v_X0_owed b j1) - (v_X1_discountOn b j1)) (v_X1_discountOn b j1) (b 0 5)) 3 ((((w_X0_takeMoney b j1 ((v_X0_owed b j1) - (v_X1_discountOn b j1)) (v_X1_discountOn b j1) (b 0 5)) 0 5) / (100 : Int32)).toNatClampNeg)) (rfl) dX1_payOn_90 ?_
        refine lv_aload_n hx hb dX1_payOn_91 rfl (lv_at hl 6 rfl) ?_
        refine lv_iload hx hb dX1_payOn_92 (lv_at hl 1 rfl) ?_
        refine r_callI S hK hP (c_X0_taxIn l G a hI (w_X0_takeMoney b j1 ((v_X0_owed b j1) - (v_X1_discountOn b j1)) (v_X1_discountOn b j1) (b 0 5)) j1 (by omega) _ ) (r_cw S k_334 k_331 k_332 k_333 k_38 q_X0_taxIn ⟨Nat.le_of_ble_eq_true rfl, Nat.le_of_ble_eq_true rfl⟩ rfl rfl) (g_recv hK hP (i := j1 + 7) (by omega) bC7 rfl) rfl hl.1 rfl (Nat.le_of_ble_eq_true rfl) dX1_payOn_94 ⟨Nat.zero_le _, Nat.zero_le _⟩ hS (fun _ h => h) (fun H locs hP _ _ hS => ?_)
        have hP : bP G a (w_X0_takeMoney b j1 ((v_X0_owed b j1) - (v_X1_discountOn b j1)) (v_X1_discountOn b j1) (b 0 5)) H := hP
        refine lv_iadd hx hb dX1_payOn_97 ?_
        refine g_ast S hK hP hI hS (i := 3) (by omega) bC3 (vp_X5_isYear c4 (by decide)) dX1_payOn_98 (fun H locs hP hS => ?_)
        have hP : bP G a (up (w_X0_takeMoney b j1 ((v_X0_owed b j1) - (v_X1_discountOn b j1)) (v_X1_discountOn b j1) (b 0 5)) 3 ((((w_X0_takeMoney b j1 ((v_X0_owed b j1) - (v_X1_discountOn b j1)) (v_X1_discountOn b j1) (b 0 5)) 0 5) / (100 : Int32)).toNatClampNeg) (((w_X0_takeMoney b j1 ((v_X0_owed b j1) - (v_X1_discountOn b j1)) (v_X1_discountOn b j1) (b 0 5)) 3 ((((w_X0_takeMoney b j1 ((v_X0_owed b j1) - (v_X1_discountOn b j1)) (v_X1_discountOn b j1) (b 0 5)) 0 5) / (100 : Int32)).toNatClampNeg)) + (v_X0_taxIn (w_X0_takeMoney b j1 ((v_X0_owed b j1) - (v_X1_discountOn b j1)) (v_X1_discountOn b j1) (b 0 5)) j1 ((v_X0_owed b j1) - (v_X1_discountOn b j1))))) H := hP
        refine lv_iload hx hb dX1_payOn_99 (lv_at hl 1 rfl) ?_
        exact e_int S hr hlk rfl hK hS (gP_eq (show w_X1_payOn b j1 p2 = up (w_X0_takeMoney b j1 ((v_X0_owed b j1) - (v_X1_discountOn b j1)) (v_X1_discountOn b j1) (b 0 5)) 3 ((((w_X0_takeMoney b j1 ((v_X0_owed b j1) - (v_X1_discountOn b j1)) (v_X1_discountOn b j1) (b 0 5)) 0 5) / (100 : Int32)).toNatClampNeg) (((w_X0_takeMoney b j1 ((v_X0_owed b j1) - (v_X1_discountOn b j1)) (v_X1_discountOn b j1) (b 0 5)) 3 ((((w_X0_takeMoney b j1 ((v_X0_owed b j1) - (v_X1_discountOn b j1)) (v_X1_discountOn b j1) (b 0 5)) 0 5) / (100 : Int32)).toNatClampNeg)) + (v_X0_taxIn (w_X0_takeMoney b j1 ((v_X0_owed b j1) - (v_X1_discountOn b j1)) (v_X1_discountOn b j1) (b 0 5)) j1 ((v_X0_owed b j1) - (v_X1_discountOn b j1)))) from (if_pos c1).trans ((if_neg c2).trans ((if_neg c4).trans rfl))) hP) (show v_X1_payOn b j1 p2 = (v_X0_owed b j1) - (v_X1_discountOn b j1) from (if_pos c1).trans ((if_neg c2).trans ((if_neg c4).trans rfl))).symm dX1_payOn_101
  · skip
    refine lv_iconst (v := 0) hx hb dX1_payOn_4 (by decide) ?_
    exact e_int S hr hlk rfl hK hS (gP_eq (show w_X1_payOn b j1 p2 = b from (if_neg c1).trans rfl) hP) (show v_X1_payOn b j1 p2 = (0 : Int32) from (if_neg c1).trans rfl).symm dX1_payOn_5

def v_X1_addCredit (b : Nat → Nat → Int32) (p1 : Int32) (p2 : Int32) : Int32 := if (999999 : Int32) < (v_X1_creditOf b p1) + p2 then (0 : Int32) else (1 : Int32)
def w_X1_addCredit (b : Nat → Nat → Int32) (p1 : Int32) (p2 : Int32) : Nat → Nat → Int32 := if (999999 : Int32) < (v_X1_creditOf b p1) + p2 then (w_X1_setCredit b p1 ((v_X1_creditOf b p1) + p2)) else w_X1_setCredit b p1 ((v_X1_creditOf b p1) + p2)
theorem q_X1_addCredit : yX1_addCredit.cls ≠ "java/lang/invoke/MethodHandle" ∧ yX1_addCredit.cls ≠ "java/lang/invoke/VarHandle" ∧ (parseMethodDescriptor yX1_addCredit.desc).map (fun d => d.parameters.length) = some 2 := ⟨by decide, by decide, by decide +kernel⟩
theorem z_X1_addCredit (b : Nat → Nat → Int32) (p1 : Int32) (p2 : Int32) : narrow .boolean (.int (v_X1_addCredit b p1 p2)) = .int (v_X1_addCredit b p1 p2) := by
  unfold v_X1_addCredit
  exact z_ite z_0 z_1
set_option maxHeartbeats 4000000 in
set_option maxRecDepth 100000 in
theorem c_X1_addCredit (l : Launch) (G : kG) (a : Nat → Nat) (hI : gI 47 a) (b : Nat → Nat → Int32) (p1 : Int32) (p2 : Int32) : Met l yX1_addCredit (Cond.code yX1_addCredit cX1_addCredit 4 (some .boolean) :: BIG) (rmK 2) (pcG G (bP G a b) [.ref (a 0), .int p1, .int p2]) (qcI G (gA 47 a) (bP G a (w_X1_addCredit b p1 p2)) (v_X1_addCredit b p1 p2)) 0 0 (gA 47 a) := by
  refine m_start (by decide) (Nat.le_of_ble_eq_true rfl) ?_
  intro p e s m args below meth c S hr hlk hnm hP hK ls hl
  have hx := S.1
  have hb := S.2.1
  have hown := S.2.2.2.1
  have hS : va_S (gA 47 a) s.heap s.heap [] := va_S.rf
  have hl : lv_has ls 4 [(0, .ref (a 0)), (1, .int p1), (2, .int p2)] := hl
  refine lv_aload_n hx hb dX1_addCredit_0 rfl (lv_at hl 0 rfl) ?_
  refine lv_iload_n hx hb dX1_addCredit_1 rfl (lv_at hl 1 rfl) ?_
  refine r_callI S hK hP (c_X1_creditOf l G a hI b _ ) (r_cw S k_222 k_321 k_220 k_221 k_11 q_X1_creditOf ⟨Nat.le_of_ble_eq_true rfl, Nat.le_of_ble_eq_true rfl⟩ rfl rfl) (g_recv hK hP (i := 0) (by omega) bC0 rfl) rfl hl.1 rfl (Nat.le_of_ble_eq_true rfl) dX1_addCredit_2 ⟨Nat.zero_le _, Nat.zero_le _⟩ hS (fun _ h => h) (fun H locs hP _ _ hS => ?_)
  have hP : bP G a b H := hP
  refine lv_iload_n hx hb dX1_addCredit_5 rfl (lv_at hl 2 rfl) ?_
  refine lv_iadd hx hb dX1_addCredit_6 ?_
  refine lv_istore_n (lv' := [(3, .int ((v_X1_creditOf b p1) + p2)), (0, .ref (a 0)), (1, .int p1), (2, .int p2)]) hx hb dX1_addCredit_7 rfl hl (by decide) rfl (fun ls hl => ?_)
  refine lv_aload_n hx hb dX1_addCredit_8 rfl (lv_at hl 1 rfl) ?_
  refine lv_iload_n hx hb dX1_addCredit_9 rfl (lv_at hl 2 rfl) ?_
  refine lv_iload_n hx hb dX1_addCredit_10 rfl (lv_at hl 0 rfl) ?_
  refine r_callV S hK hP (c_X1_setCredit l G a hI b _ _ ) (r_cw S k_338 k_335 k_336 k_337 k_11 q_X1_setCredit ⟨Nat.le_of_ble_eq_true rfl, Nat.le_of_ble_eq_true rfl⟩ rfl rfl) (g_recv hK hP (i := 0) (by omega) bC0 rfl) rfl hl.1 rfl (Nat.le_of_ble_eq_true rfl) dX1_addCredit_11 ⟨Nat.zero_le _, Nat.zero_le _⟩ hS (fun _ h => h) (fun H locs hP _ _ hS => ?_)
  have hP : bP G a (w_X1_setCredit b p1 ((v_X1_creditOf b p1) + p2)) H := hP
  refine lv_iload_n hx hb dX1_addCredit_14 rfl (lv_at hl 0 rfl) ?_
  refine lv_ldc hx hb hown (S.2.2.2.2 _ k_362) dX1_addCredit_15 ?_
  refine lv_icmp_gt (tgt := 24) hx hb dX1_addCredit_17 (by decide) (fun c1 => ?_) (fun c1 => ?_)
  · skip
    refine lv_iconst (v := 0) hx hb dX1_addCredit_24 (by decide) ?_
    exact e_int S hr hlk rfl hK hS (gP_eq (show w_X1_addCredit b p1 p2 = w_X1_setCredit b p1 ((v_X1_creditOf b p1) + p2) from (if_pos c1).trans rfl) hP) (show v_X1_addCredit b p1 p2 = (0 : Int32) from (if_pos c1).trans rfl).symm dX1_addCredit_25
  · skip
    refine lv_iconst (v := 1) hx hb dX1_addCredit_20 (by decide) ?_
    refine lv_goto (tgt := 25) hx hb dX1_addCredit_21 (by decide) ?_
    exact e_int S hr hlk rfl hK hS (gP_eq (show w_X1_addCredit b p1 p2 = w_X1_setCredit b p1 ((v_X1_creditOf b p1) + p2) from (if_neg c1).trans rfl) hP) (show v_X1_addCredit b p1 p2 = (1 : Int32) from (if_neg c1).trans rfl).symm dX1_addCredit_25

def v_X1_leastToPayAll_loop (b : Nat → Nat → Int32) (p1 : Int32) : Nat → Nat → Int32 → Int32
  | 0, k, x2 => x2
  | n + 1, k, x2 => if v_X0_is b k p1 (0 : Int32) = 0 then (v_X1_leastToPayAll_loop b p1 n (k + 1) (x2 + (0 : Int32))) else v_X1_leastToPayAll_loop b p1 n (k + 1) (x2 + ((v_X0_owed b k) - (v_X1_discountOn b k)))
def v_X1_leastToPayAll (b : Nat → Nat → Int32) (p1 : Int32) : Int32 := v_X1_leastToPayAll_loop b p1 40 0 (0 : Int32)
theorem q_X1_leastToPayAll : yX1_leastToPayAll.cls ≠ "java/lang/invoke/MethodHandle" ∧ yX1_leastToPayAll.cls ≠ "java/lang/invoke/VarHandle" ∧ (parseMethodDescriptor yX1_leastToPayAll.desc).map (fun d => d.parameters.length) = some 1 := ⟨by decide, by decide, by decide +kernel⟩
set_option maxHeartbeats 4000000 in
set_option maxRecDepth 100000 in
theorem c_X1_leastToPayAll (l : Launch) (G : kG) (a : Nat → Nat) (hI : gI 47 a) (b : Nat → Nat → Int32) (p1 : Int32) : Met l yX1_leastToPayAll (Cond.code yX1_leastToPayAll cX1_leastToPayAll 7 (some .int) :: BIG) (rmK 2) (pcG G (bP G a b) [.ref (a 0), .int p1]) (qcI G (gA 47 a) (bP G a b) (v_X1_leastToPayAll b p1)) 0 0 (gA 47 a) := by
  refine m_start (by decide) (Nat.le_of_ble_eq_true rfl) ?_
  intro p e s m args below meth c S hr hlk hnm hP hK ls hl
  have hx := S.1
  have hb := S.2.1
  have hown := S.2.2.2.1
  have hS : va_S (gA 47 a) s.heap s.heap [] := va_S.rf
  have hl : lv_has ls 7 [(0, .ref (a 0)), (1, .int p1)] := hl
  refine lv_iconst (v := 0) hx hb dX1_leastToPayAll_0 (by decide) ?_
  refine lv_istore_n (lv' := [(2, .int (0 : Int32)), (0, .ref (a 0)), (1, .int p1)]) hx hb dX1_leastToPayAll_1 rfl hl (by decide) rfl (fun ls hl => ?_)
  refine lv_aload_n hx hb dX1_leastToPayAll_2 rfl (lv_at hl 1 rfl) ?_
  refine g_get S hK hP (i := 0) (by omega) bC0 rfl inlX1 0 (by decide) k_28 (v := .ref (a 1)) rfl dX1_leastToPayAll_3 ?_
  refine lv_astore_n (lv' := [(3, .ref (a 1)), (2, .int (0 : Int32)), (0, .ref (a 0)), (1, .int p1)]) hx hb dX1_leastToPayAll_6 rfl hl (by decide) rfl (fun ls hl => ?_)
  refine lv_aload_n hx hb dX1_leastToPayAll_7 rfl (lv_at hl 0 rfl) ?_
  refine g_alen S hK hP (i := 1) (by omega) (bC1 _) 2 rfl (v := 40) rfl dX1_leastToPayAll_8 ?_
  refine lv_istore (lv' := [(4, .int (40 : Int32)), (3, .ref (a 1)), (2, .int (0 : Int32)), (0, .ref (a 0)), (1, .int p1)]) hx hb dX1_leastToPayAll_9 hl (by decide) rfl (fun ls hl => ?_)
  refine lv_iconst (v := 0) hx hb dX1_leastToPayAll_11 (by decide) ?_
  refine lv_istore (lv' := [(5, .int (0 : Int32)), (4, .int (40 : Int32)), (3, .ref (a 1)), (2, .int (0 : Int32)), (0, .ref (a 0)), (1, .int p1)]) hx hb dX1_leastToPayAll_12 hl (by decide) rfl (fun ls hl => ?_)
  have LP_loop : ∀ (n : Nat) (k : Nat), k + n = 40 → ∀ (x2 : Int32) (H : Heap) (locs : List Loc), bP G a b H → va_S (gA 47 a) s.heap H locs → ∀ ls : Array Slot, lv_has ls 7 [(5, .int (nI k)), (4, .int (40 : Int32)), (3, .ref (a 1)), (2, .int x2), (0, .ref (a 0)), (1, .int p1)] → W p l e (rmK 2) s m args below meth c H locs 0 0 (MQ below (qcI G (gA 47 a) (bP G a b) (v_X1_leastToPayAll_loop b p1 n k x2)) args s 0 0 (gA 47 a)) (F0 m 14 ls []) := by
    intro n
    induction n with
    | zero =>
      intro k hk_LP_loop x2 H locs hP hS ls hl
      refine lv_iload hx hb dX1_leastToPayAll_14 (lv_at hl 0 rfl) ?_
      refine lv_iload hx hb dX1_leastToPayAll_16 (lv_at hl 1 rfl) ?_
      refine lv_icmp_ge (tgt := 62) hx hb dX1_leastToPayAll_18 (by decide) (fun _ => ?_) (fun c => absurd ((nI_leI (a := 40) (b := k) (by omega) (by omega)).mpr (by omega)) c)
      refine lv_iload_n hx hb dX1_leastToPayAll_62 rfl (lv_at hl 3 rfl) ?_
      exact e_int S hr hlk rfl hK hS hP (show v_X1_leastToPayAll_loop b p1 0 k x2 = x2 from rfl).symm dX1_leastToPayAll_63
    | succ n ih_LP_loop =>
      intro k hk_LP_loop x2 H locs hP hS ls hl
      refine lv_iload hx hb dX1_leastToPayAll_14 (lv_at hl 0 rfl) ?_
      refine lv_iload hx hb dX1_leastToPayAll_16 (lv_at hl 1 rfl) ?_
      refine lv_icmp_ge (tgt := 62) hx hb dX1_leastToPayAll_18 (by decide) (fun c => absurd c (fun z => absurd ((nI_leI (a := 40) (b := k) (by omega) (by omega)).mp z) (by omega))) (fun _ => ?_)
      refine lv_aload_n hx hb dX1_leastToPayAll_21 rfl (lv_at hl 2 rfl) ?_
      refine lv_iload hx hb dX1_leastToPayAll_22 (lv_at hl 0 rfl) ?_
      refine g_bald S hK hP (i := 1) (by omega) bC1 (k := k) (by omega) (by decide) (v := .ref (a (k + 7))) rfl dX1_leastToPayAll_24 ?_
      refine lv_astore (lv' := [(6, .ref (a (k + 7))), (5, .int (nI k)), (4, .int (40 : Int32)), (3, .ref (a 1)), (2, .int x2), (0, .ref (a 0)), (1, .int p1)]) hx hb dX1_leastToPayAll_25 hl (by decide) rfl (fun ls hl => ?_)
      refine lv_iload_n hx hb dX1_leastToPayAll_27 rfl (lv_at hl 4 rfl) ?_
      refine lv_aload hx hb dX1_leastToPayAll_28 (lv_at hl 0 rfl) ?_
      refine lv_iload_n hx hb dX1_leastToPayAll_30 rfl (lv_at hl 6 rfl) ?_
      refine lv_iconst (v := 0) hx hb dX1_leastToPayAll_31 (by decide) ?_
      refine r_callI S hK hP (c_X0_is l G a hI b k (by omega) _ _ ) (r_cw S k_81 k_78 k_79 k_80 k_38 q_X0_is ⟨Nat.le_of_ble_eq_true rfl, Nat.le_of_ble_eq_true rfl⟩ rfl rfl) (g_recv hK hP (i := k + 7) (by omega) bC7 rfl) rfl hl.1 rfl (Nat.le_of_ble_eq_true rfl) dX1_leastToPayAll_32 ⟨Nat.zero_le _, Nat.zero_le _⟩ hS (fun _ h => h) (fun H locs hP _ _ hS => ?_)
      have hP : bP G a b H := hP
      refine lv_if_eq (tgt := 53) hx hb dX1_leastToPayAll_35 (by decide) (fun c1 => ?_) (fun c1 => ?_)
      · skip
        refine lv_iconst (v := 0) hx hb dX1_leastToPayAll_53 (by decide) ?_
        refine lv_iadd hx hb dX1_leastToPayAll_54 ?_
        refine lv_istore_n (lv' := [(2, .int (x2 + (0 : Int32))), (6, .ref (a (k + 7))), (5, .int (nI k)), (4, .int (40 : Int32)), (3, .ref (a 1)), (0, .ref (a 0)), (1, .int p1)]) hx hb dX1_leastToPayAll_55 rfl hl (by decide) rfl (fun ls hl => ?_)
        refine lv_iinc (v := nI (k + 1)) (lv' := [(5, .int (nI (k + 1))), (2, .int (x2 + (0 : Int32))), (6, .ref (a (k + 7))), (4, .int (40 : Int32)), (3, .ref (a 1)), (0, .ref (a 0)), (1, .int p1)]) hx hb dX1_leastToPayAll_56 hl (k := 2) rfl (nI_1 _) (by decide) rfl (fun ls hl => ?_)
        refine lv_goto (tgt := 14) hx hb dX1_leastToPayAll_59 (by decide) ?_
        refine q_eqI (show v_X1_leastToPayAll_loop b p1 (n + 1) k x2 = v_X1_leastToPayAll_loop b p1 n (k + 1) (x2 + (0 : Int32)) from (if_pos c1).trans rfl) rfl ?_
        exact ih_LP_loop (k + 1) (by omega) _ _ _ hP hS ls (lv_sub hl [0, 3, 4, 1, 5, 6] rfl)
      · skip
        refine lv_aload hx hb dX1_leastToPayAll_38 (lv_at hl 0 rfl) ?_
        refine r_callI S hK hP (c_X0_owed l G a hI b k (by omega) ) (r_cw S k_101 k_98 k_99 k_100 k_38 q_X0_owed ⟨Nat.le_of_ble_eq_true rfl, Nat.le_of_ble_eq_true rfl⟩ rfl rfl) (g_recv hK hP (i := k + 7) (by omega) bC7 rfl) rfl hl.1 rfl (Nat.le_of_ble_eq_true rfl) dX1_leastToPayAll_40 ⟨Nat.zero_le _, Nat.zero_le _⟩ hS (fun _ h => h) (fun H locs hP _ _ hS => ?_)
        have hP : bP G a b H := hP
        refine lv_aload_n hx hb dX1_leastToPayAll_43 rfl (lv_at hl 5 rfl) ?_
        refine lv_aload hx hb dX1_leastToPayAll_44 (lv_at hl 0 rfl) ?_
        refine r_callI S hK hP (c_X1_discountOn l G a hI b k (by omega) ) (r_cw S k_238 k_235 k_236 k_237 k_11 q_X1_discountOn ⟨Nat.le_of_ble_eq_true rfl, Nat.le_of_ble_eq_true rfl⟩ rfl rfl) (g_recv hK hP (i := 0) (by omega) bC0 rfl) rfl hl.1 rfl (Nat.le_of_ble_eq_true rfl) dX1_leastToPayAll_46 ⟨Nat.zero_le _, Nat.zero_le _⟩ hS (fun _ h => h) (fun H locs hP _ _ hS => ?_)
        have hP : bP G a b H := hP
        refine lv_isub hx hb dX1_leastToPayAll_49 ?_
        refine lv_goto (tgt := 54) hx hb dX1_leastToPayAll_50 (by decide) ?_
        refine lv_iadd hx hb dX1_leastToPayAll_54 ?_
        refine lv_istore_n (lv' := [(2, .int (x2 + ((v_X0_owed b k) - (v_X1_discountOn b k)))), (6, .ref (a (k + 7))), (5, .int (nI k)), (4, .int (40 : Int32)), (3, .ref (a 1)), (0, .ref (a 0)), (1, .int p1)]) hx hb dX1_leastToPayAll_55 rfl hl (by decide) rfl (fun ls hl => ?_)
        refine lv_iinc (v := nI (k + 1)) (lv' := [(5, .int (nI (k + 1))), (2, .int (x2 + ((v_X0_owed b k) - (v_X1_discountOn b k)))), (6, .ref (a (k + 7))), (4, .int (40 : Int32)), (3, .ref (a 1)), (0, .ref (a 0)), (1, .int p1)]) hx hb dX1_leastToPayAll_56 hl (k := 2) rfl (nI_1 _) (by decide) rfl (fun ls hl => ?_)
        refine lv_goto (tgt := 14) hx hb dX1_leastToPayAll_59 (by decide) ?_
        refine q_eqI (show v_X1_leastToPayAll_loop b p1 (n + 1) k x2 = v_X1_leastToPayAll_loop b p1 n (k + 1) (x2 + ((v_X0_owed b k) - (v_X1_discountOn b k))) from (if_neg c1).trans rfl) rfl ?_
        exact ih_LP_loop (k + 1) (by omega) _ _ _ hP hS ls (lv_sub hl [0, 3, 4, 1, 5, 6] rfl)
  refine q_eqI (show v_X1_leastToPayAll b p1 = v_X1_leastToPayAll_loop b p1 40 0 (0 : Int32) from rfl) rfl ?_
  exact LP_loop 40 0 (by omega) _ _ _ hP hS ls (lv_sub hl [0, 1, 2, 3, 4, 5] rfl)

def v_X1_taxOf_loop (b : Nat → Nat → Int32) (p1 : Int32) (p2 : Int32) : Nat → Nat → Int32 → Int32
  | 0, k, x3 => x3
  | n + 1, k, x3 => if v_X0_is b k (-9 : Int32) (-9 : Int32) = 0 then (v_X1_taxOf_loop b p1 p2 n (k + 1) x3) else if (b (k + 7) 6) / (100 : Int32) = p1 then (v_X1_taxOf_loop b p1 p2 n (k + 1) (x3 + (b (k + 7) 4))) else v_X1_taxOf_loop b p1 p2 n (k + 1) x3
def v_X1_taxOf (b : Nat → Nat → Int32) (p1 : Int32) (p2 : Int32) : Int32 := if p2 = (1 : Int32) then (if v_X5_isYear p1 = 0 then (0 : Int32) else b 3 p1.toNatClampNeg) else v_X1_taxOf_loop b p1 p2 40 0 (0 : Int32)
theorem q_X1_taxOf : yX1_taxOf.cls ≠ "java/lang/invoke/MethodHandle" ∧ yX1_taxOf.cls ≠ "java/lang/invoke/VarHandle" ∧ (parseMethodDescriptor yX1_taxOf.desc).map (fun d => d.parameters.length) = some 2 := ⟨by decide, by decide, by decide +kernel⟩
set_option maxHeartbeats 4000000 in
set_option maxRecDepth 100000 in
theorem c_X1_taxOf (l : Launch) (G : kG) (a : Nat → Nat) (hI : gI 47 a) (b : Nat → Nat → Int32) (p1 : Int32) (p2 : Int32) : Met l yX1_taxOf (Cond.code yX1_taxOf cX1_taxOf 8 (some .int) :: BIG) (rmK 1) (pcG G (bP G a b) [.ref (a 0), .int p1, .int p2]) (qcI G (gA 47 a) (bP G a b) (v_X1_taxOf b p1 p2)) 0 0 (gA 47 a) := by
  refine m_start (by decide) (Nat.le_of_ble_eq_true rfl) ?_
  intro p e s m args below meth c S hr hlk hnm hP hK ls hl
  have hx := S.1
  have hb := S.2.1
  have hown := S.2.2.2.1
  have hS : va_S (gA 47 a) s.heap s.heap [] := va_S.rf
  have hl : lv_has ls 8 [(0, .ref (a 0)), (1, .int p1), (2, .int p2)] := hl
  refine lv_iload_n hx hb dX1_taxOf_0 rfl (lv_at hl 2 rfl) ?_
  refine lv_iconst (v := 1) hx hb dX1_taxOf_1 (by decide) ?_
  refine lv_icmp_ne (tgt := 23) hx hb dX1_taxOf_2 (by decide) (fun c1 => ?_) (fun c1 => ?_)
  · skip
    refine lv_iconst (v := 0) hx hb dX1_taxOf_23 (by decide) ?_
    refine lv_istore_n (lv' := [(3, .int (0 : Int32)), (0, .ref (a 0)), (1, .int p1), (2, .int p2)]) hx hb dX1_taxOf_24 rfl hl (by decide) rfl (fun ls hl => ?_)
    refine lv_aload_n hx hb dX1_taxOf_25 rfl (lv_at hl 1 rfl) ?_
    refine g_get S hK hP (i := 0) (by omega) bC0 rfl inlX1 0 (by decide) k_28 (v := .ref (a 1)) rfl dX1_taxOf_26 ?_
    refine lv_astore (lv' := [(4, .ref (a 1)), (3, .int (0 : Int32)), (0, .ref (a 0)), (1, .int p1), (2, .int p2)]) hx hb dX1_taxOf_29 hl (by decide) rfl (fun ls hl => ?_)
    refine lv_aload hx hb dX1_taxOf_31 (lv_at hl 0 rfl) ?_
    refine g_alen S hK hP (i := 1) (by omega) (bC1 _) 2 rfl (v := 40) rfl dX1_taxOf_33 ?_
    refine lv_istore (lv' := [(5, .int (40 : Int32)), (4, .ref (a 1)), (3, .int (0 : Int32)), (0, .ref (a 0)), (1, .int p1), (2, .int p2)]) hx hb dX1_taxOf_34 hl (by decide) rfl (fun ls hl => ?_)
    refine lv_iconst (v := 0) hx hb dX1_taxOf_36 (by decide) ?_
    refine lv_istore (lv' := [(6, .int (0 : Int32)), (5, .int (40 : Int32)), (4, .ref (a 1)), (3, .int (0 : Int32)), (0, .ref (a 0)), (1, .int p1), (2, .int p2)]) hx hb dX1_taxOf_37 hl (by decide) rfl (fun ls hl => ?_)
    have LP_loop : ∀ (n : Nat) (k : Nat), k + n = 40 → ∀ (x3 : Int32) (H : Heap) (locs : List Loc), bP G a b H → va_S (gA 47 a) s.heap H locs → ∀ ls : Array Slot, lv_has ls 8 [(6, .int (nI k)), (5, .int (40 : Int32)), (4, .ref (a 1)), (3, .int x3), (0, .ref (a 0)), (1, .int p1), (2, .int p2)] → W p l e (rmK 1) s m args below meth c H locs 0 0 (MQ below (qcI G (gA 47 a) (bP G a b) (v_X1_taxOf_loop b p1 p2 n k x3)) args s 0 0 (gA 47 a)) (F0 m 39 ls []) := by
      intro n
      induction n with
      | zero =>
        intro k hk_LP_loop x3 H locs hP hS ls hl
        refine lv_iload hx hb dX1_taxOf_39 (lv_at hl 0 rfl) ?_
        refine lv_iload hx hb dX1_taxOf_41 (lv_at hl 1 rfl) ?_
        refine lv_icmp_ge (tgt := 91) hx hb dX1_taxOf_43 (by decide) (fun _ => ?_) (fun c => absurd ((nI_leI (a := 40) (b := k) (by omega) (by omega)).mpr (by omega)) c)
        refine lv_iload_n hx hb dX1_taxOf_91 rfl (lv_at hl 3 rfl) ?_
        exact e_int S hr hlk rfl hK hS hP (show v_X1_taxOf_loop b p1 p2 0 k x3 = x3 from rfl).symm dX1_taxOf_92
      | succ n ih_LP_loop =>
        intro k hk_LP_loop x3 H locs hP hS ls hl
        refine lv_iload hx hb dX1_taxOf_39 (lv_at hl 0 rfl) ?_
        refine lv_iload hx hb dX1_taxOf_41 (lv_at hl 1 rfl) ?_
        refine lv_icmp_ge (tgt := 91) hx hb dX1_taxOf_43 (by decide) (fun c => absurd c (fun z => absurd ((nI_leI (a := 40) (b := k) (by omega) (by omega)).mp z) (by omega))) (fun _ => ?_)
        refine lv_aload hx hb dX1_taxOf_46 (lv_at hl 2 rfl) ?_
        refine lv_iload hx hb dX1_taxOf_48 (lv_at hl 0 rfl) ?_
        refine g_bald S hK hP (i := 1) (by omega) bC1 (k := k) (by omega) (by decide) (v := .ref (a (k + 7))) rfl dX1_taxOf_50 ?_
        refine lv_astore (lv' := [(7, .ref (a (k + 7))), (6, .int (nI k)), (5, .int (40 : Int32)), (4, .ref (a 1)), (3, .int x3), (0, .ref (a 0)), (1, .int p1), (2, .int p2)]) hx hb dX1_taxOf_51 hl (by decide) rfl (fun ls hl => ?_)
        refine lv_aload hx hb dX1_taxOf_53 (lv_at hl 0 rfl) ?_
        refine lv_bipush (v := -9) hx hb dX1_taxOf_55 (by decide) ?_
        refine lv_bipush (v := -9) hx hb dX1_taxOf_57 (by decide) ?_
        refine r_callI S hK hP (c_X0_is l G a hI b k (by omega) _ _ ) (r_cw S k_81 k_78 k_79 k_80 k_38 q_X0_is ⟨Nat.le_of_ble_eq_true rfl, Nat.le_of_ble_eq_true rfl⟩ rfl rfl) (g_recv hK hP (i := k + 7) (by omega) bC7 rfl) rfl hl.1 rfl (Nat.le_of_ble_eq_true rfl) dX1_taxOf_59 ⟨Nat.zero_le _, Nat.zero_le _⟩ hS (fun _ h => h) (fun H locs hP _ _ hS => ?_)
        have hP : bP G a b H := hP
        refine lv_if_eq (tgt := 85) hx hb dX1_taxOf_62 (by decide) (fun c2 => ?_) (fun c2 => ?_)
        · skip
          refine lv_iinc (v := nI (k + 1)) (lv' := [(6, .int (nI (k + 1))), (7, .ref (a (k + 7))), (5, .int (40 : Int32)), (4, .ref (a 1)), (3, .int x3), (0, .ref (a 0)), (1, .int p1), (2, .int p2)]) hx hb dX1_taxOf_85 hl (k := 1) rfl (nI_1 _) (by decide) rfl (fun ls hl => ?_)
          refine lv_goto (tgt := 39) hx hb dX1_taxOf_88 (by decide) ?_
          refine q_eqI (show v_X1_taxOf_loop b p1 p2 (n + 1) k x3 = v_X1_taxOf_loop b p1 p2 n (k + 1) x3 from (if_pos c2).trans rfl) rfl ?_
          exact ih_LP_loop (k + 1) (by omega) _ _ _ hP hS ls (lv_sub hl [0, 2, 3, 4, 5, 6, 7] rfl)
        · skip
          refine lv_aload hx hb dX1_taxOf_65 (lv_at hl 0 rfl) ?_
          refine g_get S hK hP (i := k + 7) (by omega) bC7 rfl inlX0 6 (by decide) k_239 (v := .int (b (k + 7) 6)) rfl dX1_taxOf_67 ?_
          refine lv_bipush (v := 100) hx hb dX1_taxOf_70 (by decide) ?_
          refine lv_idiv hx hb dX1_taxOf_72 (by decide) ?_
          refine lv_iload_n hx hb dX1_taxOf_73 rfl (lv_at hl 6 rfl) ?_
          refine lv_icmp_ne (tgt := 85) hx hb dX1_taxOf_74 (by decide) (fun c3 => ?_) (fun c3 => ?_)
          · skip
            refine lv_iinc (v := nI (k + 1)) (lv' := [(6, .int (nI (k + 1))), (7, .ref (a (k + 7))), (5, .int (40 : Int32)), (4, .ref (a 1)), (3, .int x3), (0, .ref (a 0)), (1, .int p1), (2, .int p2)]) hx hb dX1_taxOf_85 hl (k := 1) rfl (nI_1 _) (by decide) rfl (fun ls hl => ?_)
            refine lv_goto (tgt := 39) hx hb dX1_taxOf_88 (by decide) ?_
            refine q_eqI (show v_X1_taxOf_loop b p1 p2 (n + 1) k x3 = v_X1_taxOf_loop b p1 p2 n (k + 1) x3 from (if_neg c2).trans ((if_neg c3).trans rfl)) rfl ?_
            exact ih_LP_loop (k + 1) (by omega) _ _ _ hP hS ls (lv_sub hl [0, 2, 3, 4, 5, 6, 7] rfl)
          · skip
            refine lv_iload_n hx hb dX1_taxOf_77 rfl (lv_at hl 4 rfl) ?_
            refine lv_aload hx hb dX1_taxOf_78 (lv_at hl 0 rfl) ?_
            refine g_get S hK hP (i := k + 7) (by omega) bC7 rfl inlX0 4 (by decide) k_262 (v := .int (b (k + 7) 4)) rfl dX1_taxOf_80 ?_
            refine lv_iadd hx hb dX1_taxOf_83 ?_
            refine lv_istore_n (lv' := [(3, .int (x3 + (b (k + 7) 4))), (7, .ref (a (k + 7))), (6, .int (nI k)), (5, .int (40 : Int32)), (4, .ref (a 1)), (0, .ref (a 0)), (1, .int p1), (2, .int p2)]) hx hb dX1_taxOf_84 rfl hl (by decide) rfl (fun ls hl => ?_)
            refine lv_iinc (v := nI (k + 1)) (lv' := [(6, .int (nI (k + 1))), (3, .int (x3 + (b (k + 7) 4))), (7, .ref (a (k + 7))), (5, .int (40 : Int32)), (4, .ref (a 1)), (0, .ref (a 0)), (1, .int p1), (2, .int p2)]) hx hb dX1_taxOf_85 hl (k := 2) rfl (nI_1 _) (by decide) rfl (fun ls hl => ?_)
            refine lv_goto (tgt := 39) hx hb dX1_taxOf_88 (by decide) ?_
            refine q_eqI (show v_X1_taxOf_loop b p1 p2 (n + 1) k x3 = v_X1_taxOf_loop b p1 p2 n (k + 1) (x3 + (b (k + 7) 4)) from (if_neg c2).trans ((if_pos c3).trans rfl)) rfl ?_
            exact ih_LP_loop (k + 1) (by omega) _ _ _ hP hS ls (lv_sub hl [0, 3, 4, 1, 5, 6, 7] rfl)
    refine q_eqI (show v_X1_taxOf b p1 p2 = v_X1_taxOf_loop b p1 p2 40 0 (0 : Int32) from (if_neg c1).trans rfl) rfl ?_
    exact LP_loop 40 0 (by omega) _ _ _ hP hS ls (lv_sub hl [0, 1, 2, 3, 4, 5, 6] rfl)
  · skip
    refine lv_iload_n hx hb dX1_taxOf_5 rfl (lv_at hl 1 rfl) ?_
    refine r_callSN S hK hP (c_X5_isYear l G (bP G a b) (gA 47 a) _ ) k_252 hK.2.2.2.2.2.1 k_251 k_2 q_X5_isYear ⟨Nat.le_of_ble_eq_true rfl, Nat.le_of_ble_eq_true rfl⟩ rfl rfl rfl hl.1 rfl (Nat.le_of_ble_eq_true rfl) dX1_taxOf_6 ⟨Nat.zero_le _, Nat.zero_le _⟩ hS (fun _ h => h) (fun H locs hP _ _ hS => ?_)
    have hP : bP G a b H := hP
    refine lv_if_eq (tgt := 21) hx hb dX1_taxOf_9 (by decide) (fun c4 => ?_) (fun c4 => ?_)
    · skip
      refine lv_iconst (v := 0) hx hb dX1_taxOf_21 (by decide) ?_
      exact e_int S hr hlk rfl hK hS hP (show v_X1_taxOf b p1 p2 = (0 : Int32) from (if_pos c1).trans ((if_pos c4).trans rfl)).symm dX1_taxOf_22
    · skip
      refine lv_aload_n hx hb dX1_taxOf_12 rfl (lv_at hl 0 rfl) ?_
      refine g_get S hK hP (i := 0) (by omega) bC0 rfl inlX1 2 (by decide) k_31 (v := .ref (a 3)) rfl dX1_taxOf_13 ?_
      refine lv_iload_n hx hb dX1_taxOf_16 rfl (lv_at hl 1 rfl) ?_
      refine g_ald S hK hP (i := 3) (by omega) bC3 (vp_X5_isYear c4 (by decide)) (v := b 3 p1.toNatClampNeg) (rfl) dX1_taxOf_17 ?_
      refine lv_goto (tgt := 22) hx hb dX1_taxOf_18 (by decide) ?_
      exact e_int S hr hlk rfl hK hS hP (show v_X1_taxOf b p1 p2 = b 3 p1.toNatClampNeg from (if_pos c1).trans ((if_neg c4).trans rfl)).symm dX1_taxOf_22

def v_X1_taxTold (b : Nat → Nat → Int32) (p1 : Int32) : Int32 := if v_X5_isYear p1 = 0 then (-5 : Int32) else if b 0 6 ≤ p1 then (-5 : Int32) else b 4 p1.toNatClampNeg
theorem q_X1_taxTold : yX1_taxTold.cls ≠ "java/lang/invoke/MethodHandle" ∧ yX1_taxTold.cls ≠ "java/lang/invoke/VarHandle" ∧ (parseMethodDescriptor yX1_taxTold.desc).map (fun d => d.parameters.length) = some 1 := ⟨by decide, by decide, by decide +kernel⟩
set_option maxHeartbeats 4000000 in
set_option maxRecDepth 100000 in
theorem c_X1_taxTold (l : Launch) (G : kG) (a : Nat → Nat) (hI : gI 47 a) (b : Nat → Nat → Int32) (p1 : Int32) : Met l yX1_taxTold (Cond.code yX1_taxTold cX1_taxTold 2 (some .int) :: BIG) (rmK 1) (pcG G (bP G a b) [.ref (a 0), .int p1]) (qcI G (gA 47 a) (bP G a b) (v_X1_taxTold b p1)) 0 0 (gA 47 a) := by
  refine m_start (by decide) (Nat.le_of_ble_eq_true rfl) ?_
  intro p e s m args below meth c S hr hlk hnm hP hK ls hl
  have hx := S.1
  have hb := S.2.1
  have hown := S.2.2.2.1
  have hS : va_S (gA 47 a) s.heap s.heap [] := va_S.rf
  have hl : lv_has ls 2 [(0, .ref (a 0)), (1, .int p1)] := hl
  refine lv_iload_n hx hb dX1_taxTold_0 rfl (lv_at hl 1 rfl) ?_
  refine r_callSN S hK hP (c_X5_isYear l G (bP G a b) (gA 47 a) _ ) k_252 hK.2.2.2.2.2.1 k_251 k_2 q_X5_isYear ⟨Nat.le_of_ble_eq_true rfl, Nat.le_of_ble_eq_true rfl⟩ rfl rfl rfl hl.1 rfl (Nat.le_of_ble_eq_true rfl) dX1_taxTold_1 ⟨Nat.zero_le _, Nat.zero_le _⟩ hS (fun _ h => h) (fun H locs hP _ _ hS => ?_)
  have hP : bP G a b H := hP
  refine lv_if_eq (tgt := 24) hx hb dX1_taxTold_4 (by decide) (fun c1 => ?_) (fun c1 => ?_)
  · skip
    refine lv_bipush (v := -5) hx hb dX1_taxTold_24 (by decide) ?_
    exact e_int S hr hlk rfl hK hS hP (show v_X1_taxTold b p1 = (-5 : Int32) from (if_pos c1).trans rfl).symm dX1_taxTold_26
  · skip
    refine lv_iload_n hx hb dX1_taxTold_7 rfl (lv_at hl 1 rfl) ?_
    refine lv_aload_n hx hb dX1_taxTold_8 rfl (lv_at hl 0 rfl) ?_
    refine g_get S hK hP (i := 0) (by omega) bC0 rfl inlX1 6 (by decide) k_257 (v := .int (b 0 6)) rfl dX1_taxTold_9 ?_
    refine lv_icmp_ge (tgt := 24) hx hb dX1_taxTold_12 (by decide) (fun c2 => ?_) (fun c2 => ?_)
    · skip
      refine lv_bipush (v := -5) hx hb dX1_taxTold_24 (by decide) ?_
      exact e_int S hr hlk rfl hK hS hP (show v_X1_taxTold b p1 = (-5 : Int32) from (if_neg c1).trans ((if_pos c2).trans rfl)).symm dX1_taxTold_26
    · skip
      refine lv_aload_n hx hb dX1_taxTold_15 rfl (lv_at hl 0 rfl) ?_
      refine g_get S hK hP (i := 0) (by omega) bC0 rfl inlX1 3 (by decide) k_32 (v := .ref (a 4)) rfl dX1_taxTold_16 ?_
      refine lv_iload_n hx hb dX1_taxTold_19 rfl (lv_at hl 1 rfl) ?_
      refine g_ald S hK hP (i := 4) (by omega) bC4 (vp_X5_isYear c1 (by decide)) (v := b 4 p1.toNatClampNeg) (rfl) dX1_taxTold_20 ?_
      refine lv_goto (tgt := 26) hx hb dX1_taxTold_21 (by decide) ?_
      exact e_int S hr hlk rfl hK hS hP (show v_X1_taxTold b p1 = b 4 p1.toNatClampNeg from (if_neg c1).trans ((if_neg c2).trans rfl)).symm dX1_taxTold_26
