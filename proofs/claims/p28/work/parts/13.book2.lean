def v_X1_writeBill (b : Nat → Nat → Int32) (p1 : Int32) (p2 : Int32) (p3 : Int32) (p4 : Int32) : Int32 := if v_X5_isCustomer p1 = 0 then (-1 : Int32) else if p2 < (1 : Int32) then (-2 : Int32) else if (9999 : Int32) < p2 then (-2 : Int32) else if p3 < 0 then (-2 : Int32) else if (40 : Int32) < p3 then (-2 : Int32) else if p4 < 0 then (-2 : Int32) else if p4 ≤ (99 : Int32) then (if v_X1_countBills b (-9 : Int32) (-9 : Int32) < (40 : Int32) then (v_X1_countBills b (-9 : Int32) (-9 : Int32)) else (-3 : Int32)) else (-2 : Int32)
def w_X1_writeBill (b : Nat → Nat → Int32) (p1 : Int32) (p2 : Int32) (p3 : Int32) (p4 : Int32) : Nat → Nat → Int32 := if v_X5_isCustomer p1 = 0 then b else if p2 < (1 : Int32) then b else if (9999 : Int32) < p2 then b else if p3 < 0 then b else if (40 : Int32) < p3 then b else if p4 < 0 then b else if p4 ≤ (99 : Int32) then (if v_X1_countBills b (-9 : Int32) (-9 : Int32) < (40 : Int32) then (w_X1_setCredit (w_X1_payOn (w_X0_write b ((v_X1_countBills b (-9 : Int32) (-9 : Int32)).toNatClampNeg) p1 p2 p3 (b 0 5) p4) ((v_X1_countBills b (-9 : Int32) (-9 : Int32)).toNatClampNeg) (v_X1_creditOf (w_X0_write b ((v_X1_countBills b (-9 : Int32) (-9 : Int32)).toNatClampNeg) p1 p2 p3 (b 0 5) p4) p1)) p1 ((v_X1_creditOf (w_X0_write b ((v_X1_countBills b (-9 : Int32) (-9 : Int32)).toNatClampNeg) p1 p2 p3 (b 0 5) p4) p1) - (v_X1_payOn (w_X0_write b ((v_X1_countBills b (-9 : Int32) (-9 : Int32)).toNatClampNeg) p1 p2 p3 (b 0 5) p4) ((v_X1_countBills b (-9 : Int32) (-9 : Int32)).toNatClampNeg) (v_X1_creditOf (w_X0_write b ((v_X1_countBills b (-9 : Int32) (-9 : Int32)).toNatClampNeg) p1 p2 p3 (b 0 5) p4) p1)))) else b) else b
theorem q_X1_writeBill : yX1_writeBill.cls ≠ "java/lang/invoke/MethodHandle" ∧ yX1_writeBill.cls ≠ "java/lang/invoke/VarHandle" ∧ (parseMethodDescriptor yX1_writeBill.desc).map (fun d => d.parameters.length) = some 4 := ⟨by decide, by decide, by decide +kernel⟩
set_option maxHeartbeats 4000000 in
set_option maxRecDepth 100000 in
theorem c_X1_writeBill (l : Launch) (G : kG) (a : Nat → Nat) (hI : gI 47 a) (b : Nat → Nat → Int32) (p1 : Int32) (p2 : Int32) (p3 : Int32) (p4 : Int32) : Met l yX1_writeBill (Cond.code yX1_writeBill cX1_writeBill 8 (some .int) :: BIG) (rmK 3) (pcG G (bP G a b) [.ref (a 0), .int p1, .int p2, .int p3, .int p4]) (qcI G (gA 47 a) (bP G a (w_X1_writeBill b p1 p2 p3 p4)) (v_X1_writeBill b p1 p2 p3 p4)) 0 0 (gA 47 a) := by
  refine m_start (by decide) (Nat.le_of_ble_eq_true rfl) ?_
  intro p e s m args below meth c S hr hlk hnm hP hK ls hl
  have hx := S.1
  have hb := S.2.1
  have hown := S.2.2.2.1
  have hS : va_S (gA 47 a) s.heap s.heap [] := va_S.rf
  have hl : lv_has ls 8 [(0, .ref (a 0)), (1, .int p1), (2, .int p2), (3, .int p3), (4, .int p4)] := hl
  refine lv_iload_n hx hb dX1_writeBill_0 rfl (lv_at hl 1 rfl) ?_
  refine r_callSN S hK hP (c_X5_isCustomer l G (bP G a b) (gA 47 a) _ ) k_218 hK.2.2.2.2.1 k_217 k_2 q_X5_isCustomer ⟨Nat.le_of_ble_eq_true rfl, Nat.le_of_ble_eq_true rfl⟩ rfl rfl rfl hl.1 rfl (Nat.le_of_ble_eq_true rfl) dX1_writeBill_1 ⟨Nat.zero_le _, Nat.zero_le _⟩ hS (fun _ h => h) (fun H locs hP _ _ hS => ?_)
  have hP : bP G a b H := hP
  refine lv_if_ne (tgt := 9) hx hb dX1_writeBill_4 (by decide) (fun c1 => ?_) (fun c1 => ?_)
  · skip
    refine lv_iload_n hx hb dX1_writeBill_9 rfl (lv_at hl 2 rfl) ?_
    refine lv_iconst (v := 1) hx hb dX1_writeBill_10 (by decide) ?_
    refine lv_icmp_lt (tgt := 43) hx hb dX1_writeBill_11 (by decide) (fun c2 => ?_) (fun c2 => ?_)
    · skip
      refine lv_bipush (v := -2) hx hb dX1_writeBill_43 (by decide) ?_
      exact e_int S hr hlk rfl hK hS (gP_eq (show w_X1_writeBill b p1 p2 p3 p4 = b from (if_neg c1).trans ((if_pos c2).trans rfl)) hP) (show v_X1_writeBill b p1 p2 p3 p4 = (-2 : Int32) from (if_neg c1).trans ((if_pos c2).trans rfl)).symm dX1_writeBill_45
    · skip
      refine lv_iload_n hx hb dX1_writeBill_14 rfl (lv_at hl 2 rfl) ?_
      refine lv_sipush (v := 9999) hx hb dX1_writeBill_15 (by decide) ?_
      refine lv_icmp_gt (tgt := 43) hx hb dX1_writeBill_18 (by decide) (fun c3 => ?_) (fun c3 => ?_)
      · skip
        refine lv_bipush (v := -2) hx hb dX1_writeBill_43 (by decide) ?_
        exact e_int S hr hlk rfl hK hS (gP_eq (show w_X1_writeBill b p1 p2 p3 p4 = b from (if_neg c1).trans ((if_neg c2).trans ((if_pos c3).trans rfl))) hP) (show v_X1_writeBill b p1 p2 p3 p4 = (-2 : Int32) from (if_neg c1).trans ((if_neg c2).trans ((if_pos c3).trans rfl))).symm dX1_writeBill_45
      · skip
        refine lv_iload_n hx hb dX1_writeBill_21 rfl (lv_at hl 3 rfl) ?_
        refine lv_if_lt (tgt := 43) hx hb dX1_writeBill_22 (by decide) (fun c4 => ?_) (fun c4 => ?_)
        · skip
          refine lv_bipush (v := -2) hx hb dX1_writeBill_43 (by decide) ?_
          exact e_int S hr hlk rfl hK hS (gP_eq (show w_X1_writeBill b p1 p2 p3 p4 = b from (if_neg c1).trans ((if_neg c2).trans ((if_neg c3).trans ((if_pos c4).trans rfl)))) hP) (show v_X1_writeBill b p1 p2 p3 p4 = (-2 : Int32) from (if_neg c1).trans ((if_neg c2).trans ((if_neg c3).trans ((if_pos c4).trans rfl)))).symm dX1_writeBill_45
        · skip
          refine lv_iload_n hx hb dX1_writeBill_25 rfl (lv_at hl 3 rfl) ?_
          refine lv_bipush (v := 40) hx hb dX1_writeBill_26 (by decide) ?_
          refine lv_icmp_gt (tgt := 43) hx hb dX1_writeBill_28 (by decide) (fun c5 => ?_) (fun c5 => ?_)
          · skip
            refine lv_bipush (v := -2) hx hb dX1_writeBill_43 (by decide) ?_
            exact e_int S hr hlk rfl hK hS (gP_eq (show w_X1_writeBill b p1 p2 p3 p4 = b from (if_neg c1).trans ((if_neg c2).trans ((if_neg c3).trans ((if_neg c4).trans ((if_pos c5).trans rfl))))) hP) (show v_X1_writeBill b p1 p2 p3 p4 = (-2 : Int32) from (if_neg c1).trans ((if_neg c2).trans ((if_neg c3).trans ((if_neg c4).trans ((if_pos c5).trans rfl))))).symm dX1_writeBill_45
          · skip
            refine lv_iload hx hb dX1_writeBill_31 (lv_at hl 4 rfl) ?_
            refine lv_if_lt (tgt := 43) hx hb dX1_writeBill_33 (by decide) (fun c6 => ?_) (fun c6 => ?_)
            · skip
              refine lv_bipush (v := -2) hx hb dX1_writeBill_43 (by decide) ?_
              exact e_int S hr hlk rfl hK hS (gP_eq (show w_X1_writeBill b p1 p2 p3 p4 = b from (if_neg c1).trans ((if_neg c2).trans ((if_neg c3).trans ((if_neg c4).trans ((if_neg c5).trans ((if_pos c6).trans rfl)))))) hP) (show v_X1_writeBill b p1 p2 p3 p4 = (-2 : Int32) from (if_neg c1).trans ((if_neg c2).trans ((if_neg c3).trans ((if_neg c4).trans ((if_neg c5).trans ((if_pos c6).trans rfl)))))).symm dX1_writeBill_45
            · skip
              refine lv_iload hx hb dX1_writeBill_36 (lv_at hl 4 rfl) ?_
              refine lv_bipush (v := 99) hx hb dX1_writeBill_38 (by decide) ?_
              refine lv_icmp_le (tgt := 46) hx hb dX1_writeBill_40 (by decide) (fun c7 => ?_) (fun c7 => ?_)
              · skip
                refine lv_aload_n hx hb dX1_writeBill_46 rfl (lv_at hl 0 rfl) ?_
                refine lv_bipush (v := -9) hx hb dX1_writeBill_47 (by decide) ?_
                refine lv_bipush (v := -9) hx hb dX1_writeBill_49 (by decide) ?_
                refine r_callI S hK hP (c_X1_countBills l G a hI b _ _ ) (r_cw S k_77 k_316 k_75 k_76 k_11 q_X1_countBills ⟨Nat.le_of_ble_eq_true rfl, Nat.le_of_ble_eq_true rfl⟩ rfl rfl) (g_recv hK hP (i := 0) (by omega) bC0 rfl) rfl hl.1 rfl (Nat.le_of_ble_eq_true rfl) dX1_writeBill_51 ⟨Nat.zero_le _, Nat.zero_le _⟩ hS (fun _ h => h) (fun H locs hP _ _ hS => ?_)
                have hP : bP G a b H := hP
                refine lv_istore (lv' := [(5, .int (v_X1_countBills b (-9 : Int32) (-9 : Int32))), (0, .ref (a 0)), (1, .int p1), (2, .int p2), (3, .int p3), (4, .int p4)]) hx hb dX1_writeBill_54 hl (by decide) rfl (fun ls hl => ?_)
                refine lv_iload hx hb dX1_writeBill_56 (lv_at hl 0 rfl) ?_
                refine lv_aload_n hx hb dX1_writeBill_58 rfl (lv_at hl 1 rfl) ?_
                refine g_get S hK hP (i := 0) (by omega) bC0 rfl inlX1 0 (by decide) k_28 (v := .ref (a 1)) rfl dX1_writeBill_59 ?_
                refine g_alen S hK hP (i := 1) (by omega) (bC1 _) 2 rfl (v := 40) rfl dX1_writeBill_62 ?_
                refine lv_icmp_lt (tgt := 69) hx hb dX1_writeBill_63 (by decide) (fun c8 => ?_) (fun c8 => ?_)
                · skip
                  refine lv_aload_n hx hb dX1_writeBill_69 rfl (lv_at hl 1 rfl) ?_
                  refine g_get S hK hP (i := 0) (by omega) bC0 rfl inlX1 0 (by decide) k_28 (v := .ref (a 1)) rfl dX1_writeBill_70 ?_
                  refine lv_iload hx hb dX1_writeBill_73 (lv_at hl 0 rfl) ?_
                  have hb9 : (v_X1_countBills b (-9 : Int32) (-9 : Int32)).toNatClampNeg < 40 := vp_lt (vp_of (countBills_nn b (-9 : Int32) (-9 : Int32)) (vp_hi2 (n := 40) c8 rfl (by decide)))
                  refine g_baldI S hK hP (i := 1) (by omega) bC1 (vp_of (countBills_nn b (-9 : Int32) (-9 : Int32)) (vp_hi2 (n := 40) c8 rfl (by decide))) (v := .ref (a ((v_X1_countBills b (-9 : Int32) (-9 : Int32)).toNatClampNeg + 7))) rfl dX1_writeBill_75 ?_
                  refine lv_astore (lv' := [(6, .ref (a ((v_X1_countBills b (-9 : Int32) (-9 : Int32)).toNatClampNeg + 7))), (5, .int (v_X1_countBills b (-9 : Int32) (-9 : Int32))), (0, .ref (a 0)), (1, .int p1), (2, .int p2), (3, .int p3), (4, .int p4)]) hx hb dX1_writeBill_76 hl (by decide) rfl (fun ls hl => ?_)
                  refine lv_aload hx hb dX1_writeBill_78 (lv_at hl 0 rfl) ?_
                  refine lv_iload_n hx hb dX1_writeBill_80 rfl (lv_at hl 3 rfl) ?_
                  refine lv_iload_n hx hb dX1_writeBill_81 rfl (lv_at hl 4 rfl) ?_
                  refine lv_iload_n hx hb dX1_writeBill_82 rfl (lv_at hl 5 rfl) ?_
                  refine lv_aload_n hx hb dX1_writeBill_83 rfl (lv_at hl 2 rfl) ?_
                  refine g_get S hK hP (i := 0) (by omega) bC0 rfl inlX1 5 (by decide) k_87 (v := .int (b 0 5)) rfl dX1_writeBill_84 ?_
                  refine lv_iload hx hb dX1_writeBill_87 (lv_at hl 6 rfl) ?_
                  refine r_callV S hK hP (c_X0_write l G a hI b ((v_X1_countBills b (-9 : Int32) (-9 : Int32)).toNatClampNeg) (by omega) _ _ _ _ _ ) (r_cw S k_320 k_317 k_318 k_319 k_38 q_X0_write ⟨Nat.le_of_ble_eq_true rfl, Nat.le_of_ble_eq_true rfl⟩ rfl rfl) (g_recv hK hP (i := (v_X1_countBills b (-9 : Int32) (-9 : Int32)).toNatClampNeg + 7) (by omega) bC7 rfl) rfl hl.1 rfl (Nat.le_of_ble_eq_true rfl) dX1_writeBill_89 ⟨Nat.zero_le _, Nat.zero_le _⟩ hS (fun _ h => h) (fun H locs hP _ _ hS => ?_)
                  have hP : bP G a (w_X0_write b ((v_X1_countBills b (-9 : Int32) (-9 : Int32)).toNatClampNeg) p1 p2 p3 (b 0 5) p4) H := hP
                  refine lv_aload_n hx hb dX1_writeBill_92 rfl (lv_at hl 2 rfl) ?_
                  refine lv_iload_n hx hb dX1_writeBill_93 rfl (lv_at hl 3 rfl) ?_
                  refine r_callI S hK hP (c_X1_creditOf l G a hI (w_X0_write b ((v_X1_countBills b (-9 : Int32) (-9 : Int32)).toNatClampNeg) p1 p2 p3 (b 0 5) p4) _ ) (r_cw S k_222 k_321 k_220 k_221 k_11 q_X1_creditOf ⟨Nat.le_of_ble_eq_true rfl, Nat.le_of_ble_eq_true rfl⟩ rfl rfl) (g_recv hK hP (i := 0) (by omega) bC0 rfl) rfl hl.1 rfl (Nat.le_of_ble_eq_true rfl) dX1_writeBill_94 ⟨Nat.zero_le _, Nat.zero_le _⟩ hS (fun _ h => h) (fun H locs hP _ _ hS => ?_)
                  have hP : bP G a (w_X0_write b ((v_X1_countBills b (-9 : Int32) (-9 : Int32)).toNatClampNeg) p1 p2 p3 (b 0 5) p4) H := hP
                  refine lv_istore (lv' := [(7, .int (v_X1_creditOf (w_X0_write b ((v_X1_countBills b (-9 : Int32) (-9 : Int32)).toNatClampNeg) p1 p2 p3 (b 0 5) p4) p1)), (6, .ref (a ((v_X1_countBills b (-9 : Int32) (-9 : Int32)).toNatClampNeg + 7))), (5, .int (v_X1_countBills b (-9 : Int32) (-9 : Int32))), (0, .ref (a 0)), (1, .int p1), (2, .int p2), (3, .int p3), (4, .int p4)]) hx hb dX1_writeBill_97 hl (by decide) rfl (fun ls hl => ?_)
                  refine lv_aload_n hx hb dX1_writeBill_99 rfl (lv_at hl 3 rfl) ?_
                  refine lv_iload_n hx hb dX1_writeBill_100 rfl (lv_at hl 4 rfl) ?_
                  refine lv_iload hx hb dX1_writeBill_101 (lv_at hl 0 rfl) ?_
                  refine lv_aload_n hx hb dX1_writeBill_103 rfl (lv_at hl 3 rfl) ?_
                  refine lv_aload hx hb dX1_writeBill_104 (lv_at hl 1 rfl) ?_
                  refine lv_iload hx hb dX1_writeBill_106 (lv_at hl 0 rfl) ?_
                  refine r_callI S hK hP (c_X1_payOn l G a hI (w_X0_write b ((v_X1_countBills b (-9 : Int32) (-9 : Int32)).toNatClampNeg) p1 p2 p3 (b 0 5) p4) ((v_X1_countBills b (-9 : Int32) (-9 : Int32)).toNatClampNeg) (by omega) _ ) (r_cw S k_325 k_322 k_323 k_324 k_11 q_X1_payOn ⟨Nat.le_of_ble_eq_true rfl, Nat.le_of_ble_eq_true rfl⟩ rfl rfl) (g_recv hK hP (i := 0) (by omega) bC0 rfl) rfl hl.1 rfl (Nat.le_of_ble_eq_true rfl) dX1_writeBill_108 ⟨Nat.zero_le _, Nat.zero_le _⟩ hS (fun _ h => h) (fun H locs hP _ _ hS => ?_)
                  have hP : bP G a (w_X1_payOn (w_X0_write b ((v_X1_countBills b (-9 : Int32) (-9 : Int32)).toNatClampNeg) p1 p2 p3 (b 0 5) p4) ((v_X1_countBills b (-9 : Int32) (-9 : Int32)).toNatClampNeg) (v_X1_creditOf (w_X0_write b ((v_X1_countBills b (-9 : Int32) (-9 : Int32)).toNatClampNeg) p1 p2 p3 (b 0 5) p4) p1)) H := hP
                  refine lv_isub hx hb dX1_writeBill_111 ?_
                  refine r_callV S hK hP (c_X1_setCredit l G a hI (w_X1_payOn (w_X0_write b ((v_X1_countBills b (-9 : Int32) (-9 : Int32)).toNatClampNeg) p1 p2 p3 (b 0 5) p4) ((v_X1_countBills b (-9 : Int32) (-9 : Int32)).toNatClampNeg) (v_X1_creditOf (w_X0_write b ((v_X1_countBills b (-9 : Int32) (-9 : Int32)).toNatClampNeg) p1 p2 p3 (b 0 5) p4) p1)) _ _ ) (r_cw S k_338 k_335 k_336 k_337 k_11 q_X1_setCredit ⟨Nat.le_of_ble_eq_true rfl, Nat.le_of_ble_eq_true rfl⟩ rfl rfl) (g_recv hK hP (i := 0) (by omega) bC0 rfl) rfl hl.1 rfl (Nat.le_of_ble_eq_true rfl) dX1_writeBill_112 ⟨Nat.zero_le _, Nat.zero_le _⟩ hS (fun _ h => h) (fun H locs hP _ _ hS => ?_)
                  have hP : bP G a (w_X1_setCredit (w_X1_payOn (w_X0_write b ((v_X1_countBills b (-9 : Int32) (-9 : Int32)).toNatClampNeg) p1 p2 p3 (b 0 5) p4) ((v_X1_countBills b (-9 : Int32) (-9 : Int32)).toNatClampNeg) (v_X1_creditOf (w_X0_write b ((v_X1_countBills b (-9 : Int32) (-9 : Int32)).toNatClampNeg) p1 p2 p3 (b 0 5) p4) p1)) p1 ((v_X1_creditOf (w_X0_write b ((v_X1_countBills b (-9 : Int32) (-9 : Int32)).toNatClampNeg) p1 p2 p3 (b 0 5) p4) p1) - (v_X1_payOn (w_X0_write b ((v_X1_countBills b (-9 : Int32) (-9 : Int32)).toNatClampNeg) p1 p2 p3 (b 0 5) p4) ((v_X1_countBills b (-9 : Int32) (-9 : Int32)).toNatClampNeg) (v_X1_creditOf (w_X0_write b ((v_X1_countBills b (-9 : Int32) (-9 : Int32)).toNatClampNeg) p1 p2 p3 (b 0 5) p4) p1)))) H := hP
                  refine lv_iload hx hb dX1_writeBill_115 (lv_at hl 2 rfl) ?_
                  exact e_int S hr hlk rfl hK hS (gP_eq (show w_X1_writeBill b p1 p2 p3 p4 = w_X1_setCredit (w_X1_payOn (w_X0_write b ((v_X1_countBills b (-9 : Int32) (-9 : Int32)).toNatClampNeg) p1 p2 p3 (b 0 5) p4) ((v_X1_countBills b (-9 : Int32) (-9 : Int32)).toNatClampNeg) (v_X1_creditOf (w_X0_write b ((v_X1_countBills b (-9 : Int32) (-9 : Int32)).toNatClampNeg) p1 p2 p3 (b 0 5) p4) p1)) p1 ((v_X1_creditOf (w_X0_write b ((v_X1_countBills b (-9 : Int32) (-9 : Int32)).toNatClampNeg) p1 p2 p3 (b 0 5) p4) p1) - (v_X1_payOn (w_X0_write b ((v_X1_countBills b (-9 : Int32) (-9 : Int32)).toNatClampNeg) p1 p2 p3 (b 0 5) p4) ((v_X1_countBills b (-9 : Int32) (-9 : Int32)).toNatClampNeg) (v_X1_creditOf (w_X0_write b ((v_X1_countBills b (-9 : Int32) (-9 : Int32)).toNatClampNeg) p1 p2 p3 (b 0 5) p4) p1))) from (if_neg c1).trans ((if_neg c2).trans ((if_neg c3).trans ((if_neg c4).trans ((if_neg c5).trans ((if_neg c6).trans ((if_pos c7).trans ((if_pos c8).trans rfl)))))))) hP) (show v_X1_writeBill b p1 p2 p3 p4 = v_X1_countBills b (-9 : Int32) (-9 : Int32) from (if_neg c1).trans ((if_neg c2).trans ((if_neg c3).trans ((if_neg c4).trans ((if_neg c5).trans ((if_neg c6).trans ((if_pos c7).trans ((if_pos c8).trans rfl)))))))).symm dX1_writeBill_117
                · skip
                  refine lv_bipush (v := -3) hx hb dX1_writeBill_66 (by decide) ?_
                  exact e_int S hr hlk rfl hK hS (gP_eq (show w_X1_writeBill b p1 p2 p3 p4 = b from (if_neg c1).trans ((if_neg c2).trans ((if_neg c3).trans ((if_neg c4).trans ((if_neg c5).trans ((if_neg c6).trans ((if_pos c7).trans ((if_neg c8).trans rfl)))))))) hP) (show v_X1_writeBill b p1 p2 p3 p4 = (-3 : Int32) from (if_neg c1).trans ((if_neg c2).trans ((if_neg c3).trans ((if_neg c4).trans ((if_neg c5).trans ((if_neg c6).trans ((if_pos c7).trans ((if_neg c8).trans rfl)))))))).symm dX1_writeBill_68
              · skip
                refine lv_bipush (v := -2) hx hb dX1_writeBill_43 (by decide) ?_
                exact e_int S hr hlk rfl hK hS (gP_eq (show w_X1_writeBill b p1 p2 p3 p4 = b from (if_neg c1).trans ((if_neg c2).trans ((if_neg c3).trans ((if_neg c4).trans ((if_neg c5).trans ((if_neg c6).trans ((if_neg c7).trans rfl))))))) hP) (show v_X1_writeBill b p1 p2 p3 p4 = (-2 : Int32) from (if_neg c1).trans ((if_neg c2).trans ((if_neg c3).trans ((if_neg c4).trans ((if_neg c5).trans ((if_neg c6).trans ((if_neg c7).trans rfl))))))).symm dX1_writeBill_45
  · skip
    refine lv_iconst (v := -1) hx hb dX1_writeBill_7 (by decide) ?_
    exact e_int S hr hlk rfl hK hS (gP_eq (show w_X1_writeBill b p1 p2 p3 p4 = b from (if_pos c1).trans rfl) hP) (show v_X1_writeBill b p1 p2 p3 p4 = (-1 : Int32) from (if_pos c1).trans rfl).symm dX1_writeBill_8

def v_X1_takePayment_loop (p1 : Int32) (p2 : Int32) : Nat → Nat → (Nat → Nat → Int32) → Int32 → Int32 → Int32
  | 0, k, b, x3, x4 => if v_X1_addCredit b p1 x3 = 0 then (-3 : Int32) else x4
  | n + 1, k, b, x3, x4 => if v_X0_is b k p1 (0 : Int32) = 0 then (v_X1_takePayment_loop p1 p2 n (k + 1) b x3 x4) else if (w_X1_payOn b k x3) (k + 7) 0 = (1 : Int32) then (v_X1_takePayment_loop p1 p2 n (k + 1) (w_X1_payOn b k x3) (x3 - (v_X1_payOn b k x3)) (x4 + (1 : Int32))) else v_X1_takePayment_loop p1 p2 n (k + 1) (w_X1_payOn b k x3) (x3 - (v_X1_payOn b k x3)) (x4 + (0 : Int32))
def w_X1_takePayment_loop (p1 : Int32) (p2 : Int32) : Nat → Nat → (Nat → Nat → Int32) → Int32 → Int32 → (Nat → Nat → Int32)
  | 0, k, b, x3, x4 => if v_X1_addCredit b p1 x3 = 0 then (w_X1_addCredit b p1 x3) else w_X1_addCredit b p1 x3
  | n + 1, k, b, x3, x4 => if v_X0_is b k p1 (0 : Int32) = 0 then (w_X1_takePayment_loop p1 p2 n (k + 1) b x3 x4) else if (w_X1_payOn b k x3) (k + 7) 0 = (1 : Int32) then (w_X1_takePayment_loop p1 p2 n (k + 1) (w_X1_payOn b k x3) (x3 - (v_X1_payOn b k x3)) (x4 + (1 : Int32))) else w_X1_takePayment_loop p1 p2 n (k + 1) (w_X1_payOn b k x3) (x3 - (v_X1_payOn b k x3)) (x4 + (0 : Int32))
def v_X1_takePayment (b : Nat → Nat → Int32) (p1 : Int32) (p2 : Int32) : Int32 := if v_X5_isCustomer p1 = 0 then (-1 : Int32) else if v_X5_isAmount p2 = 0 then (-2 : Int32) else v_X1_takePayment_loop p1 p2 40 0 b p2 (0 : Int32)
def w_X1_takePayment (b : Nat → Nat → Int32) (p1 : Int32) (p2 : Int32) : Nat → Nat → Int32 := if v_X5_isCustomer p1 = 0 then b else if v_X5_isAmount p2 = 0 then b else w_X1_takePayment_loop p1 p2 40 0 b p2 (0 : Int32)
theorem q_X1_takePayment : yX1_takePayment.cls ≠ "java/lang/invoke/MethodHandle" ∧ yX1_takePayment.cls ≠ "java/lang/invoke/VarHandle" ∧ (parseMethodDescriptor yX1_takePayment.desc).map (fun d => d.parameters.length) = some 2 := ⟨by decide, by decide, by decide +kernel⟩
set_option maxHeartbeats 4000000 in
set_option maxRecDepth 100000 in
theorem c_X1_takePayment (l : Launch) (G : kG) (a : Nat → Nat) (hI : gI 47 a) (b : Nat → Nat → Int32) (p1 : Int32) (p2 : Int32) : Met l yX1_takePayment (Cond.code yX1_takePayment cX1_takePayment 9 (some .int) :: BIG) (rmK 3) (pcG G (bP G a b) [.ref (a 0), .int p1, .int p2]) (qcI G (gA 47 a) (bP G a (w_X1_takePayment b p1 p2)) (v_X1_takePayment b p1 p2)) 0 0 (gA 47 a) := by
  refine m_start (by decide) (Nat.le_of_ble_eq_true rfl) ?_
  intro p e s m args below meth c S hr hlk hnm hP hK ls hl
  have hx := S.1
  have hb := S.2.1
  have hown := S.2.2.2.1
  have hS : va_S (gA 47 a) s.heap s.heap [] := va_S.rf
  have hl : lv_has ls 9 [(0, .ref (a 0)), (1, .int p1), (2, .int p2)] := hl
  refine lv_iload_n hx hb dX1_takePayment_0 rfl (lv_at hl 1 rfl) ?_
  refine r_callSN S hK hP (c_X5_isCustomer l G (bP G a b) (gA 47 a) _ ) k_218 hK.2.2.2.2.1 k_217 k_2 q_X5_isCustomer ⟨Nat.le_of_ble_eq_true rfl, Nat.le_of_ble_eq_true rfl⟩ rfl rfl rfl hl.1 rfl (Nat.le_of_ble_eq_true rfl) dX1_takePayment_1 ⟨Nat.zero_le _, Nat.zero_le _⟩ hS (fun _ h => h) (fun H locs hP _ _ hS => ?_)
  have hP : bP G a b H := hP
  refine lv_if_ne (tgt := 9) hx hb dX1_takePayment_4 (by decide) (fun c1 => ?_) (fun c1 => ?_)
  · skip
    refine lv_iload_n hx hb dX1_takePayment_9 rfl (lv_at hl 2 rfl) ?_
    refine r_callSN S hK hP (c_X5_isAmount l G (bP G a b) (gA 47 a) _ ) k_356 hK.2.2.2.2.2.2 k_355 k_2 q_X5_isAmount ⟨Nat.le_of_ble_eq_true rfl, Nat.le_of_ble_eq_true rfl⟩ rfl rfl rfl hl.1 rfl (Nat.le_of_ble_eq_true rfl) dX1_takePayment_10 ⟨Nat.zero_le _, Nat.zero_le _⟩ hS (fun _ h => h) (fun H locs hP _ _ hS => ?_)
    have hP : bP G a b H := hP
    refine lv_if_ne (tgt := 19) hx hb dX1_takePayment_13 (by decide) (fun c2 => ?_) (fun c2 => ?_)
    · skip
      refine lv_iload_n hx hb dX1_takePayment_19 rfl (lv_at hl 2 rfl) ?_
      refine lv_istore_n (lv' := [(3, .int p2), (0, .ref (a 0)), (1, .int p1), (2, .int p2)]) hx hb dX1_takePayment_20 rfl hl (by decide) rfl (fun ls hl => ?_)
      refine lv_iconst (v := 0) hx hb dX1_takePayment_21 (by decide) ?_
      refine lv_istore (lv' := [(4, .int (0 : Int32)), (3, .int p2), (0, .ref (a 0)), (1, .int p1), (2, .int p2)]) hx hb dX1_takePayment_22 hl (by decide) rfl (fun ls hl => ?_)
      refine lv_aload_n hx hb dX1_takePayment_24 rfl (lv_at hl 2 rfl) ?_
      refine g_get S hK hP (i := 0) (by omega) bC0 rfl inlX1 0 (by decide) k_28 (v := .ref (a 1)) rfl dX1_takePayment_25 ?_
      refine lv_astore (lv' := [(5, .ref (a 1)), (4, .int (0 : Int32)), (3, .int p2), (0, .ref (a 0)), (1, .int p1), (2, .int p2)]) hx hb dX1_takePayment_28 hl (by decide) rfl (fun ls hl => ?_)
      refine lv_aload hx hb dX1_takePayment_30 (lv_at hl 0 rfl) ?_
      refine g_alen S hK hP (i := 1) (by omega) (bC1 _) 2 rfl (v := 40) rfl dX1_takePayment_32 ?_
      refine lv_istore (lv' := [(6, .int (40 : Int32)), (5, .ref (a 1)), (4, .int (0 : Int32)), (3, .int p2), (0, .ref (a 0)), (1, .int p1), (2, .int p2)]) hx hb dX1_takePayment_33 hl (by decide) rfl (fun ls hl => ?_)
      refine lv_iconst (v := 0) hx hb dX1_takePayment_35 (by decide) ?_
      refine lv_istore (lv' := [(7, .int (0 : Int32)), (6, .int (40 : Int32)), (5, .ref (a 1)), (4, .int (0 : Int32)), (3, .int p2), (0, .ref (a 0)), (1, .int p1), (2, .int p2)]) hx hb dX1_takePayment_36 hl (by decide) rfl (fun ls hl => ?_)
      have LP_loop : ∀ (n : Nat) (k : Nat), k + n = 40 → ∀ (b : Nat → Nat → Int32) (x3 : Int32) (x4 : Int32) (H : Heap) (locs : List Loc), bP G a b H → va_S (gA 47 a) s.heap H locs → ∀ ls : Array Slot, lv_has ls 9 [(7, .int (nI k)), (6, .int (40 : Int32)), (5, .ref (a 1)), (4, .int x4), (3, .int x3), (0, .ref (a 0)), (1, .int p1), (2, .int p2)] → W p l e (rmK 3) s m args below meth c H locs 0 0 (MQ below (qcI G (gA 47 a) (bP G a (w_X1_takePayment_loop p1 p2 n k b x3 x4)) (v_X1_takePayment_loop p1 p2 n k b x3 x4)) args s 0 0 (gA 47 a)) (F0 m 38 ls []) := by
        intro n
        induction n with
        | zero =>
          intro k hk_LP_loop b x3 x4 H locs hP hS ls hl
          refine lv_iload hx hb dX1_takePayment_38 (lv_at hl 0 rfl) ?_
          refine lv_iload hx hb dX1_takePayment_40 (lv_at hl 1 rfl) ?_
          refine lv_icmp_ge (tgt := 97) hx hb dX1_takePayment_42 (by decide) (fun _ => ?_) (fun c => absurd ((nI_leI (a := 40) (b := k) (by omega) (by omega)).mpr (by omega)) c)
          refine lv_aload_n hx hb dX1_takePayment_97 rfl (lv_at hl 5 rfl) ?_
          refine lv_iload_n hx hb dX1_takePayment_98 rfl (lv_at hl 6 rfl) ?_
          refine lv_iload_n hx hb dX1_takePayment_99 rfl (lv_at hl 4 rfl) ?_
          refine r_callI S hK hP (c_X1_addCredit l G a hI b _ _ ) (r_cw S k_361 k_358 k_359 k_360 k_11 q_X1_addCredit ⟨Nat.le_of_ble_eq_true rfl, Nat.le_of_ble_eq_true rfl⟩ rfl rfl) (g_recv hK hP (i := 0) (by omega) bC0 rfl) rfl hl.1 rfl (Nat.le_of_ble_eq_true rfl) dX1_takePayment_100 ⟨Nat.zero_le _, Nat.zero_le _⟩ hS (fun _ h => h) (fun H locs hP _ _ hS => ?_)
          have hP : bP G a (w_X1_addCredit b p1 x3) H := hP
          refine lv_if_eq (tgt := 111) hx hb dX1_takePayment_103 (by decide) (fun c3 => ?_) (fun c3 => ?_)
          · skip
            refine lv_bipush (v := -3) hx hb dX1_takePayment_111 (by decide) ?_
            exact e_int S hr hlk rfl hK hS (gP_eq (show w_X1_takePayment_loop p1 p2 0 k b x3 x4 = w_X1_addCredit b p1 x3 from (if_pos c3).trans rfl) hP) (show v_X1_takePayment_loop p1 p2 0 k b x3 x4 = (-3 : Int32) from (if_pos c3).trans rfl).symm dX1_takePayment_113
          · skip
            refine lv_iload hx hb dX1_takePayment_106 (lv_at hl 3 rfl) ?_
            refine lv_goto (tgt := 113) hx hb dX1_takePayment_108 (by decide) ?_
            exact e_int S hr hlk rfl hK hS (gP_eq (show w_X1_takePayment_loop p1 p2 0 k b x3 x4 = w_X1_addCredit b p1 x3 from (if_neg c3).trans rfl) hP) (show v_X1_takePayment_loop p1 p2 0 k b x3 x4 = x4 from (if_neg c3).trans rfl).symm dX1_takePayment_113
        | succ n ih_LP_loop =>
          intro k hk_LP_loop b x3 x4 H locs hP hS ls hl
          refine lv_iload hx hb dX1_takePayment_38 (lv_at hl 0 rfl) ?_
          refine lv_iload hx hb dX1_takePayment_40 (lv_at hl 1 rfl) ?_
          refine lv_icmp_ge (tgt := 97) hx hb dX1_takePayment_42 (by decide) (fun c => absurd c (fun z => absurd ((nI_leI (a := 40) (b := k) (by omega) (by omega)).mp z) (by omega))) (fun _ => ?_)
          refine lv_aload hx hb dX1_takePayment_45 (lv_at hl 2 rfl) ?_
          refine lv_iload hx hb dX1_takePayment_47 (lv_at hl 0 rfl) ?_
          refine g_bald S hK hP (i := 1) (by omega) bC1 (k := k) (by omega) (by decide) (v := .ref (a (k + 7))) rfl dX1_takePayment_49 ?_
          refine lv_astore (lv' := [(8, .ref (a (k + 7))), (7, .int (nI k)), (6, .int (40 : Int32)), (5, .ref (a 1)), (4, .int x4), (3, .int x3), (0, .ref (a 0)), (1, .int p1), (2, .int p2)]) hx hb dX1_takePayment_50 hl (by decide) rfl (fun ls hl => ?_)
          refine lv_aload hx hb dX1_takePayment_52 (lv_at hl 0 rfl) ?_
          refine lv_iload_n hx hb dX1_takePayment_54 rfl (lv_at hl 7 rfl) ?_
          refine lv_iconst (v := 0) hx hb dX1_takePayment_55 (by decide) ?_
          refine r_callI S hK hP (c_X0_is l G a hI b k (by omega) _ _ ) (r_cw S k_81 k_78 k_79 k_80 k_38 q_X0_is ⟨Nat.le_of_ble_eq_true rfl, Nat.le_of_ble_eq_true rfl⟩ rfl rfl) (g_recv hK hP (i := k + 7) (by omega) bC7 rfl) rfl hl.1 rfl (Nat.le_of_ble_eq_true rfl) dX1_takePayment_56 ⟨Nat.zero_le _, Nat.zero_le _⟩ hS (fun _ h => h) (fun H locs hP _ _ hS => ?_)
          have hP : bP G a b H := hP
          refine lv_if_eq (tgt := 91) hx hb dX1_takePayment_59 (by decide) (fun c4 => ?_) (fun c4 => ?_)
          · skip
            refine lv_iinc (v := nI (k + 1)) (lv' := [(7, .int (nI (k + 1))), (8, .ref (a (k + 7))), (6, .int (40 : Int32)), (5, .ref (a 1)), (4, .int x4), (3, .int x3), (0, .ref (a 0)), (1, .int p1), (2, .int p2)]) hx hb dX1_takePayment_91 hl (k := 1) rfl (nI_1 _) (by decide) rfl (fun ls hl => ?_)
            refine lv_goto (tgt := 38) hx hb dX1_takePayment_94 (by decide) ?_
            refine q_eqI (show v_X1_takePayment_loop p1 p2 (n + 1) k b x3 x4 = v_X1_takePayment_loop p1 p2 n (k + 1) b x3 x4 from (if_pos c4).trans rfl) (show w_X1_takePayment_loop p1 p2 (n + 1) k b x3 x4 = w_X1_takePayment_loop p1 p2 n (k + 1) b x3 x4 from (if_pos c4).trans rfl) ?_
            exact ih_LP_loop (k + 1) (by omega) _ _ _ _ _ hP hS ls (lv_sub hl [0, 2, 3, 4, 5, 6, 7, 8] rfl)
          · skip
            refine lv_iload_n hx hb dX1_takePayment_62 rfl (lv_at hl 5 rfl) ?_
            refine lv_aload_n hx hb dX1_takePayment_63 rfl (lv_at hl 6 rfl) ?_
            refine lv_aload hx hb dX1_takePayment_64 (lv_at hl 0 rfl) ?_
            refine lv_iload_n hx hb dX1_takePayment_66 rfl (lv_at hl 5 rfl) ?_
            refine r_callI S hK hP (c_X1_payOn l G a hI b k (by omega) _ ) (r_cw S k_325 k_322 k_323 k_324 k_11 q_X1_payOn ⟨Nat.le_of_ble_eq_true rfl, Nat.le_of_ble_eq_true rfl⟩ rfl rfl) (g_recv hK hP (i := 0) (by omega) bC0 rfl) rfl hl.1 rfl (Nat.le_of_ble_eq_true rfl) dX1_takePayment_67 ⟨Nat.zero_le _, Nat.zero_le _⟩ hS (fun _ h => h) (fun H locs hP _ _ hS => ?_)
            have hP : bP G a (w_X1_payOn b k x3) H := hP
            refine lv_isub hx hb dX1_takePayment_70 ?_
            refine lv_istore_n (lv' := [(3, .int (x3 - (v_X1_payOn b k x3))), (8, .ref (a (k + 7))), (7, .int (nI k)), (6, .int (40 : Int32)), (5, .ref (a 1)), (4, .int x4), (0, .ref (a 0)), (1, .int p1), (2, .int p2)]) hx hb dX1_takePayment_71 rfl hl (by decide) rfl (fun ls hl => ?_)
            refine lv_iload hx hb dX1_takePayment_72 (lv_at hl 5 rfl) ?_
            refine lv_aload hx hb dX1_takePayment_74 (lv_at hl 1 rfl) ?_
            refine g_get S hK hP (i := k + 7) (by omega) bC7 rfl inlX0 0 (by decide) k_169 (v := .int ((w_X1_payOn b k x3) (k + 7) 0)) rfl dX1_takePayment_76 ?_
            refine lv_iconst (v := 1) hx hb dX1_takePayment_79 (by decide) ?_
            refine lv_icmp_ne (tgt := 87) hx hb dX1_takePayment_80 (by decide) (fun c5 => ?_) (fun c5 => ?_)
            · skip
              refine lv_iconst (v := 0) hx hb dX1_takePayment_87 (by decide) ?_
              refine lv_iadd hx hb dX1_takePayment_88 ?_
              refine lv_istore (lv' := [(4, .int (x4 + (0 : Int32))), (3, .int (x3 - (v_X1_payOn b k x3))), (8, .ref (a (k + 7))), (7, .int (nI k)), (6, .int (40 : Int32)), (5, .ref (a 1)), (0, .ref (a 0)), (1, .int p1), (2, .int p2)]) hx hb dX1_takePayment_89 hl (by decide) rfl (fun ls hl => ?_)
              refine lv_iinc (v := nI (k + 1)) (lv' := [(7, .int (nI (k + 1))), (4, .int (x4 + (0 : Int32))), (3, .int (x3 - (v_X1_payOn b k x3))), (8, .ref (a (k + 7))), (6, .int (40 : Int32)), (5, .ref (a 1)), (0, .ref (a 0)), (1, .int p1), (2, .int p2)]) hx hb dX1_takePayment_91 hl (k := 3) rfl (nI_1 _) (by decide) rfl (fun ls hl => ?_)
              refine lv_goto (tgt := 38) hx hb dX1_takePayment_94 (by decide) ?_
              refine q_eqI (show v_X1_takePayment_loop p1 p2 (n + 1) k b x3 x4 = v_X1_takePayment_loop p1 p2 n (k + 1) (w_X1_payOn b k x3) (x3 - (v_X1_payOn b k x3)) (x4 + (0 : Int32)) from (if_neg c4).trans ((if_neg c5).trans rfl)) (show w_X1_takePayment_loop p1 p2 (n + 1) k b x3 x4 = w_X1_takePayment_loop p1 p2 n (k + 1) (w_X1_payOn b k x3) (x3 - (v_X1_payOn b k x3)) (x4 + (0 : Int32)) from (if_neg c4).trans ((if_neg c5).trans rfl)) ?_
              exact ih_LP_loop (k + 1) (by omega) _ _ _ _ _ hP hS ls (lv_sub hl [0, 4, 5, 1, 2, 6, 7, 8] rfl)
            · skip
              refine lv_iconst (v := 1) hx hb dX1_takePayment_83 (by decide) ?_
              refine lv_goto (tgt := 88) hx hb dX1_takePayment_84 (by decide) ?_
              refine lv_iadd hx hb dX1_takePayment_88 ?_
              refine lv_istore (lv' := [(4, .int (x4 + (1 : Int32))), (3, .int (x3 - (v_X1_payOn b k x3))), (8, .ref (a (k + 7))), (7, .int (nI k)), (6, .int (40 : Int32)), (5, .ref (a 1)), (0, .ref (a 0)), (1, .int p1), (2, .int p2)]) hx hb dX1_takePayment_89 hl (by decide) rfl (fun ls hl => ?_)
              refine lv_iinc (v := nI (k + 1)) (lv' := [(7, .int (nI (k + 1))), (4, .int (x4 + (1 : Int32))), (3, .int (x3 - (v_X1_payOn b k x3))), (8, .ref (a (k + 7))), (6, .int (40 : Int32)), (5, .ref (a 1)), (0, .ref (a 0)), (1, .int p1), (2, .int p2)]) hx hb dX1_takePayment_91 hl (k := 3) rfl (nI_1 _) (by decide) rfl (fun ls hl => ?_)
              refine lv_goto (tgt := 38) hx hb dX1_takePayment_94 (by decide) ?_
              refine q_eqI (show v_X1_takePayment_loop p1 p2 (n + 1) k b x3 x4 = v_X1_takePayment_loop p1 p2 n (k + 1) (w_X1_payOn b k x3) (x3 - (v_X1_payOn b k x3)) (x4 + (1 : Int32)) from (if_neg c4).trans ((if_pos c5).trans rfl)) (show w_X1_takePayment_loop p1 p2 (n + 1) k b x3 x4 = w_X1_takePayment_loop p1 p2 n (k + 1) (w_X1_payOn b k x3) (x3 - (v_X1_payOn b k x3)) (x4 + (1 : Int32)) from (if_neg c4).trans ((if_pos c5).trans rfl)) ?_
              exact ih_LP_loop (k + 1) (by omega) _ _ _ _ _ hP hS ls (lv_sub hl [0, 4, 5, 1, 2, 6, 7, 8] rfl)
      refine q_eqI (show v_X1_takePayment b p1 p2 = v_X1_takePayment_loop p1 p2 40 0 b p2 (0 : Int32) from (if_neg c1).trans ((if_neg c2).trans rfl)) (show w_X1_takePayment b p1 p2 = w_X1_takePayment_loop p1 p2 40 0 b p2 (0 : Int32) from (if_neg c1).trans ((if_neg c2).trans rfl)) ?_
      exact LP_loop 40 0 (by omega) _ _ _ _ _ hP hS ls (lv_sub hl [0, 1, 2, 3, 4, 5, 6, 7] rfl)
    · skip
      refine lv_bipush (v := -2) hx hb dX1_takePayment_16 (by decide) ?_
      exact e_int S hr hlk rfl hK hS (gP_eq (show w_X1_takePayment b p1 p2 = b from (if_neg c1).trans ((if_pos c2).trans rfl)) hP) (show v_X1_takePayment b p1 p2 = (-2 : Int32) from (if_neg c1).trans ((if_pos c2).trans rfl)).symm dX1_takePayment_18
  · skip
    refine lv_iconst (v := -1) hx hb dX1_takePayment_7 (by decide) ?_
    exact e_int S hr hlk rfl hK hS (gP_eq (show w_X1_takePayment b p1 p2 = b from (if_pos c1).trans rfl) hP) (show v_X1_takePayment b p1 p2 = (-1 : Int32) from (if_pos c1).trans rfl).symm dX1_takePayment_8

def v_X1_takePaymentFor (b : Nat → Nat → Int32) (p1 : Int32) (p2 : Int32) : Int32 := oel (v_X1_billAt b p1) ((-1 : Int32)) (fun jo1 => if v_X5_isAmount p2 = 0 then (-2 : Int32) else if b (jo1 + 7) 0 = (1 : Int32) then (-4 : Int32) else if v_X1_addCredit (w_X1_payOn b jo1 p2) ((w_X1_payOn b jo1 p2) (jo1 + 7) 1) (p2 - (v_X1_payOn b jo1 p2)) = 0 then (-3 : Int32) else v_X0_owed (w_X1_addCredit (w_X1_payOn b jo1 p2) ((w_X1_payOn b jo1 p2) (jo1 + 7) 1) (p2 - (v_X1_payOn b jo1 p2))) jo1)
def w_X1_takePaymentFor (b : Nat → Nat → Int32) (p1 : Int32) (p2 : Int32) : Nat → Nat → Int32 := oel (v_X1_billAt b p1) (b) (fun jo1 => if v_X5_isAmount p2 = 0 then b else if b (jo1 + 7) 0 = (1 : Int32) then b else if v_X1_addCredit (w_X1_payOn b jo1 p2) ((w_X1_payOn b jo1 p2) (jo1 + 7) 1) (p2 - (v_X1_payOn b jo1 p2)) = 0 then (w_X1_addCredit (w_X1_payOn b jo1 p2) ((w_X1_payOn b jo1 p2) (jo1 + 7) 1) (p2 - (v_X1_payOn b jo1 p2))) else w_X1_addCredit (w_X1_payOn b jo1 p2) ((w_X1_payOn b jo1 p2) (jo1 + 7) 1) (p2 - (v_X1_payOn b jo1 p2)))
theorem q_X1_takePaymentFor : yX1_takePaymentFor.cls ≠ "java/lang/invoke/MethodHandle" ∧ yX1_takePaymentFor.cls ≠ "java/lang/invoke/VarHandle" ∧ (parseMethodDescriptor yX1_takePaymentFor.desc).map (fun d => d.parameters.length) = some 2 := ⟨by decide, by decide, by decide +kernel⟩
set_option maxHeartbeats 4000000 in
set_option maxRecDepth 100000 in
theorem c_X1_takePaymentFor (l : Launch) (G : kG) (a : Nat → Nat) (hI : gI 47 a) (b : Nat → Nat → Int32) (p1 : Int32) (p2 : Int32) : Met l yX1_takePaymentFor (Cond.code yX1_takePaymentFor cX1_takePaymentFor 5 (some .int) :: BIG) (rmK 3) (pcG G (bP G a b) [.ref (a 0), .int p1, .int p2]) (qcI G (gA 47 a) (bP G a (w_X1_takePaymentFor b p1 p2)) (v_X1_takePaymentFor b p1 p2)) 0 0 (gA 47 a) := by
  refine m_start (by decide) (Nat.le_of_ble_eq_true rfl) ?_
  intro p e s m args below meth c S hr hlk hnm hP hK ls hl
  have hx := S.1
  have hb := S.2.1
  have hown := S.2.2.2.1
  have hS : va_S (gA 47 a) s.heap s.heap [] := va_S.rf
  have hl : lv_has ls 5 [(0, .ref (a 0)), (1, .int p1), (2, .int p2)] := hl
  refine lv_aload_n hx hb dX1_takePaymentFor_0 rfl (lv_at hl 0 rfl) ?_
  refine lv_iload_n hx hb dX1_takePaymentFor_1 rfl (lv_at hl 1 rfl) ?_
  refine r_callQ S hK hP (c_X1_billAt l G a hI b _ ) (r_cw S k_168 k_372 k_166 k_167 k_11 q_X1_billAt ⟨Nat.le_of_ble_eq_true rfl, Nat.le_of_ble_eq_true rfl⟩ rfl rfl) (g_recv hK hP (i := 0) (by omega) bC0 rfl) rfl hl.1 rfl (Nat.le_of_ble_eq_true rfl) dX1_takePaymentFor_2 ⟨Nat.zero_le _, Nat.zero_le _⟩ hS (fun _ h => h) (fun H locs hP _ _ hS => ?_)
  have hP : bP G a b H := hP
  refine r_opt (fun o1 => ?_) (fun jo1 o1 => ?_)
  · skip
    refine lv_astore_nN (lv' := [(3, .null), (0, .ref (a 0)), (1, .int p1), (2, .int p2)]) hx hb dX1_takePaymentFor_5 rfl hl (by decide) rfl (fun ls hl => ?_)
    refine lv_aload_nN hx hb dX1_takePaymentFor_6 rfl (lv_at hl 0 rfl) ?_
    refine lv_ifnonnullN hx hb dX1_takePaymentFor_7 ?_
    refine lv_iconst (v := -1) hx hb dX1_takePaymentFor_10 (by decide) ?_
    exact e_int S hr hlk rfl hK hS (gP_eq (show w_X1_takePaymentFor b p1 p2 = b from (oel_n o1).trans rfl) hP) (show v_X1_takePaymentFor b p1 p2 = (-1 : Int32) from (oel_n o1).trans rfl).symm dX1_takePaymentFor_11
  · have hjo1 : jo1 < 40 := billAt_lt o1
    refine lv_astore_n (lv' := [(3, .ref (a (jo1 + 7))), (0, .ref (a 0)), (1, .int p1), (2, .int p2)]) hx hb dX1_takePaymentFor_5 rfl hl (by decide) rfl (fun ls hl => ?_)
    refine lv_aload_n hx hb dX1_takePaymentFor_6 rfl (lv_at hl 0 rfl) ?_
    refine lv_ifnonnull (tgt := 12) hx hb dX1_takePaymentFor_7 (by decide) ?_
    refine lv_iload_n hx hb dX1_takePaymentFor_12 rfl (lv_at hl 3 rfl) ?_
    refine r_callSN S hK hP (c_X5_isAmount l G (bP G a b) (gA 47 a) _ ) k_356 hK.2.2.2.2.2.2 k_355 k_2 q_X5_isAmount ⟨Nat.le_of_ble_eq_true rfl, Nat.le_of_ble_eq_true rfl⟩ rfl rfl rfl hl.1 rfl (Nat.le_of_ble_eq_true rfl) dX1_takePaymentFor_13 ⟨Nat.zero_le _, Nat.zero_le _⟩ hS (fun _ h => h) (fun H locs hP _ _ hS => ?_)
    have hP : bP G a b H := hP
    refine lv_if_ne (tgt := 22) hx hb dX1_takePaymentFor_16 (by decide) (fun c2 => ?_) (fun c2 => ?_)
    · skip
      refine lv_aload_n hx hb dX1_takePaymentFor_22 rfl (lv_at hl 0 rfl) ?_
      refine g_get S hK hP (i := jo1 + 7) (by omega) bC7 rfl inlX0 0 (by decide) k_169 (v := .int (b (jo1 + 7) 0)) rfl dX1_takePaymentFor_23 ?_
      refine lv_iconst (v := 1) hx hb dX1_takePaymentFor_26 (by decide) ?_
      refine lv_icmp_ne (tgt := 33) hx hb dX1_takePaymentFor_27 (by decide) (fun c3 => ?_) (fun c3 => ?_)
      · skip
        refine lv_iload_n hx hb dX1_takePaymentFor_33 rfl (lv_at hl 3 rfl) ?_
        refine lv_aload_n hx hb dX1_takePaymentFor_34 rfl (lv_at hl 1 rfl) ?_
        refine lv_aload_n hx hb dX1_takePaymentFor_35 rfl (lv_at hl 0 rfl) ?_
        refine lv_iload_n hx hb dX1_takePaymentFor_36 rfl (lv_at hl 3 rfl) ?_
        refine r_callI S hK hP (c_X1_payOn l G a hI b jo1 (by omega) _ ) (r_cw S k_325 k_322 k_323 k_324 k_11 q_X1_payOn ⟨Nat.le_of_ble_eq_true rfl, Nat.le_of_ble_eq_true rfl⟩ rfl rfl) (g_recv hK hP (i := 0) (by omega) bC0 rfl) rfl hl.1 rfl (Nat.le_of_ble_eq_true rfl) dX1_takePaymentFor_37 ⟨Nat.zero_le _, Nat.zero_le _⟩ hS (fun _ h => h) (fun H locs hP _ _ hS => ?_)
        have hP : bP G a (w_X1_payOn b jo1 p2) H := hP
        refine lv_isub hx hb dX1_takePaymentFor_40 ?_
        refine lv_istore (lv' := [(4, .int (p2 - (v_X1_payOn b jo1 p2))), (3, .ref (a (jo1 + 7))), (0, .ref (a 0)), (1, .int p1), (2, .int p2)]) hx hb dX1_takePaymentFor_41 hl (by decide) rfl (fun ls hl => ?_)
        refine lv_aload_n hx hb dX1_takePaymentFor_43 rfl (lv_at hl 2 rfl) ?_
        refine lv_aload_n hx hb dX1_takePaymentFor_44 rfl (lv_at hl 1 rfl) ?_
        refine g_get S hK hP (i := jo1 + 7) (by omega) bC7 rfl inlX0 1 (by decide) k_371 (v := .int ((w_X1_payOn b jo1 p2) (jo1 + 7) 1)) rfl dX1_takePaymentFor_45 ?_
        refine lv_iload hx hb dX1_takePaymentFor_48 (lv_at hl 0 rfl) ?_
        refine r_callI S hK hP (c_X1_addCredit l G a hI (w_X1_payOn b jo1 p2) _ _ ) (r_cw S k_361 k_358 k_359 k_360 k_11 q_X1_addCredit ⟨Nat.le_of_ble_eq_true rfl, Nat.le_of_ble_eq_true rfl⟩ rfl rfl) (g_recv hK hP (i := 0) (by omega) bC0 rfl) rfl hl.1 rfl (Nat.le_of_ble_eq_true rfl) dX1_takePaymentFor_50 ⟨Nat.zero_le _, Nat.zero_le _⟩ hS (fun _ h => h) (fun H locs hP _ _ hS => ?_)
        have hP : bP G a (w_X1_addCredit (w_X1_payOn b jo1 p2) ((w_X1_payOn b jo1 p2) (jo1 + 7) 1) (p2 - (v_X1_payOn b jo1 p2))) H := hP
        refine lv_if_eq (tgt := 63) hx hb dX1_takePaymentFor_53 (by decide) (fun c4 => ?_) (fun c4 => ?_)
        · skip
          refine lv_bipush (v := -3) hx hb dX1_takePaymentFor_63 (by decide) ?_
          exact e_int S hr hlk rfl hK hS (gP_eq (show w_X1_takePaymentFor b p1 p2 = w_X1_addCredit (w_X1_payOn b jo1 p2) ((w_X1_payOn b jo1 p2) (jo1 + 7) 1) (p2 - (v_X1_payOn b jo1 p2)) from (oel_s o1).trans ((if_neg c2).trans ((if_neg c3).trans ((if_pos c4).trans rfl)))) hP) (show v_X1_takePaymentFor b p1 p2 = (-3 : Int32) from (oel_s o1).trans ((if_neg c2).trans ((if_neg c3).trans ((if_pos c4).trans rfl)))).symm dX1_takePaymentFor_65
        · skip
          refine lv_aload_n hx hb dX1_takePaymentFor_56 rfl (lv_at hl 1 rfl) ?_
          refine r_callI S hK hP (c_X0_owed l G a hI (w_X1_addCredit (w_X1_payOn b jo1 p2) ((w_X1_payOn b jo1 p2) (jo1 + 7) 1) (p2 - (v_X1_payOn b jo1 p2))) jo1 (by omega) ) (r_cw S k_101 k_98 k_99 k_100 k_38 q_X0_owed ⟨Nat.le_of_ble_eq_true rfl, Nat.le_of_ble_eq_true rfl⟩ rfl rfl) (g_recv hK hP (i := jo1 + 7) (by omega) bC7 rfl) rfl hl.1 rfl (Nat.le_of_ble_eq_true rfl) dX1_takePaymentFor_57 ⟨Nat.zero_le _, Nat.zero_le _⟩ hS (fun _ h => h) (fun H locs hP _ _ hS => ?_)
          have hP : bP G a (w_X1_addCredit (w_X1_payOn b jo1 p2) ((w_X1_payOn b jo1 p2) (jo1 + 7) 1) (p2 - (v_X1_payOn b jo1 p2))) H := hP
          refine lv_goto (tgt := 65) hx hb dX1_takePaymentFor_60 (by decide) ?_
          exact e_int S hr hlk rfl hK hS (gP_eq (show w_X1_takePaymentFor b p1 p2 = w_X1_addCredit (w_X1_payOn b jo1 p2) ((w_X1_payOn b jo1 p2) (jo1 + 7) 1) (p2 - (v_X1_payOn b jo1 p2)) from (oel_s o1).trans ((if_neg c2).trans ((if_neg c3).trans ((if_neg c4).trans rfl)))) hP) (show v_X1_takePaymentFor b p1 p2 = v_X0_owed (w_X1_addCredit (w_X1_payOn b jo1 p2) ((w_X1_payOn b jo1 p2) (jo1 + 7) 1) (p2 - (v_X1_payOn b jo1 p2))) jo1 from (oel_s o1).trans ((if_neg c2).trans ((if_neg c3).trans ((if_neg c4).trans rfl)))).symm dX1_takePaymentFor_65
      · skip
        refine lv_bipush (v := -4) hx hb dX1_takePaymentFor_30 (by decide) ?_
        exact e_int S hr hlk rfl hK hS (gP_eq (show w_X1_takePaymentFor b p1 p2 = b from (oel_s o1).trans ((if_neg c2).trans ((if_pos c3).trans rfl))) hP) (show v_X1_takePaymentFor b p1 p2 = (-4 : Int32) from (oel_s o1).trans ((if_neg c2).trans ((if_pos c3).trans rfl))).symm dX1_takePaymentFor_32
    · skip
      refine lv_bipush (v := -2) hx hb dX1_takePaymentFor_19 (by decide) ?_
      exact e_int S hr hlk rfl hK hS (gP_eq (show w_X1_takePaymentFor b p1 p2 = b from (oel_s o1).trans ((if_pos c2).trans rfl)) hP) (show v_X1_takePaymentFor b p1 p2 = (-2 : Int32) from (oel_s o1).trans ((if_pos c2).trans rfl)).symm dX1_takePaymentFor_21

def v_X1_returnCredit (b : Nat → Nat → Int32) (p1 : Int32) : Int32 := if v_X5_isCustomer p1 = 0 then (-1 : Int32) else if v_X1_creditOf b p1 = 0 then (-5 : Int32) else v_X1_creditOf b p1
def w_X1_returnCredit (b : Nat → Nat → Int32) (p1 : Int32) : Nat → Nat → Int32 := if v_X5_isCustomer p1 = 0 then b else if v_X1_creditOf b p1 = 0 then b else up (w_X1_setCredit b p1 (0 : Int32)) 0 7 (((w_X1_setCredit b p1 (0 : Int32)) 0 7) + (v_X1_creditOf b p1))
theorem q_X1_returnCredit : yX1_returnCredit.cls ≠ "java/lang/invoke/MethodHandle" ∧ yX1_returnCredit.cls ≠ "java/lang/invoke/VarHandle" ∧ (parseMethodDescriptor yX1_returnCredit.desc).map (fun d => d.parameters.length) = some 1 := ⟨by decide, by decide, by decide +kernel⟩
set_option maxHeartbeats 4000000 in
set_option maxRecDepth 100000 in
theorem c_X1_returnCredit (l : Launch) (G : kG) (a : Nat → Nat) (hI : gI 47 a) (b : Nat → Nat → Int32) (p1 : Int32) : Met l yX1_returnCredit (Cond.code yX1_returnCredit cX1_returnCredit 3 (some .int) :: BIG) (rmK 2) (pcG G (bP G a b) [.ref (a 0), .int p1]) (qcI G (gA 47 a) (bP G a (w_X1_returnCredit b p1)) (v_X1_returnCredit b p1)) 0 0 (gA 47 a) := by
  refine m_start (by decide) (Nat.le_of_ble_eq_true rfl) ?_
  intro p e s m args below meth c S hr hlk hnm hP hK ls hl
  have hx := S.1
  have hb := S.2.1
  have hown := S.2.2.2.1
  have hS : va_S (gA 47 a) s.heap s.heap [] := va_S.rf
  have hl : lv_has ls 3 [(0, .ref (a 0)), (1, .int p1)] := hl
  refine lv_iload_n hx hb dX1_returnCredit_0 rfl (lv_at hl 1 rfl) ?_
  refine r_callSN S hK hP (c_X5_isCustomer l G (bP G a b) (gA 47 a) _ ) k_218 hK.2.2.2.2.1 k_217 k_2 q_X5_isCustomer ⟨Nat.le_of_ble_eq_true rfl, Nat.le_of_ble_eq_true rfl⟩ rfl rfl rfl hl.1 rfl (Nat.le_of_ble_eq_true rfl) dX1_returnCredit_1 ⟨Nat.zero_le _, Nat.zero_le _⟩ hS (fun _ h => h) (fun H locs hP _ _ hS => ?_)
  have hP : bP G a b H := hP
  refine lv_if_ne (tgt := 9) hx hb dX1_returnCredit_4 (by decide) (fun c1 => ?_) (fun c1 => ?_)
  · skip
    refine lv_aload_n hx hb dX1_returnCredit_9 rfl (lv_at hl 0 rfl) ?_
    refine lv_iload_n hx hb dX1_returnCredit_10 rfl (lv_at hl 1 rfl) ?_
    refine r_callI S hK hP (c_X1_creditOf l G a hI b _ ) (r_cw S k_222 k_321 k_220 k_221 k_11 q_X1_creditOf ⟨Nat.le_of_ble_eq_true rfl, Nat.le_of_ble_eq_true rfl⟩ rfl rfl) (g_recv hK hP (i := 0) (by omega) bC0 rfl) rfl hl.1 rfl (Nat.le_of_ble_eq_true rfl) dX1_returnCredit_11 ⟨Nat.zero_le _, Nat.zero_le _⟩ hS (fun _ h => h) (fun H locs hP _ _ hS => ?_)
    have hP : bP G a b H := hP
    refine lv_istore_n (lv' := [(2, .int (v_X1_creditOf b p1)), (0, .ref (a 0)), (1, .int p1)]) hx hb dX1_returnCredit_14 rfl hl (by decide) rfl (fun ls hl => ?_)
    refine lv_iload_n hx hb dX1_returnCredit_15 rfl (lv_at hl 0 rfl) ?_
    refine lv_if_ne (tgt := 22) hx hb dX1_returnCredit_16 (by decide) (fun c2 => ?_) (fun c2 => ?_)
    · skip
      refine lv_aload_n hx hb dX1_returnCredit_22 rfl (lv_at hl 1 rfl) ?_
      refine lv_iload_n hx hb dX1_returnCredit_23 rfl (lv_at hl 2 rfl) ?_
      refine lv_iconst (v := 0) hx hb dX1_returnCredit_24 (by decide) ?_
      refine r_callV S hK hP (c_X1_setCredit l G a hI b _ _ ) (r_cw S k_338 k_335 k_336 k_337 k_11 q_X1_setCredit ⟨Nat.le_of_ble_eq_true rfl, Nat.le_of_ble_eq_true rfl⟩ rfl rfl) (g_recv hK hP (i := 0) (by omega) bC0 rfl) rfl hl.1 rfl (Nat.le_of_ble_eq_true rfl) dX1_returnCredit_25 ⟨Nat.zero_le _, Nat.zero_le _⟩ hS (fun _ h => h) (fun H locs hP _ _ hS => ?_)
      have hP : bP G a (w_X1_setCredit b p1 (0 : Int32)) H := hP
      refine lv_aload_n hx hb dX1_returnCredit_28 rfl (lv_at hl 1 rfl) ?_
      refine lv_dup hx hb dX1_returnCredit_29 rfl ?_
      refine g_get S hK hP (i := 0) (by omega) bC0 rfl inlX1 7 (by decide) k_299 (v := .int ((w_X1_setCredit b p1 (0 : Int32)) 0 7)) rfl dX1_returnCredit_30 ?_
      refine lv_iload_n hx hb dX1_returnCredit_33 rfl (lv_at hl 0 rfl) ?_
      refine lv_iadd hx hb dX1_returnCredit_34 ?_
      refine g_put S hK hP hI hS (i := 0) (by omega) bC0 rfl inlX1 tyX1 tyX1_ok nmX1 bF_n 7 (by decide) k_299 rfl pI rfl rfl (fun _ => rfl) dX1_returnCredit_35 (fun H locs hP hS => ?_)
      have hP : bP G a (up (w_X1_setCredit b p1 (0 : Int32)) 0 7 (((w_X1_setCredit b p1 (0 : Int32)) 0 7) + (v_X1_creditOf b p1))) H := hP
      refine lv_iload_n hx hb dX1_returnCredit_38 rfl (lv_at hl 0 rfl) ?_
      exact e_int S hr hlk rfl hK hS (gP_eq (show w_X1_returnCredit b p1 = up (w_X1_setCredit b p1 (0 : Int32)) 0 7 (((w_X1_setCredit b p1 (0 : Int32)) 0 7) + (v_X1_creditOf b p1)) from (if_neg c1).trans ((if_neg c2).trans rfl)) hP) (show v_X1_returnCredit b p1 = v_X1_creditOf b p1 from (if_neg c1).trans ((if_neg c2).trans rfl)).symm dX1_returnCredit_39
    · skip
      refine lv_bipush (v := -5) hx hb dX1_returnCredit_19 (by decide) ?_
      exact e_int S hr hlk rfl hK hS (gP_eq (show w_X1_returnCredit b p1 = b from (if_neg c1).trans ((if_pos c2).trans rfl)) hP) (show v_X1_returnCredit b p1 = (-5 : Int32) from (if_neg c1).trans ((if_pos c2).trans rfl)).symm dX1_returnCredit_21
  · skip
    refine lv_iconst (v := -1) hx hb dX1_returnCredit_7 (by decide) ?_
    exact e_int S hr hlk rfl hK hS (gP_eq (show w_X1_returnCredit b p1 = b from (if_pos c1).trans rfl) hP) (show v_X1_returnCredit b p1 = (-1 : Int32) from (if_pos c1).trans rfl).symm dX1_returnCredit_8

def v_X1_goOn (b : Nat → Nat → Int32) (p1 : Int32) : Int32 := if p1 < (1 : Int32) then (-2 : Int32) else if p1 ≤ (99 : Int32) then (if (b 0 5) + p1 ≤ (9999 : Int32) then (v_X1_countOverdue (up b 0 5 ((b 0 5) + p1))) else (-3 : Int32)) else (-2 : Int32)
def w_X1_goOn (b : Nat → Nat → Int32) (p1 : Int32) : Nat → Nat → Int32 := if p1 < (1 : Int32) then b else if p1 ≤ (99 : Int32) then (if (b 0 5) + p1 ≤ (9999 : Int32) then (up b 0 5 ((b 0 5) + p1)) else b) else b
theorem q_X1_goOn : yX1_goOn.cls ≠ "java/lang/invoke/MethodHandle" ∧ yX1_goOn.cls ≠ "java/lang/invoke/VarHandle" ∧ (parseMethodDescriptor yX1_goOn.desc).map (fun d => d.parameters.length) = some 1 := ⟨by decide, by decide, by decide +kernel⟩
set_option maxHeartbeats 4000000 in
set_option maxRecDepth 100000 in
theorem c_X1_goOn (l : Launch) (G : kG) (a : Nat → Nat) (hI : gI 47 a) (b : Nat → Nat → Int32) (p1 : Int32) : Met l yX1_goOn (Cond.code yX1_goOn cX1_goOn 2 (some .int) :: BIG) (rmK 2) (pcG G (bP G a b) [.ref (a 0), .int p1]) (qcI G (gA 47 a) (bP G a (w_X1_goOn b p1)) (v_X1_goOn b p1)) 0 0 (gA 47 a) := by
  refine m_start (by decide) (Nat.le_of_ble_eq_true rfl) ?_
  intro p e s m args below meth c S hr hlk hnm hP hK ls hl
  have hx := S.1
  have hb := S.2.1
  have hown := S.2.2.2.1
  have hS : va_S (gA 47 a) s.heap s.heap [] := va_S.rf
  have hl : lv_has ls 2 [(0, .ref (a 0)), (1, .int p1)] := hl
  refine lv_iload_n hx hb dX1_goOn_0 rfl (lv_at hl 1 rfl) ?_
  refine lv_iconst (v := 1) hx hb dX1_goOn_1 (by decide) ?_
  refine lv_icmp_lt (tgt := 11) hx hb dX1_goOn_2 (by decide) (fun c1 => ?_) (fun c1 => ?_)
  · skip
    refine lv_bipush (v := -2) hx hb dX1_goOn_11 (by decide) ?_
    exact e_int S hr hlk rfl hK hS (gP_eq (show w_X1_goOn b p1 = b from (if_pos c1).trans rfl) hP) (show v_X1_goOn b p1 = (-2 : Int32) from (if_pos c1).trans rfl).symm dX1_goOn_13
  · skip
    refine lv_iload_n hx hb dX1_goOn_5 rfl (lv_at hl 1 rfl) ?_
    refine lv_bipush (v := 99) hx hb dX1_goOn_6 (by decide) ?_
    refine lv_icmp_le (tgt := 14) hx hb dX1_goOn_8 (by decide) (fun c2 => ?_) (fun c2 => ?_)
    · skip
      refine lv_aload_n hx hb dX1_goOn_14 rfl (lv_at hl 0 rfl) ?_
      refine g_get S hK hP (i := 0) (by omega) bC0 rfl inlX1 5 (by decide) k_87 (v := .int (b 0 5)) rfl dX1_goOn_15 ?_
      refine lv_iload_n hx hb dX1_goOn_18 rfl (lv_at hl 1 rfl) ?_
      refine lv_iadd hx hb dX1_goOn_19 ?_
      refine lv_sipush (v := 9999) hx hb dX1_goOn_20 (by decide) ?_
      refine lv_icmp_le (tgt := 29) hx hb dX1_goOn_23 (by decide) (fun c3 => ?_) (fun c3 => ?_)
      · skip
        refine lv_aload_n hx hb dX1_goOn_29 rfl (lv_at hl 0 rfl) ?_
        refine lv_dup hx hb dX1_goOn_30 rfl ?_
        refine g_get S hK hP (i := 0) (by omega) bC0 rfl inlX1 5 (by decide) k_87 (v := .int (b 0 5)) rfl dX1_goOn_31 ?_
        refine lv_iload_n hx hb dX1_goOn_34 rfl (lv_at hl 1 rfl) ?_
        refine lv_iadd hx hb dX1_goOn_35 ?_
        refine g_put S hK hP hI hS (i := 0) (by omega) bC0 rfl inlX1 tyX1 tyX1_ok nmX1 bF_n 5 (by decide) k_87 rfl pI rfl rfl (fun _ => rfl) dX1_goOn_36 (fun H locs hP hS => ?_)
        have hP : bP G a (up b 0 5 ((b 0 5) + p1)) H := hP
        refine lv_aload_n hx hb dX1_goOn_39 rfl (lv_at hl 0 rfl) ?_
        refine r_callI S hK hP (c_X1_countOverdue l G a hI (up b 0 5 ((b 0 5) + p1)) ) (r_cw S k_86 k_389 k_84 k_85 k_11 q_X1_countOverdue ⟨Nat.le_of_ble_eq_true rfl, Nat.le_of_ble_eq_true rfl⟩ rfl rfl) (g_recv hK hP (i := 0) (by omega) bC0 rfl) rfl hl.1 rfl (Nat.le_of_ble_eq_true rfl) dX1_goOn_40 ⟨Nat.zero_le _, Nat.zero_le _⟩ hS (fun _ h => h) (fun H locs hP _ _ hS => ?_)
        have hP : bP G a (up b 0 5 ((b 0 5) + p1)) H := hP
        exact e_int S hr hlk rfl hK hS (gP_eq (show w_X1_goOn b p1 = up b 0 5 ((b 0 5) + p1) from (if_neg c1).trans ((if_pos c2).trans ((if_pos c3).trans rfl))) hP) (show v_X1_goOn b p1 = v_X1_countOverdue (up b 0 5 ((b 0 5) + p1)) from (if_neg c1).trans ((if_pos c2).trans ((if_pos c3).trans rfl))).symm dX1_goOn_43
      · skip
        refine lv_bipush (v := -3) hx hb dX1_goOn_26 (by decide) ?_
        exact e_int S hr hlk rfl hK hS (gP_eq (show w_X1_goOn b p1 = b from (if_neg c1).trans ((if_pos c2).trans ((if_neg c3).trans rfl))) hP) (show v_X1_goOn b p1 = (-3 : Int32) from (if_neg c1).trans ((if_pos c2).trans ((if_neg c3).trans rfl))).symm dX1_goOn_28
    · skip
      refine lv_bipush (v := -2) hx hb dX1_goOn_11 (by decide) ?_
      exact e_int S hr hlk rfl hK hS (gP_eq (show w_X1_goOn b p1 = b from (if_neg c1).trans ((if_neg c2).trans rfl)) hP) (show v_X1_goOn b p1 = (-2 : Int32) from (if_neg c1).trans ((if_neg c2).trans rfl)).symm dX1_goOn_13

def v_X1_sendReminders_loop : Nat → Nat → (Nat → Nat → Int32) → Int32 → Int32
  | 0, k, b, x1 => if x1 ≤ 0 then (-5 : Int32) else x1
  | n + 1, k, b, x1 => if v_X0_whyNoReminder b k (b 0 5) (v_X3_reminderDays b) = 0 then (v_X1_sendReminders_loop n (k + 1) (w_X0_addReminder b k (b 0 5) (v_X3_reminderFee b)) (x1 + 1)) else v_X1_sendReminders_loop n (k + 1) b x1
def w_X1_sendReminders_loop : Nat → Nat → (Nat → Nat → Int32) → Int32 → (Nat → Nat → Int32)
  | 0, k, b, x1 => if x1 ≤ 0 then b else b
  | n + 1, k, b, x1 => if v_X0_whyNoReminder b k (b 0 5) (v_X3_reminderDays b) = 0 then (w_X1_sendReminders_loop n (k + 1) (w_X0_addReminder b k (b 0 5) (v_X3_reminderFee b)) (x1 + 1)) else w_X1_sendReminders_loop n (k + 1) b x1
def v_X1_sendReminders (b : Nat → Nat → Int32) : Int32 := v_X1_sendReminders_loop 40 0 b (0 : Int32)
def w_X1_sendReminders (b : Nat → Nat → Int32) : Nat → Nat → Int32 := w_X1_sendReminders_loop 40 0 b (0 : Int32)
theorem q_X1_sendReminders : yX1_sendReminders.cls ≠ "java/lang/invoke/MethodHandle" ∧ yX1_sendReminders.cls ≠ "java/lang/invoke/VarHandle" ∧ (parseMethodDescriptor yX1_sendReminders.desc).map (fun d => d.parameters.length) = some 0 := ⟨by decide, by decide, by decide +kernel⟩
set_option maxHeartbeats 4000000 in
set_option maxRecDepth 100000 in
theorem c_X1_sendReminders (l : Launch) (G : kG) (a : Nat → Nat) (hI : gI 47 a) (b : Nat → Nat → Int32) : Met l yX1_sendReminders (Cond.code yX1_sendReminders cX1_sendReminders 6 (some .int) :: BIG) (rmK 3) (pcG G (bP G a b) [.ref (a 0)]) (qcI G (gA 47 a) (bP G a (w_X1_sendReminders b)) (v_X1_sendReminders b)) 0 0 (gA 47 a) := by
  refine m_start (by decide) (Nat.le_of_ble_eq_true rfl) ?_
  intro p e s m args below meth c S hr hlk hnm hP hK ls hl
  have hx := S.1
  have hb := S.2.1
  have hown := S.2.2.2.1
  have hS : va_S (gA 47 a) s.heap s.heap [] := va_S.rf
  have hl : lv_has ls 6 [(0, .ref (a 0))] := hl
  refine lv_iconst (v := 0) hx hb dX1_sendReminders_0 (by decide) ?_
  refine lv_istore_n (lv' := [(1, .int (0 : Int32)), (0, .ref (a 0))]) hx hb dX1_sendReminders_1 rfl hl (by decide) rfl (fun ls hl => ?_)
  refine lv_aload_n hx hb dX1_sendReminders_2 rfl (lv_at hl 1 rfl) ?_
  refine g_get S hK hP (i := 0) (by omega) bC0 rfl inlX1 0 (by decide) k_28 (v := .ref (a 1)) rfl dX1_sendReminders_3 ?_
  refine lv_astore_n (lv' := [(2, .ref (a 1)), (1, .int (0 : Int32)), (0, .ref (a 0))]) hx hb dX1_sendReminders_6 rfl hl (by decide) rfl (fun ls hl => ?_)
  refine lv_aload_n hx hb dX1_sendReminders_7 rfl (lv_at hl 0 rfl) ?_
  refine g_alen S hK hP (i := 1) (by omega) (bC1 _) 2 rfl (v := 40) rfl dX1_sendReminders_8 ?_
  refine lv_istore_n (lv' := [(3, .int (40 : Int32)), (2, .ref (a 1)), (1, .int (0 : Int32)), (0, .ref (a 0))]) hx hb dX1_sendReminders_9 rfl hl (by decide) rfl (fun ls hl => ?_)
  refine lv_iconst (v := 0) hx hb dX1_sendReminders_10 (by decide) ?_
  refine lv_istore (lv' := [(4, .int (0 : Int32)), (3, .int (40 : Int32)), (2, .ref (a 1)), (1, .int (0 : Int32)), (0, .ref (a 0))]) hx hb dX1_sendReminders_11 hl (by decide) rfl (fun ls hl => ?_)
  have LP_loop : ∀ (n : Nat) (k : Nat), k + n = 40 → ∀ (b : Nat → Nat → Int32) (x1 : Int32) (H : Heap) (locs : List Loc), bP G a b H → va_S (gA 47 a) s.heap H locs → ∀ ls : Array Slot, lv_has ls 6 [(4, .int (nI k)), (3, .int (40 : Int32)), (2, .ref (a 1)), (1, .int x1), (0, .ref (a 0))] → W p l e (rmK 3) s m args below meth c H locs 0 0 (MQ below (qcI G (gA 47 a) (bP G a (w_X1_sendReminders_loop n k b x1)) (v_X1_sendReminders_loop n k b x1)) args s 0 0 (gA 47 a)) (F0 m 13 ls []) := by
    intro n
    induction n with
    | zero =>
      intro k hk_LP_loop b x1 H locs hP hS ls hl
      refine lv_iload hx hb dX1_sendReminders_13 (lv_at hl 0 rfl) ?_
      refine lv_iload_n hx hb dX1_sendReminders_15 rfl (lv_at hl 1 rfl) ?_
      refine lv_icmp_ge (tgt := 69) hx hb dX1_sendReminders_16 (by decide) (fun _ => ?_) (fun c => absurd ((nI_leI (a := 40) (b := k) (by omega) (by omega)).mpr (by omega)) c)
      refine lv_iload_n hx hb dX1_sendReminders_69 rfl (lv_at hl 3 rfl) ?_
      refine lv_if_le (tgt := 77) hx hb dX1_sendReminders_70 (by decide) (fun c1 => ?_) (fun c1 => ?_)
      · skip
        refine lv_bipush (v := -5) hx hb dX1_sendReminders_77 (by decide) ?_
        exact e_int S hr hlk rfl hK hS (gP_eq (show w_X1_sendReminders_loop 0 k b x1 = b from (if_pos c1).trans rfl) hP) (show v_X1_sendReminders_loop 0 k b x1 = (-5 : Int32) from (if_pos c1).trans rfl).symm dX1_sendReminders_79
      · skip
        refine lv_iload_n hx hb dX1_sendReminders_73 rfl (lv_at hl 3 rfl) ?_
        refine lv_goto (tgt := 79) hx hb dX1_sendReminders_74 (by decide) ?_
        exact e_int S hr hlk rfl hK hS (gP_eq (show w_X1_sendReminders_loop 0 k b x1 = b from (if_neg c1).trans rfl) hP) (show v_X1_sendReminders_loop 0 k b x1 = x1 from (if_neg c1).trans rfl).symm dX1_sendReminders_79
    | succ n ih_LP_loop =>
      intro k hk_LP_loop b x1 H locs hP hS ls hl
      refine lv_iload hx hb dX1_sendReminders_13 (lv_at hl 0 rfl) ?_
      refine lv_iload_n hx hb dX1_sendReminders_15 rfl (lv_at hl 1 rfl) ?_
      refine lv_icmp_ge (tgt := 69) hx hb dX1_sendReminders_16 (by decide) (fun c => absurd c (fun z => absurd ((nI_leI (a := 40) (b := k) (by omega) (by omega)).mp z) (by omega))) (fun _ => ?_)
      refine lv_aload_n hx hb dX1_sendReminders_19 rfl (lv_at hl 2 rfl) ?_
      refine lv_iload hx hb dX1_sendReminders_20 (lv_at hl 0 rfl) ?_
      refine g_bald S hK hP (i := 1) (by omega) bC1 (k := k) (by omega) (by decide) (v := .ref (a (k + 7))) rfl dX1_sendReminders_22 ?_
      refine lv_astore (lv' := [(5, .ref (a (k + 7))), (4, .int (nI k)), (3, .int (40 : Int32)), (2, .ref (a 1)), (1, .int x1), (0, .ref (a 0))]) hx hb dX1_sendReminders_23 hl (by decide) rfl (fun ls hl => ?_)
      refine lv_aload hx hb dX1_sendReminders_25 (lv_at hl 0 rfl) ?_
      refine lv_aload_n hx hb dX1_sendReminders_27 rfl (lv_at hl 5 rfl) ?_
      refine g_get S hK hP (i := 0) (by omega) bC0 rfl inlX1 5 (by decide) k_87 (v := .int (b 0 5)) rfl dX1_sendReminders_28 ?_
      refine lv_aload_n hx hb dX1_sendReminders_31 rfl (lv_at hl 5 rfl) ?_
      refine g_get S hK hP (i := 0) (by omega) bC0 rfl inlX1 4 (by decide) k_36 (v := .ref (a 5)) rfl dX1_sendReminders_32 ?_
      refine r_callI S hK hP (c_X3_reminderDays l G a hI b ) (r_cw S k_141 k_398 k_139 k_140 k_35 q_X3_reminderDays ⟨Nat.le_of_ble_eq_true rfl, Nat.le_of_ble_eq_true rfl⟩ rfl rfl) (g_recv hK hP (i := 5) (by omega) bC5 rfl) rfl hl.1 rfl (Nat.le_of_ble_eq_true rfl) dX1_sendReminders_35 ⟨Nat.zero_le _, Nat.zero_le _⟩ hS (fun _ h => h) (fun H locs hP _ _ hS => ?_)
      have hP : bP G a b H := hP
      refine r_callI S hK hP (c_X0_whyNoReminder l G a hI b k (by omega) _ _ ) (r_cw S k_186 k_399 k_184 k_185 k_38 q_X0_whyNoReminder ⟨Nat.le_of_ble_eq_true rfl, Nat.le_of_ble_eq_true rfl⟩ rfl rfl) (g_recv hK hP (i := k + 7) (by omega) bC7 rfl) rfl hl.1 rfl (Nat.le_of_ble_eq_true rfl) dX1_sendReminders_38 ⟨Nat.zero_le _, Nat.zero_le _⟩ hS (fun _ h => h) (fun H locs hP _ _ hS => ?_)
      have hP : bP G a b H := hP
      refine lv_if_ne (tgt := 63) hx hb dX1_sendReminders_41 (by decide) (fun c2 => ?_) (fun c2 => ?_)
      · skip
        refine lv_iinc (v := nI (k + 1)) (lv' := [(4, .int (nI (k + 1))), (5, .ref (a (k + 7))), (3, .int (40 : Int32)), (2, .ref (a 1)), (1, .int x1), (0, .ref (a 0))]) hx hb dX1_sendReminders_63 hl (k := 1) rfl (nI_1 _) (by decide) rfl (fun ls hl => ?_)
        refine lv_goto (tgt := 13) hx hb dX1_sendReminders_66 (by decide) ?_
        refine q_eqI (show v_X1_sendReminders_loop (n + 1) k b x1 = v_X1_sendReminders_loop n (k + 1) b x1 from (if_neg c2).trans rfl) (show w_X1_sendReminders_loop (n + 1) k b x1 = w_X1_sendReminders_loop n (k + 1) b x1 from (if_neg c2).trans rfl) ?_
        exact ih_LP_loop (k + 1) (by omega) _ _ _ _ hP hS ls (lv_sub hl [0, 2, 3, 4, 5] rfl)
      · skip
        refine lv_aload hx hb dX1_sendReminders_44 (lv_at hl 0 rfl) ?_
        refine lv_aload_n hx hb dX1_sendReminders_46 rfl (lv_at hl 5 rfl) ?_
        refine g_get S hK hP (i := 0) (by omega) bC0 rfl inlX1 5 (by decide) k_87 (v := .int (b 0 5)) rfl dX1_sendReminders_47 ?_
        refine lv_aload_n hx hb dX1_sendReminders_50 rfl (lv_at hl 5 rfl) ?_
        refine g_get S hK hP (i := 0) (by omega) bC0 rfl inlX1 4 (by decide) k_36 (v := .ref (a 5)) rfl dX1_sendReminders_51 ?_
        refine r_callI S hK hP (c_X3_reminderFee l G a hI b ) (r_cw S k_145 k_400 k_143 k_144 k_35 q_X3_reminderFee ⟨Nat.le_of_ble_eq_true rfl, Nat.le_of_ble_eq_true rfl⟩ rfl rfl) (g_recv hK hP (i := 5) (by omega) bC5 rfl) rfl hl.1 rfl (Nat.le_of_ble_eq_true rfl) dX1_sendReminders_54 ⟨Nat.zero_le _, Nat.zero_le _⟩ hS (fun _ h => h) (fun H locs hP _ _ hS => ?_)
        have hP : bP G a b H := hP
        refine r_callV S hK hP (c_X0_addReminder l G a hI b k (by omega) _ _ ) (r_cw S k_404 k_401 k_402 k_403 k_38 q_X0_addReminder ⟨Nat.le_of_ble_eq_true rfl, Nat.le_of_ble_eq_true rfl⟩ rfl rfl) (g_recv hK hP (i := k + 7) (by omega) bC7 rfl) rfl hl.1 rfl (Nat.le_of_ble_eq_true rfl) dX1_sendReminders_57 ⟨Nat.zero_le _, Nat.zero_le _⟩ hS (fun _ h => h) (fun H locs hP _ _ hS => ?_)
        have hP : bP G a (w_X0_addReminder b k (b 0 5) (v_X3_reminderFee b)) H := hP
        refine lv_iinc (v := x1 + 1) (lv' := [(1, .int (x1 + 1)), (5, .ref (a (k + 7))), (4, .int (nI k)), (3, .int (40 : Int32)), (2, .ref (a 1)), (0, .ref (a 0))]) hx hb dX1_sendReminders_60 hl (k := 4) rfl rfl (by decide) rfl (fun ls hl => ?_)
        refine lv_iinc (v := nI (k + 1)) (lv' := [(4, .int (nI (k + 1))), (1, .int (x1 + 1)), (5, .ref (a (k + 7))), (3, .int (40 : Int32)), (2, .ref (a 1)), (0, .ref (a 0))]) hx hb dX1_sendReminders_63 hl (k := 2) rfl (nI_1 _) (by decide) rfl (fun ls hl => ?_)
        refine lv_goto (tgt := 13) hx hb dX1_sendReminders_66 (by decide) ?_
        refine q_eqI (show v_X1_sendReminders_loop (n + 1) k b x1 = v_X1_sendReminders_loop n (k + 1) (w_X0_addReminder b k (b 0 5) (v_X3_reminderFee b)) (x1 + 1) from (if_pos c2).trans rfl) (show w_X1_sendReminders_loop (n + 1) k b x1 = w_X1_sendReminders_loop n (k + 1) (w_X0_addReminder b k (b 0 5) (v_X3_reminderFee b)) (x1 + 1) from (if_pos c2).trans rfl) ?_
        exact ih_LP_loop (k + 1) (by omega) _ _ _ _ hP hS ls (lv_sub hl [0, 3, 4, 1, 5] rfl)
  refine q_eqI (show v_X1_sendReminders b  = v_X1_sendReminders_loop 40 0 b (0 : Int32) from rfl) (show w_X1_sendReminders b  = w_X1_sendReminders_loop 40 0 b (0 : Int32) from rfl) ?_
  exact LP_loop 40 0 (by omega) _ _ _ _ hP hS ls (lv_sub hl [0, 1, 2, 3, 4] rfl)

def v_X1_giveUp (b : Nat → Nat → Int32) (p1 : Int32) : Int32 := oel (v_X1_billAt b p1) ((-1 : Int32)) (fun jo1 => if v_X0_canBeWrittenOff b jo1 (b 0 5) (v_X3_reminderDays b) = 0 then (-4 : Int32) else v_X0_owed (up b (jo1 + 7) 0 (2 : Int32)) jo1)
def w_X1_giveUp (b : Nat → Nat → Int32) (p1 : Int32) : Nat → Nat → Int32 := oel (v_X1_billAt b p1) (b) (fun jo1 => if v_X0_canBeWrittenOff b jo1 (b 0 5) (v_X3_reminderDays b) = 0 then b else up b (jo1 + 7) 0 (2 : Int32))
theorem q_X1_giveUp : yX1_giveUp.cls ≠ "java/lang/invoke/MethodHandle" ∧ yX1_giveUp.cls ≠ "java/lang/invoke/VarHandle" ∧ (parseMethodDescriptor yX1_giveUp.desc).map (fun d => d.parameters.length) = some 1 := ⟨by decide, by decide, by decide +kernel⟩
set_option maxHeartbeats 4000000 in
set_option maxRecDepth 100000 in
theorem c_X1_giveUp (l : Launch) (G : kG) (a : Nat → Nat) (hI : gI 47 a) (b : Nat → Nat → Int32) (p1 : Int32) : Met l yX1_giveUp (Cond.code yX1_giveUp cX1_giveUp 3 (some .int) :: BIG) (rmK 1) (pcG G (bP G a b) [.ref (a 0), .int p1]) (qcI G (gA 47 a) (bP G a (w_X1_giveUp b p1)) (v_X1_giveUp b p1)) 0 0 (gA 47 a) := by
  refine m_start (by decide) (Nat.le_of_ble_eq_true rfl) ?_
  intro p e s m args below meth c S hr hlk hnm hP hK ls hl
  have hx := S.1
  have hb := S.2.1
  have hown := S.2.2.2.1
  have hS : va_S (gA 47 a) s.heap s.heap [] := va_S.rf
  have hl : lv_has ls 3 [(0, .ref (a 0)), (1, .int p1)] := hl
  refine lv_aload_n hx hb dX1_giveUp_0 rfl (lv_at hl 0 rfl) ?_
  refine lv_iload_n hx hb dX1_giveUp_1 rfl (lv_at hl 1 rfl) ?_
  refine r_callQ S hK hP (c_X1_billAt l G a hI b _ ) (r_cw S k_168 k_372 k_166 k_167 k_11 q_X1_billAt ⟨Nat.le_of_ble_eq_true rfl, Nat.le_of_ble_eq_true rfl⟩ rfl rfl) (g_recv hK hP (i := 0) (by omega) bC0 rfl) rfl hl.1 rfl (Nat.le_of_ble_eq_true rfl) dX1_giveUp_2 ⟨Nat.zero_le _, Nat.zero_le _⟩ hS (fun _ h => h) (fun H locs hP _ _ hS => ?_)
  have hP : bP G a b H := hP
  refine r_opt (fun o1 => ?_) (fun jo1 o1 => ?_)
  · skip
    refine lv_astore_nN (lv' := [(2, .null), (0, .ref (a 0)), (1, .int p1)]) hx hb dX1_giveUp_5 rfl hl (by decide) rfl (fun ls hl => ?_)
    refine lv_aload_nN hx hb dX1_giveUp_6 rfl (lv_at hl 0 rfl) ?_
    refine lv_ifnonnullN hx hb dX1_giveUp_7 ?_
    refine lv_iconst (v := -1) hx hb dX1_giveUp_10 (by decide) ?_
    exact e_int S hr hlk rfl hK hS (gP_eq (show w_X1_giveUp b p1 = b from (oel_n o1).trans rfl) hP) (show v_X1_giveUp b p1 = (-1 : Int32) from (oel_n o1).trans rfl).symm dX1_giveUp_11
  · have hjo1 : jo1 < 40 := billAt_lt o1
    refine lv_astore_n (lv' := [(2, .ref (a (jo1 + 7))), (0, .ref (a 0)), (1, .int p1)]) hx hb dX1_giveUp_5 rfl hl (by decide) rfl (fun ls hl => ?_)
    refine lv_aload_n hx hb dX1_giveUp_6 rfl (lv_at hl 0 rfl) ?_
    refine lv_ifnonnull (tgt := 12) hx hb dX1_giveUp_7 (by decide) ?_
    refine lv_aload_n hx hb dX1_giveUp_12 rfl (lv_at hl 0 rfl) ?_
    refine lv_aload_n hx hb dX1_giveUp_13 rfl (lv_at hl 1 rfl) ?_
    refine g_get S hK hP (i := 0) (by omega) bC0 rfl inlX1 5 (by decide) k_87 (v := .int (b 0 5)) rfl dX1_giveUp_14 ?_
    refine lv_aload_n hx hb dX1_giveUp_17 rfl (lv_at hl 1 rfl) ?_
    refine g_get S hK hP (i := 0) (by omega) bC0 rfl inlX1 4 (by decide) k_36 (v := .ref (a 5)) rfl dX1_giveUp_18 ?_
    refine r_callI S hK hP (c_X3_reminderDays l G a hI b ) (r_cw S k_141 k_398 k_139 k_140 k_35 q_X3_reminderDays ⟨Nat.le_of_ble_eq_true rfl, Nat.le_of_ble_eq_true rfl⟩ rfl rfl) (g_recv hK hP (i := 5) (by omega) bC5 rfl) rfl hl.1 rfl (Nat.le_of_ble_eq_true rfl) dX1_giveUp_21 ⟨Nat.zero_le _, Nat.zero_le _⟩ hS (fun _ h => h) (fun H locs hP _ _ hS => ?_)
    have hP : bP G a b H := hP
    refine r_callI S hK hP (c_X0_canBeWrittenOff l G a hI b jo1 (by omega) _ _ ) (r_cw S k_416 k_413 k_414 k_415 k_38 q_X0_canBeWrittenOff ⟨Nat.le_of_ble_eq_true rfl, Nat.le_of_ble_eq_true rfl⟩ rfl rfl) (g_recv hK hP (i := jo1 + 7) (by omega) bC7 rfl) rfl hl.1 rfl (Nat.le_of_ble_eq_true rfl) dX1_giveUp_24 ⟨Nat.zero_le _, Nat.zero_le _⟩ hS (fun _ h => h) (fun H locs hP _ _ hS => ?_)
    have hP : bP G a b H := hP
    refine lv_if_ne (tgt := 33) hx hb dX1_giveUp_27 (by decide) (fun c2 => ?_) (fun c2 => ?_)
    · skip
      refine lv_aload_n hx hb dX1_giveUp_33 rfl (lv_at hl 0 rfl) ?_
      refine lv_iconst (v := 2) hx hb dX1_giveUp_34 (by decide) ?_
      refine g_put S hK hP hI hS (i := jo1 + 7) (by omega) bC7 rfl inlX0 tyX0 tyX0_ok nmX0 iF_n 0 (by decide) k_169 rfl pI rfl rfl (fun _ => rfl) dX1_giveUp_35 (fun H locs hP hS => ?_)
      have hP : bP G a (up b (jo1 + 7) 0 (2 : Int32)) H := hP
      refine lv_aload_n hx hb dX1_giveUp_38 rfl (lv_at hl 0 rfl) ?_
      refine r_callI S hK hP (c_X0_owed l G a hI (up b (jo1 + 7) 0 (2 : Int32)) jo1 (by omega) ) (r_cw S k_101 k_98 k_99 k_100 k_38 q_X0_owed ⟨Nat.le_of_ble_eq_true rfl, Nat.le_of_ble_eq_true rfl⟩ rfl rfl) (g_recv hK hP (i := jo1 + 7) (by omega) bC7 rfl) rfl hl.1 rfl (Nat.le_of_ble_eq_true rfl) dX1_giveUp_39 ⟨Nat.zero_le _, Nat.zero_le _⟩ hS (fun _ h => h) (fun H locs hP _ _ hS => ?_)
      have hP : bP G a (up b (jo1 + 7) 0 (2 : Int32)) H := hP
      exact e_int S hr hlk rfl hK hS (gP_eq (show w_X1_giveUp b p1 = up b (jo1 + 7) 0 (2 : Int32) from (oel_s o1).trans ((if_neg c2).trans rfl)) hP) (show v_X1_giveUp b p1 = v_X0_owed (up b (jo1 + 7) 0 (2 : Int32)) jo1 from (oel_s o1).trans ((if_neg c2).trans rfl)).symm dX1_giveUp_42
    · skip
      refine lv_bipush (v := -4) hx hb dX1_giveUp_30 (by decide) ?_
      exact e_int S hr hlk rfl hK hS (gP_eq (show w_X1_giveUp b p1 = b from (oel_s o1).trans ((if_pos c2).trans rfl)) hP) (show v_X1_giveUp b p1 = (-4 : Int32) from (oel_s o1).trans ((if_pos c2).trans rfl)).symm dX1_giveUp_32

def v_X1_endYear (b : Nat → Nat → Int32) (p1 : Int32) : Int32 := if v_X5_isYear p1 = 0 then (-1 : Int32) else if b 0 5 < (p1 + (1 : Int32)) * (100 : Int32) then (-4 : Int32) else if p1 ≤ b 0 6 then (if b 0 6 ≤ p1 then (v_X1_taxOf b p1 (v_X3_taxWay b)) else (-5 : Int32)) else (-4 : Int32)
def w_X1_endYear (b : Nat → Nat → Int32) (p1 : Int32) : Nat → Nat → Int32 := if v_X5_isYear p1 = 0 then b else if b 0 5 < (p1 + (1 : Int32)) * (100 : Int32) then b else if p1 ≤ b 0 6 then (if b 0 6 ≤ p1 then (up (up b 4 p1.toNatClampNeg (v_X1_taxOf b p1 (v_X3_taxWay b))) 0 6 ((b 0 6) + (1 : Int32))) else b) else b
theorem q_X1_endYear : yX1_endYear.cls ≠ "java/lang/invoke/MethodHandle" ∧ yX1_endYear.cls ≠ "java/lang/invoke/VarHandle" ∧ (parseMethodDescriptor yX1_endYear.desc).map (fun d => d.parameters.length) = some 1 := ⟨by decide, by decide, by decide +kernel⟩
set_option maxHeartbeats 4000000 in
set_option maxRecDepth 100000 in
theorem c_X1_endYear (l : Launch) (G : kG) (a : Nat → Nat) (hI : gI 47 a) (b : Nat → Nat → Int32) (p1 : Int32) : Met l yX1_endYear (Cond.code yX1_endYear cX1_endYear 2 (some .int) :: BIG) (rmK 2) (pcG G (bP G a b) [.ref (a 0), .int p1]) (qcI G (gA 47 a) (bP G a (w_X1_endYear b p1)) (v_X1_endYear b p1)) 0 0 (gA 47 a) := by
  refine m_start (by decide) (Nat.le_of_ble_eq_true rfl) ?_
  intro p e s m args below meth c S hr hlk hnm hP hK ls hl
  have hx := S.1
  have hb := S.2.1
  have hown := S.2.2.2.1
  have hS : va_S (gA 47 a) s.heap s.heap [] := va_S.rf
  have hl : lv_has ls 2 [(0, .ref (a 0)), (1, .int p1)] := hl
  refine lv_iload_n hx hb dX1_endYear_0 rfl (lv_at hl 1 rfl) ?_
  refine r_callSN S hK hP (c_X5_isYear l G (bP G a b) (gA 47 a) _ ) k_252 hK.2.2.2.2.2.1 k_251 k_2 q_X5_isYear ⟨Nat.le_of_ble_eq_true rfl, Nat.le_of_ble_eq_true rfl⟩ rfl rfl rfl hl.1 rfl (Nat.le_of_ble_eq_true rfl) dX1_endYear_1 ⟨Nat.zero_le _, Nat.zero_le _⟩ hS (fun _ h => h) (fun H locs hP _ _ hS => ?_)
  have hP : bP G a b H := hP
  refine lv_if_ne (tgt := 9) hx hb dX1_endYear_4 (by decide) (fun c1 => ?_) (fun c1 => ?_)
  · skip
    refine lv_aload_n hx hb dX1_endYear_9 rfl (lv_at hl 0 rfl) ?_
    refine g_get S hK hP (i := 0) (by omega) bC0 rfl inlX1 5 (by decide) k_87 (v := .int (b 0 5)) rfl dX1_endYear_10 ?_
    refine lv_iload_n hx hb dX1_endYear_13 rfl (lv_at hl 1 rfl) ?_
    refine lv_iconst (v := 1) hx hb dX1_endYear_14 (by decide) ?_
    refine lv_iadd hx hb dX1_endYear_15 ?_
    refine lv_bipush (v := 100) hx hb dX1_endYear_16 (by decide) ?_
    refine lv_imul hx hb dX1_endYear_18 ?_
    refine lv_icmp_lt (tgt := 30) hx hb dX1_endYear_19 (by decide) (fun c2 => ?_) (fun c2 => ?_)
    · skip
      refine lv_bipush (v := -4) hx hb dX1_endYear_30 (by decide) ?_
      exact e_int S hr hlk rfl hK hS (gP_eq (show w_X1_endYear b p1 = b from (if_neg c1).trans ((if_pos c2).trans rfl)) hP) (show v_X1_endYear b p1 = (-4 : Int32) from (if_neg c1).trans ((if_pos c2).trans rfl)).symm dX1_endYear_32
    · skip
      refine lv_iload_n hx hb dX1_endYear_22 rfl (lv_at hl 1 rfl) ?_
      refine lv_aload_n hx hb dX1_endYear_23 rfl (lv_at hl 0 rfl) ?_
      refine g_get S hK hP (i := 0) (by omega) bC0 rfl inlX1 6 (by decide) k_257 (v := .int (b 0 6)) rfl dX1_endYear_24 ?_
      refine lv_icmp_le (tgt := 33) hx hb dX1_endYear_27 (by decide) (fun c3 => ?_) (fun c3 => ?_)
      · skip
        refine lv_iload_n hx hb dX1_endYear_33 rfl (lv_at hl 1 rfl) ?_
        refine lv_aload_n hx hb dX1_endYear_34 rfl (lv_at hl 0 rfl) ?_
        refine g_get S hK hP (i := 0) (by omega) bC0 rfl inlX1 6 (by decide) k_257 (v := .int (b 0 6)) rfl dX1_endYear_35 ?_
        refine lv_icmp_ge (tgt := 44) hx hb dX1_endYear_38 (by decide) (fun c4 => ?_) (fun c4 => ?_)
        · skip
          refine lv_aload_n hx hb dX1_endYear_44 rfl (lv_at hl 0 rfl) ?_
          refine g_get S hK hP (i := 0) (by omega) bC0 rfl inlX1 3 (by decide) k_32 (v := .ref (a 4)) rfl dX1_endYear_45 ?_
          refine lv_iload_n hx hb dX1_endYear_48 rfl (lv_at hl 1 rfl) ?_
          refine lv_aload_n hx hb dX1_endYear_49 rfl (lv_at hl 0 rfl) ?_
          refine lv_iload_n hx hb dX1_endYear_50 rfl (lv_at hl 1 rfl) ?_
          refine lv_aload_n hx hb dX1_endYear_51 rfl (lv_at hl 0 rfl) ?_
          refine g_get S hK hP (i := 0) (by omega) bC0 rfl inlX1 4 (by decide) k_36 (v := .ref (a 5)) rfl dX1_endYear_52 ?_
          refine r_callI S hK hP (c_X3_taxWay l G a hI b ) (r_cw S k_149 k_425 k_147 k_148 k_35 q_X3_taxWay ⟨Nat.le_of_ble_eq_true rfl, Nat.le_of_ble_eq_true rfl⟩ rfl rfl) (g_recv hK hP (i := 5) (by omega) bC5 rfl) rfl hl.1 rfl (Nat.le_of_ble_eq_true rfl) dX1_endYear_55 ⟨Nat.zero_le _, Nat.zero_le _⟩ hS (fun _ h => h) (fun H locs hP _ _ hS => ?_)
          have hP : bP G a b H := hP
          refine r_callI S hK hP (c_X1_taxOf l G a hI b _ _ ) (r_cw S k_261 k_426 k_259 k_260 k_11 q_X1_taxOf ⟨Nat.le_of_ble_eq_true rfl, Nat.le_of_ble_eq_true rfl⟩ rfl rfl) (g_recv hK hP (i := 0) (by omega) bC0 rfl) rfl hl.1 rfl (Nat.le_of_ble_eq_true rfl) dX1_endYear_58 ⟨Nat.zero_le _, Nat.zero_le _⟩ hS (fun _ h => h) (fun H locs hP _ _ hS => ?_)
          have hP : bP G a b H := hP
          refine g_ast S hK hP hI hS (i := 4) (by omega) bC4 (vp_X5_isYear c1 (by decide)) dX1_endYear_61 (fun H locs hP hS => ?_)
          have hP : bP G a (up b 4 p1.toNatClampNeg (v_X1_taxOf b p1 (v_X3_taxWay b))) H := hP
          refine lv_aload_n hx hb dX1_endYear_62 rfl (lv_at hl 0 rfl) ?_
          refine lv_dup hx hb dX1_endYear_63 rfl ?_
          refine g_get S hK hP (i := 0) (by omega) bC0 rfl inlX1 6 (by decide) k_257 (v := .int (b 0 6)) (congrArg Value.int ((up_ni (by omega)).trans rfl)) dX1_endYear_64 ?_
          refine lv_iconst (v := 1) hx hb dX1_endYear_67 (by decide) ?_
          refine lv_iadd hx hb dX1_endYear_68 ?_
          refine g_put S hK hP hI hS (i := 0) (by omega) bC0 rfl inlX1 tyX1 tyX1_ok nmX1 bF_n 6 (by decide) k_257 rfl pI rfl rfl (fun _ => rfl) dX1_endYear_69 (fun H locs hP hS => ?_)
          have hP : bP G a (up (up b 4 p1.toNatClampNeg (v_X1_taxOf b p1 (v_X3_taxWay b))) 0 6 ((b 0 6) + (1 : Int32))) H := hP
          refine lv_aload_n hx hb dX1_endYear_72 rfl (lv_at hl 0 rfl) ?_
          refine g_get S hK hP (i := 0) (by omega) bC0 rfl inlX1 3 (by decide) k_32 (v := .ref (a 4)) rfl dX1_endYear_73 ?_
          refine lv_iload_n hx hb dX1_endYear_76 rfl (lv_at hl 1 rfl) ?_
          refine g_ald S hK hP (i := 4) (by omega) bC4 (vp_X5_isYear c1 (by decide)) (v := v_X1_taxOf b p1 (v_X3_taxWay b)) ((up_ni (by omega)).trans (up_same)) dX1_endYear_77 ?_
          exact e_int S hr hlk rfl hK hS (gP_eq (show w_X1_endYear b p1 = up (up b 4 p1.toNatClampNeg (v_X1_taxOf b p1 (v_X3_taxWay b))) 0 6 ((b 0 6) + (1 : Int32)) from (if_neg c1).trans ((if_neg c2).trans ((if_pos c3).trans ((if_pos c4).trans rfl)))) hP) (show v_X1_endYear b p1 = v_X1_taxOf b p1 (v_X3_taxWay b) from (if_neg c1).trans ((if_neg c2).trans ((if_pos c3).trans ((if_pos c4).trans rfl)))).symm dX1_endYear_78
        · skip
          refine lv_bipush (v := -5) hx hb dX1_endYear_41 (by decide) ?_
          exact e_int S hr hlk rfl hK hS (gP_eq (show w_X1_endYear b p1 = b from (if_neg c1).trans ((if_neg c2).trans ((if_pos c3).trans ((if_neg c4).trans rfl)))) hP) (show v_X1_endYear b p1 = (-5 : Int32) from (if_neg c1).trans ((if_neg c2).trans ((if_pos c3).trans ((if_neg c4).trans rfl)))).symm dX1_endYear_43
      · skip
        refine lv_bipush (v := -4) hx hb dX1_endYear_30 (by decide) ?_
        exact e_int S hr hlk rfl hK hS (gP_eq (show w_X1_endYear b p1 = b from (if_neg c1).trans ((if_neg c2).trans ((if_neg c3).trans rfl))) hP) (show v_X1_endYear b p1 = (-4 : Int32) from (if_neg c1).trans ((if_neg c2).trans ((if_neg c3).trans rfl))).symm dX1_endYear_32
  · skip
    refine lv_iconst (v := -1) hx hb dX1_endYear_7 (by decide) ?_
    exact e_int S hr hlk rfl hK hS (gP_eq (show w_X1_endYear b p1 = b from (if_pos c1).trans rfl) hP) (show v_X1_endYear b p1 = (-1 : Int32) from (if_pos c1).trans rfl).symm dX1_endYear_8
