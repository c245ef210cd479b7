def v_X5_doThing (z : CS) : Int32 := if z.2 8 0 3 = 0 then (v_X1_writeBill (z.2 (z.1 0)) (z.2 8 0 4) (z.2 8 0 5) (z.2 8 0 6) (z.2 8 0 7)) else if z.2 8 0 3 = 1 then (v_X1_takePayment (z.2 (z.1 0)) (z.2 8 0 4) (z.2 8 0 5)) else if z.2 8 0 3 = 2 then (if v_X1_isOfAnother (z.2 (z.1 0)) (z.2 8 0 8) (z.2 8 0 4) = 0 then (v_X1_takePaymentFor (z.2 (z.1 0)) (z.2 8 0 8) (z.2 8 0 5)) else (-4 : Int32)) else if z.2 8 0 3 = 3 then (v_X1_sendReminders (z.2 (z.1 0))) else v_X1_goOn (z.2 (z.1 0)) (z.2 8 0 7)
def w_X5_doThing (z : CS) : CS := if z.2 8 0 3 = 0 then (zB z (z.1 0) (w_X1_writeBill (z.2 (z.1 0)) (z.2 8 0 4) (z.2 8 0 5) (z.2 8 0 6) (z.2 8 0 7))) else if z.2 8 0 3 = 1 then (zB z (z.1 0) (w_X1_takePayment (z.2 (z.1 0)) (z.2 8 0 4) (z.2 8 0 5))) else if z.2 8 0 3 = 2 then (if v_X1_isOfAnother (z.2 (z.1 0)) (z.2 8 0 8) (z.2 8 0 4) = 0 then (zB z (z.1 0) (w_X1_takePaymentFor (z.2 (z.1 0)) (z.2 8 0 8) (z.2 8 0 5))) else z) else if z.2 8 0 3 = 3 then (zB z (z.1 0) (w_X1_sendReminders (z.2 (z.1 0)))) else zB z (z.1 0) (w_X1_goOn (z.2 (z.1 0)) (z.2 8 0 7))
theorem q_X5_doThing : yX5_doThing.cls ≠ "java/lang/invoke/MethodHandle" ∧ yX5_doThing.cls ≠ "java/lang/invoke/VarHandle" ∧ (parseMethodDescriptor yX5_doThing.desc).map (fun d => d.parameters.length) = some 0 := ⟨by decide, by decide, by decide +kernel⟩
set_option maxHeartbeats 4000000 in
set_option maxRecDepth 100000 in
theorem c_X5_doThing (l : Launch) (G : kG) (a : Nat → Nat) (hI : gI 334 a) (z : CS) (hR : RI z.1) (hJ : RJ z.1) : Met l yX5_doThing (Cond.code yX5_doThing cX5_doThing 1 (some .int) :: BIG) (rmK 4) (pcG G (cP G a z) [.ref (a 329)]) (qcI G (gA 334 a) (cP G a (w_X5_doThing z)) (v_X5_doThing z)) 0 0 (gA 334 a) := by
  refine m_start (by decide) (Nat.le_of_ble_eq_true rfl) ?_
  intro p e s m args below meth c S hr hlk hnm hP hK ls hl
  have hx := S.1
  have hb := S.2.1
  have hown := S.2.2.2.1
  have hS : va_S (gA 334 a) s.heap s.heap [] := va_S.rf
  have hl : lv_has ls 1 [(0, .ref (a 329))] := hl
  refine lv_aload_n hx hb dX5_doThing_0 rfl (lv_at hl 0 rfl) ?_
  refine g_get S hK hP (i := 329) (by omega) cC0 rfl inlX5 5 (by decide) k_25 (v := .ref (a 332)) rfl dX5_doThing_1 ?_
  refine g_get S hK hP (i := 332) (by omega) cC3 rfl inlX4 3 (by decide) k_572 (v := .int (z.2 8 0 3)) (congrArg Value.int (congrFun (fl_8 (t := 0)) 3)) dX5_doThing_4 ?_
  refine (Classical.em (z.2 8 0 3 = 0)).elim (fun c1 => ?_) (fun c1 => ?_)
  · refine lv_tableIn (tgt := 36)  hx hb dX5_doThing_7 (by rw [c1]; decide) (by rw [c1]; decide) (by rw [c1]; rfl) (by decide) ?_
    refine lv_aload_n hx hb dX5_doThing_36 rfl (lv_at hl 0 rfl) ?_
    refine g_get S hK hP (i := 329) (by omega) cC0 rfl inlX5 0 (by decide) k_15 (v := .ref (a (47 * (z.1 0)))) rfl dX5_doThing_37 ?_
    refine lv_aload_n hx hb dX5_doThing_40 rfl (lv_at hl 0 rfl) ?_
    refine g_get S hK hP (i := 329) (by omega) cC0 rfl inlX5 5 (by decide) k_25 (v := .ref (a 332)) rfl dX5_doThing_41 ?_
    refine g_get S hK hP (i := 332) (by omega) cC3 rfl inlX4 4 (by decide) k_573 (v := .int (z.2 8 0 4)) (congrArg Value.int (congrFun (fl_8 (t := 0)) 4)) dX5_doThing_44 ?_
    refine lv_aload_n hx hb dX5_doThing_47 rfl (lv_at hl 0 rfl) ?_
    refine g_get S hK hP (i := 329) (by omega) cC0 rfl inlX5 5 (by decide) k_25 (v := .ref (a 332)) rfl dX5_doThing_48 ?_
    refine g_get S hK hP (i := 332) (by omega) cC3 rfl inlX4 5 (by decide) k_574 (v := .int (z.2 8 0 5)) (congrArg Value.int (congrFun (fl_8 (t := 0)) 5)) dX5_doThing_51 ?_
    refine lv_aload_n hx hb dX5_doThing_54 rfl (lv_at hl 0 rfl) ?_
    refine g_get S hK hP (i := 329) (by omega) cC0 rfl inlX5 5 (by decide) k_25 (v := .ref (a 332)) rfl dX5_doThing_55 ?_
    refine g_get S hK hP (i := 332) (by omega) cC3 rfl inlX4 6 (by decide) k_575 (v := .int (z.2 8 0 6)) (congrArg Value.int (congrFun (fl_8 (t := 0)) 6)) dX5_doThing_58 ?_
    refine lv_aload_n hx hb dX5_doThing_61 rfl (lv_at hl 0 rfl) ?_
    refine g_get S hK hP (i := 329) (by omega) cC0 rfl inlX5 5 (by decide) k_25 (v := .ref (a 332)) rfl dX5_doThing_62 ?_
    refine g_get S hK hP (i := 332) (by omega) cC3 rfl inlX4 7 (by decide) k_576 (v := .int (z.2 8 0 7)) (congrArg Value.int (congrFun (fl_8 (t := 0)) 7)) dX5_doThing_65 ?_
    have hB := cP_book (r := z.1 0) hP (hR 0 (by decide))
    refine r_callI S hK hB (c_X1_writeBill l G (fun t => a (47 * (z.1 0) + t)) (gI_book hI (hR 0 (by decide))) (z.2 (z.1 0)) _ _ _ _ ) (r_cw S k_119 k_116 k_117 k_118 k_14 q_X1_writeBill ⟨Nat.le_of_ble_eq_true rfl, Nat.le_of_ble_eq_true rfl⟩ rfl rfl) (g_recv hK hB (i := 0) (by omega) bC0 rfl) rfl hl.1 rfl (Nat.le_of_ble_eq_true rfl) dX5_doThing_68 ⟨Nat.zero_le _, Nat.zero_le _⟩ hS (fun _ h => gA_book (hR 0 (by decide)) h) (fun H locs hB hk1 hz1 hS => ?_)
    have hP := cP_join hI (hR 0 (by decide)) hP hB hk1
    have hP : cP G a (zB z (z.1 0) (w_X1_writeBill (z.2 (z.1 0)) (z.2 8 0 4) (z.2 8 0 5) (z.2 8 0 6) (z.2 8 0 7))) H := hP
    exact e_int S hr hlk rfl hK hS (cP_eq (show w_X5_doThing z  = zB z (z.1 0) (w_X1_writeBill (z.2 (z.1 0)) (z.2 8 0 4) (z.2 8 0 5) (z.2 8 0 6) (z.2 8 0 7)) from (if_pos c1).trans rfl) hP) (show v_X5_doThing z  = v_X1_writeBill (z.2 (z.1 0)) (z.2 8 0 4) (z.2 8 0 5) (z.2 8 0 6) (z.2 8 0 7) from (if_pos c1).trans rfl).symm dX5_doThing_71
  refine (Classical.em (z.2 8 0 3 = 1)).elim (fun c2 => ?_) (fun c2 => ?_)
  · refine lv_tableIn (tgt := 72)  hx hb dX5_doThing_7 (by rw [c2]; decide) (by rw [c2]; decide) (by rw [c2]; rfl) (by decide) ?_
    refine lv_aload_n hx hb dX5_doThing_72 rfl (lv_at hl 0 rfl) ?_
    refine g_get S hK hP (i := 329) (by omega) cC0 rfl inlX5 0 (by decide) k_15 (v := .ref (a (47 * (z.1 0)))) rfl dX5_doThing_73 ?_
    refine lv_aload_n hx hb dX5_doThing_76 rfl (lv_at hl 0 rfl) ?_
    refine g_get S hK hP (i := 329) (by omega) cC0 rfl inlX5 5 (by decide) k_25 (v := .ref (a 332)) rfl dX5_doThing_77 ?_
    refine g_get S hK hP (i := 332) (by omega) cC3 rfl inlX4 4 (by decide) k_573 (v := .int (z.2 8 0 4)) (congrArg Value.int (congrFun (fl_8 (t := 0)) 4)) dX5_doThing_80 ?_
    refine lv_aload_n hx hb dX5_doThing_83 rfl (lv_at hl 0 rfl) ?_
    refine g_get S hK hP (i := 329) (by omega) cC0 rfl inlX5 5 (by decide) k_25 (v := .ref (a 332)) rfl dX5_doThing_84 ?_
    refine g_get S hK hP (i := 332) (by omega) cC3 rfl inlX4 5 (by decide) k_574 (v := .int (z.2 8 0 5)) (congrArg Value.int (congrFun (fl_8 (t := 0)) 5)) dX5_doThing_87 ?_
    have hB := cP_book (r := z.1 0) hP (hR 0 (by decide))
    refine r_callI S hK hB (c_X1_takePayment l G (fun t => a (47 * (z.1 0) + t)) (gI_book hI (hR 0 (by decide))) (z.2 (z.1 0)) _ _ ) (r_cw S k_253 k_250 k_251 k_252 k_14 q_X1_takePayment ⟨Nat.le_of_ble_eq_true rfl, Nat.le_of_ble_eq_true rfl⟩ rfl rfl) (g_recv hK hB (i := 0) (by omega) bC0 rfl) rfl hl.1 rfl (Nat.le_of_ble_eq_true rfl) dX5_doThing_90 ⟨Nat.zero_le _, Nat.zero_le _⟩ hS (fun _ h => gA_book (hR 0 (by decide)) h) (fun H locs hB hk1 hz1 hS => ?_)
    have hP := cP_join hI (hR 0 (by decide)) hP hB hk1
    have hP : cP G a (zB z (z.1 0) (w_X1_takePayment (z.2 (z.1 0)) (z.2 8 0 4) (z.2 8 0 5))) H := hP
    exact e_int S hr hlk rfl hK hS (cP_eq (show w_X5_doThing z  = zB z (z.1 0) (w_X1_takePayment (z.2 (z.1 0)) (z.2 8 0 4) (z.2 8 0 5)) from (if_neg c1).trans ((if_pos c2).trans rfl)) hP) (show v_X5_doThing z  = v_X1_takePayment (z.2 (z.1 0)) (z.2 8 0 4) (z.2 8 0 5) from (if_neg c1).trans ((if_pos c2).trans rfl)).symm dX5_doThing_93
  refine (Classical.em (z.2 8 0 3 = 2)).elim (fun c3 => ?_) (fun c3 => ?_)
  · refine lv_tableIn (tgt := 94)  hx hb dX5_doThing_7 (by rw [c3]; decide) (by rw [c3]; decide) (by rw [c3]; rfl) (by decide) ?_
    refine lv_aload_n hx hb dX5_doThing_94 rfl (lv_at hl 0 rfl) ?_
    refine g_get S hK hP (i := 329) (by omega) cC0 rfl inlX5 0 (by decide) k_15 (v := .ref (a (47 * (z.1 0)))) rfl dX5_doThing_95 ?_
    refine lv_aload_n hx hb dX5_doThing_98 rfl (lv_at hl 0 rfl) ?_
    refine g_get S hK hP (i := 329) (by omega) cC0 rfl inlX5 5 (by decide) k_25 (v := .ref (a 332)) rfl dX5_doThing_99 ?_
    refine g_get S hK hP (i := 332) (by omega) cC3 rfl inlX4 8 (by decide) k_577 (v := .int (z.2 8 0 8)) (congrArg Value.int (congrFun (fl_8 (t := 0)) 8)) dX5_doThing_102 ?_
    refine lv_aload_n hx hb dX5_doThing_105 rfl (lv_at hl 0 rfl) ?_
    refine g_get S hK hP (i := 329) (by omega) cC0 rfl inlX5 5 (by decide) k_25 (v := .ref (a 332)) rfl dX5_doThing_106 ?_
    refine g_get S hK hP (i := 332) (by omega) cC3 rfl inlX4 4 (by decide) k_573 (v := .int (z.2 8 0 4)) (congrArg Value.int (congrFun (fl_8 (t := 0)) 4)) dX5_doThing_109 ?_
    have hB := cP_book (r := z.1 0) hP (hR 0 (by decide))
    refine r_callI S hK hB (c_X1_isOfAnother l G (fun t => a (47 * (z.1 0) + t)) (gI_book hI (hR 0 (by decide))) (z.2 (z.1 0)) _ _ ) (r_cw S k_581 k_578 k_579 k_580 k_14 q_X1_isOfAnother ⟨Nat.le_of_ble_eq_true rfl, Nat.le_of_ble_eq_true rfl⟩ rfl rfl) (g_recv hK hB (i := 0) (by omega) bC0 rfl) rfl hl.1 rfl (Nat.le_of_ble_eq_true rfl) dX5_doThing_112 ⟨Nat.zero_le _, Nat.zero_le _⟩ hS (fun _ h => gA_book (hR 0 (by decide)) h) (fun H locs hB hk1 hz1 hS => ?_)
    have hP := cP_join0 hI (hR 0 (by decide)) hP hB hk1
    have hP : cP G a z H := hP
    refine lv_if_eq (tgt := 123) hx hb dX5_doThing_115 (by decide) (fun c4 => ?_) (fun c4 => ?_)
    · skip
      refine lv_aload_n hx hb dX5_doThing_123 rfl (lv_at hl 0 rfl) ?_
      refine g_get S hK hP (i := 329) (by omega) cC0 rfl inlX5 0 (by decide) k_15 (v := .ref (a (47 * (z.1 0)))) rfl dX5_doThing_124 ?_
      refine lv_aload_n hx hb dX5_doThing_127 rfl (lv_at hl 0 rfl) ?_
      refine g_get S hK hP (i := 329) (by omega) cC0 rfl inlX5 5 (by decide) k_25 (v := .ref (a 332)) rfl dX5_doThing_128 ?_
      refine g_get S hK hP (i := 332) (by omega) cC3 rfl inlX4 8 (by decide) k_577 (v := .int (z.2 8 0 8)) (congrArg Value.int (congrFun (fl_8 (t := 0)) 8)) dX5_doThing_131 ?_
      refine lv_aload_n hx hb dX5_doThing_134 rfl (lv_at hl 0 rfl) ?_
      refine g_get S hK hP (i := 329) (by omega) cC0 rfl inlX5 5 (by decide) k_25 (v := .ref (a 332)) rfl dX5_doThing_135 ?_
      refine g_get S hK hP (i := 332) (by omega) cC3 rfl inlX4 5 (by decide) k_574 (v := .int (z.2 8 0 5)) (congrArg Value.int (congrFun (fl_8 (t := 0)) 5)) dX5_doThing_138 ?_
      have hB := cP_book (r := z.1 0) hP (hR 0 (by decide))
      refine r_callI S hK hB (c_X1_takePaymentFor l G (fun t => a (47 * (z.1 0) + t)) (gI_book hI (hR 0 (by decide))) (z.2 (z.1 0)) _ _ ) (r_cw S k_307 k_304 k_305 k_306 k_14 q_X1_takePaymentFor ⟨Nat.le_of_ble_eq_true rfl, Nat.le_of_ble_eq_true rfl⟩ rfl rfl) (g_recv hK hB (i := 0) (by omega) bC0 rfl) rfl hl.1 rfl (Nat.le_of_ble_eq_true rfl) dX5_doThing_141 ⟨Nat.zero_le _, Nat.zero_le _⟩ hS (fun _ h => gA_book (hR 0 (by decide)) h) (fun H locs hB hk1 hz1 hS => ?_)
      have hP := cP_join hI (hR 0 (by decide)) hP hB hk1
      have hP : cP G a (zB z (z.1 0) (w_X1_takePaymentFor (z.2 (z.1 0)) (z.2 8 0 8) (z.2 8 0 5))) H := hP
      exact e_int S hr hlk rfl hK hS (cP_eq (show w_X5_doThing z  = zB z (z.1 0) (w_X1_takePaymentFor (z.2 (z.1 0)) (z.2 8 0 8) (z.2 8 0 5)) from (if_neg c1).trans ((if_neg c2).trans ((if_pos c3).trans ((if_pos c4).trans rfl)))) hP) (show v_X5_doThing z  = v_X1_takePaymentFor (z.2 (z.1 0)) (z.2 8 0 8) (z.2 8 0 5) from (if_neg c1).trans ((if_neg c2).trans ((if_pos c3).trans ((if_pos c4).trans rfl)))).symm dX5_doThing_144
    · skip
      refine lv_bipush (v := -4) hx hb dX5_doThing_118 (by decide) ?_
      refine lv_goto (tgt := 144) hx hb dX5_doThing_120 (by decide) ?_
      exact e_int S hr hlk rfl hK hS (cP_eq (show w_X5_doThing z  = z from (if_neg c1).trans ((if_neg c2).trans ((if_pos c3).trans ((if_neg c4).trans rfl)))) hP) (show v_X5_doThing z  = (-4 : Int32) from (if_neg c1).trans ((if_neg c2).trans ((if_pos c3).trans ((if_neg c4).trans rfl)))).symm dX5_doThing_144
  refine (Classical.em (z.2 8 0 3 = 3)).elim (fun c5 => ?_) (fun c5 => ?_)
  · refine lv_tableIn (tgt := 145)  hx hb dX5_doThing_7 (by rw [c5]; decide) (by rw [c5]; decide) (by rw [c5]; rfl) (by decide) ?_
    refine lv_aload_n hx hb dX5_doThing_145 rfl (lv_at hl 0 rfl) ?_
    refine g_get S hK hP (i := 329) (by omega) cC0 rfl inlX5 0 (by decide) k_15 (v := .ref (a (47 * (z.1 0)))) rfl dX5_doThing_146 ?_
    have hB := cP_book (r := z.1 0) hP (hR 0 (by decide))
    refine r_callI S hK hB (c_X1_sendReminders l G (fun t => a (47 * (z.1 0) + t)) (gI_book hI (hR 0 (by decide))) (z.2 (z.1 0)) ) (r_cw S k_376 k_373 k_374 k_375 k_14 q_X1_sendReminders ⟨Nat.le_of_ble_eq_true rfl, Nat.le_of_ble_eq_true rfl⟩ rfl rfl) (g_recv hK hB (i := 0) (by omega) bC0 rfl) rfl hl.1 rfl (Nat.le_of_ble_eq_true rfl) dX5_doThing_149 ⟨Nat.zero_le _, Nat.zero_le _⟩ hS (fun _ h => gA_book (hR 0 (by decide)) h) (fun H locs hB hk1 hz1 hS => ?_)
    have hP := cP_join hI (hR 0 (by decide)) hP hB hk1
    have hP : cP G a (zB z (z.1 0) (w_X1_sendReminders (z.2 (z.1 0)))) H := hP
    exact e_int S hr hlk rfl hK hS (cP_eq (show w_X5_doThing z  = zB z (z.1 0) (w_X1_sendReminders (z.2 (z.1 0))) from (if_neg c1).trans ((if_neg c2).trans ((if_neg c3).trans ((if_pos c5).trans rfl)))) hP) (show v_X5_doThing z  = v_X1_sendReminders (z.2 (z.1 0)) from (if_neg c1).trans ((if_neg c2).trans ((if_neg c3).trans ((if_pos c5).trans rfl)))).symm dX5_doThing_152
  refine lv_tableOut (tgt := 153) hx hb dX5_doThing_7 (by have h0 := lv_neT c1 (a := 0) (by decide); have h1 := lv_neT c2 (a := 1) (by decide); have h2 := lv_neT c3 (a := 2) (by decide); have h3 := lv_neT c5 (a := 3) (by decide); omega) (by decide) ?_
  refine lv_aload_n hx hb dX5_doThing_153 rfl (lv_at hl 0 rfl) ?_
  refine g_get S hK hP (i := 329) (by omega) cC0 rfl inlX5 0 (by decide) k_15 (v := .ref (a (47 * (z.1 0)))) rfl dX5_doThing_154 ?_
  refine lv_aload_n hx hb dX5_doThing_157 rfl (lv_at hl 0 rfl) ?_
  refine g_get S hK hP (i := 329) (by omega) cC0 rfl inlX5 5 (by decide) k_25 (v := .ref (a 332)) rfl dX5_doThing_158 ?_
  refine g_get S hK hP (i := 332) (by omega) cC3 rfl inlX4 7 (by decide) k_576 (v := .int (z.2 8 0 7)) (congrArg Value.int (congrFun (fl_8 (t := 0)) 7)) dX5_doThing_161 ?_
  have hB := cP_book (r := z.1 0) hP (hR 0 (by decide))
  refine r_callI S hK hB (c_X1_goOn l G (fun t => a (47 * (z.1 0) + t)) (gI_book hI (hR 0 (by decide))) (z.2 (z.1 0)) _ ) (r_cw S k_348 k_345 k_346 k_347 k_14 q_X1_goOn ⟨Nat.le_of_ble_eq_true rfl, Nat.le_of_ble_eq_true rfl⟩ rfl rfl) (g_recv hK hB (i := 0) (by omega) bC0 rfl) rfl hl.1 rfl (Nat.le_of_ble_eq_true rfl) dX5_doThing_164 ⟨Nat.zero_le _, Nat.zero_le _⟩ hS (fun _ h => gA_book (hR 0 (by decide)) h) (fun H locs hB hk1 hz1 hS => ?_)
  have hP := cP_join hI (hR 0 (by decide)) hP hB hk1
  have hP : cP G a (zB z (z.1 0) (w_X1_goOn (z.2 (z.1 0)) (z.2 8 0 7))) H := hP
  exact e_int S hr hlk rfl hK hS (cP_eq (show w_X5_doThing z  = zB z (z.1 0) (w_X1_goOn (z.2 (z.1 0)) (z.2 8 0 7)) from (if_neg c1).trans ((if_neg c2).trans ((if_neg c3).trans ((if_neg c5).trans rfl)))) hP) (show v_X5_doThing z  = v_X1_goOn (z.2 (z.1 0)) (z.2 8 0 7) from (if_neg c1).trans ((if_neg c2).trans ((if_neg c3).trans ((if_neg c5).trans rfl)))).symm dX5_doThing_167
theorem doThing_R {z : CS} : (w_X5_doThing z).1 = z.1 := by
  unfold w_X5_doThing
  repeat' split
  all_goals rfl
