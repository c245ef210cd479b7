def v_L_act (z : CS) (p1 : Int32) (p2 : Int32) (p3 : Int32) : Int32 := if p1 = 0 then (v_X5_bill z (v_L_low p2 (3 : Int32)) ((1 : Int32) + (v_L_low p3 (2000 : Int32))) (v_L_low (p2 >>> ((4 : Int32) &&& 31)) (42 : Int32)) (v_L_low (p2 >>> ((10 : Int32) &&& 31)) (30 : Int32))) else if p1 = 1 then (v_X5_bill z (v_L_low p2 (3 : Int32)) ((1 : Int32) + (v_L_low p3 (2000 : Int32))) (v_L_low (p2 >>> ((4 : Int32) &&& 31)) (42 : Int32)) (v_L_low (p2 >>> ((10 : Int32) &&& 31)) (30 : Int32))) else if p1 = 2 then (v_X5_bill z (v_L_low p2 (3 : Int32)) ((1 : Int32) + (v_L_low p3 (2000 : Int32))) (v_L_low (p2 >>> ((4 : Int32) &&& 31)) (42 : Int32)) (v_L_low (p2 >>> ((10 : Int32) &&& 31)) (30 : Int32))) else if p1 = 3 then (v_X5_pay z (v_L_low p2 (3 : Int32)) ((1 : Int32) + (v_L_low p3 (3000 : Int32)))) else if p1 = 4 then (v_X5_pay z (v_L_low p2 (3 : Int32)) ((1 : Int32) + (v_L_low p3 (3000 : Int32)))) else if p1 = 5 then (v_X5_payBill z (v_L_low p2 ((v_X5_count z (1 : Int32)) + (1 : Int32))) ((1 : Int32) + (v_L_low p3 (2500 : Int32)))) else if p1 = 6 then (v_X5_payBill z (v_L_low p2 ((v_X5_count z (1 : Int32)) + (1 : Int32))) ((1 : Int32) + (v_L_low p3 (2500 : Int32)))) else if p1 = 7 then (v_X5_payBack z (v_L_low p2 (3 : Int32))) else if p1 = 8 then (v_X5_pass z ((1 : Int32) + (v_L_low p2 (40 : Int32)))) else if p1 = 9 then (v_X5_pass z ((1 : Int32) + (v_L_low p2 (40 : Int32)))) else if p1 = 10 then (v_X5_pass z ((1 : Int32) + (v_L_low p2 (40 : Int32)))) else if p1 = 11 then (v_X5_remind z) else if p1 = 12 then (v_X5_remind z) else if p1 = 13 then (v_X5_writeOff z (v_L_low p2 ((v_X5_count z (1 : Int32)) + (1 : Int32)))) else if p1 = 14 then (v_X5_closeYear z (v_L_low p2 (4 : Int32))) else if p1 = 15 then (v_X5_set z (v_L_low p2 (6 : Int32)) (v_L_low p3 (25 : Int32))) else v_X5_undo z
def w_L_act (z : CS) (p1 : Int32) (p2 : Int32) (p3 : Int32) : CS := if p1 = 0 then (w_X5_bill z (v_L_low p2 (3 : Int32)) ((1 : Int32) + (v_L_low p3 (2000 : Int32))) (v_L_low (p2 >>> ((4 : Int32) &&& 31)) (42 : Int32)) (v_L_low (p2 >>> ((10 : Int32) &&& 31)) (30 : Int32))) else if p1 = 1 then (w_X5_bill z (v_L_low p2 (3 : Int32)) ((1 : Int32) + (v_L_low p3 (2000 : Int32))) (v_L_low (p2 >>> ((4 : Int32) &&& 31)) (42 : Int32)) (v_L_low (p2 >>> ((10 : Int32) &&& 31)) (30 : Int32))) else if p1 = 2 then (w_X5_bill z (v_L_low p2 (3 : Int32)) ((1 : Int32) + (v_L_low p3 (2000 : Int32))) (v_L_low (p2 >>> ((4 : Int32) &&& 31)) (42 : Int32)) (v_L_low (p2 >>> ((10 : Int32) &&& 31)) (30 : Int32))) else if p1 = 3 then (w_X5_pay z (v_L_low p2 (3 : Int32)) ((1 : Int32) + (v_L_low p3 (3000 : Int32)))) else if p1 = 4 then (w_X5_pay z (v_L_low p2 (3 : Int32)) ((1 : Int32) + (v_L_low p3 (3000 : Int32)))) else if p1 = 5 then (w_X5_payBill z (v_L_low p2 ((v_X5_count z (1 : Int32)) + (1 : Int32))) ((1 : Int32) + (v_L_low p3 (2500 : Int32)))) else if p1 = 6 then (w_X5_payBill z (v_L_low p2 ((v_X5_count z (1 : Int32)) + (1 : Int32))) ((1 : Int32) + (v_L_low p3 (2500 : Int32)))) else if p1 = 7 then (w_X5_payBack z (v_L_low p2 (3 : Int32))) else if p1 = 8 then (w_X5_pass z ((1 : Int32) + (v_L_low p2 (40 : Int32)))) else if p1 = 9 then (w_X5_pass z ((1 : Int32) + (v_L_low p2 (40 : Int32)))) else if p1 = 10 then (w_X5_pass z ((1 : Int32) + (v_L_low p2 (40 : Int32)))) else if p1 = 11 then (w_X5_remind z) else if p1 = 12 then (w_X5_remind z) else if p1 = 13 then (w_X5_writeOff z (v_L_low p2 ((v_X5_count z (1 : Int32)) + (1 : Int32)))) else if p1 = 14 then (w_X5_closeYear z (v_L_low p2 (4 : Int32))) else if p1 = 15 then (w_X5_set z (v_L_low p2 (6 : Int32)) (v_L_low p3 (25 : Int32))) else w_X5_undo z
theorem q_L_act : yL_act.cls ≠ "java/lang/invoke/MethodHandle" ∧ yL_act.cls ≠ "java/lang/invoke/VarHandle" ∧ (parseMethodDescriptor yL_act.desc).map (fun d => d.parameters.length) = some 4 := ⟨by decide, by decide, by decide +kernel⟩
set_option maxHeartbeats 4000000 in
set_option maxRecDepth 100000 in
theorem c_L_act (l : Launch) (G : kG) (a : Nat → Nat) (hI : gI 334 a) (z : CS) (t1 t2 : Nat) (p1 : Int32) (p2 : Int32) (p3 : Int32) (hR : RI z.1) (hJ : RJ z.1) : Met l yL_act (Cond.code yL_act cL_act 5 (some .int) :: BIG) (rmK 5) (pcX G (cP G a z) (gA 334 a) t1 t2 [.ref (a 329), .int p1, .int p2, .int p3]) (qcI G (gA 334 a) (cP G a (w_L_act z p1 p2 p3)) (v_L_act z p1 p2 p3)) 0 0 (gA 334 a) := by
  refine m_startX (by decide) (Nat.le_of_ble_eq_true rfl) ?_
  intro p e s m args below meth c S hr hlk hnm hP hK hX ls hl
  have hx := S.1
  have hb := S.2.1
  have hown := S.2.2.2.1
  have hS : va_S (gA 334 a) s.heap s.heap [] := va_S.rf
  have hl : lv_has ls 5 [(0, .ref (a 329)), (1, .int p1), (2, .int p2), (3, .int p3)] := hl
  refine lv_iload_n hx hb dL_act_0 rfl (lv_at hl 2 rfl) ?_
  refine lv_iconst (v := 3) hx hb dL_act_1 (by decide) ?_
  refine r_callS S hK hP (c_L_low l G (cP G a z) (gA 334 a) _ _ (by decide)) (r_cs S k_278 k_276 k_277 k_62 q_L_low ⟨Nat.le_of_ble_eq_true rfl, Nat.le_of_ble_eq_true rfl⟩ rfl rfl) rfl hl.1 rfl (Nat.le_of_ble_eq_true rfl) dL_act_2 ⟨Nat.zero_le _, Nat.zero_le _⟩ hS (fun _ h => h) (fun H locs hP _ _ hS => ?_)
  have hP : cP G a z H := hP
  refine lv_istore (lv' := [(4, .int (v_L_low p2 (3 : Int32))), (0, .ref (a 329)), (1, .int p1), (2, .int p2), (3, .int p3)]) hx hb dL_act_5 hl (by decide) rfl (fun ls hl => ?_)
  refine lv_iload_n hx hb dL_act_7 rfl (lv_at hl 2 rfl) ?_
  refine (Classical.em (p1 = 0)).elim (fun c1 => ?_) (fun c1 => ?_)
  · refine lv_tableIn (tgt := 88)  hx hb dL_act_8 (by rw [c1]; decide) (by rw [c1]; decide) (by rw [c1]; rfl) (by decide) ?_
    refine lv_aload_n hx hb dL_act_88 rfl (lv_at hl 1 rfl) ?_
    refine lv_iload hx hb dL_act_89 (lv_at hl 0 rfl) ?_
    refine lv_iconst (v := 1) hx hb dL_act_91 (by decide) ?_
    refine lv_iload_n hx hb dL_act_92 rfl (lv_at hl 4 rfl) ?_
    refine lv_sipush (v := 2000) hx hb dL_act_93 (by decide) ?_
    refine r_callS S hK hP (c_L_low l G (cP G a z) (gA 334 a) _ _ (by decide)) (r_cs S k_278 k_276 k_277 k_62 q_L_low ⟨Nat.le_of_ble_eq_true rfl, Nat.le_of_ble_eq_true rfl⟩ rfl rfl) rfl hl.1 rfl (Nat.le_of_ble_eq_true rfl) dL_act_96 ⟨Nat.zero_le _, Nat.zero_le _⟩ hS (fun _ h => h) (fun H locs hP _ _ hS => ?_)
    have hP : cP G a z H := hP
    refine lv_iadd hx hb dL_act_99 ?_
    refine lv_iload_n hx hb dL_act_100 rfl (lv_at hl 3 rfl) ?_
    refine lv_iconst (v := 4) hx hb dL_act_101 (by decide) ?_
    refine lv_ishr hx hb dL_act_102 ?_
    refine lv_bipush (v := 42) hx hb dL_act_103 (by decide) ?_
    refine r_callS S hK hP (c_L_low l G (cP G a z) (gA 334 a) _ _ (by decide)) (r_cs S k_278 k_276 k_277 k_62 q_L_low ⟨Nat.le_of_ble_eq_true rfl, Nat.le_of_ble_eq_true rfl⟩ rfl rfl) rfl hl.1 rfl (Nat.le_of_ble_eq_true rfl) dL_act_105 ⟨Nat.zero_le _, Nat.zero_le _⟩ hS (fun _ h => h) (fun H locs hP _ _ hS => ?_)
    have hP : cP G a z H := hP
    refine lv_iload_n hx hb dL_act_108 rfl (lv_at hl 3 rfl) ?_
    refine lv_bipush (v := 10) hx hb dL_act_109 (by decide) ?_
    refine lv_ishr hx hb dL_act_111 ?_
    refine lv_bipush (v := 30) hx hb dL_act_112 (by decide) ?_
    refine r_callS S hK hP (c_L_low l G (cP G a z) (gA 334 a) _ _ (by decide)) (r_cs S k_278 k_276 k_277 k_62 q_L_low ⟨Nat.le_of_ble_eq_true rfl, Nat.le_of_ble_eq_true rfl⟩ rfl rfl) rfl hl.1 rfl (Nat.le_of_ble_eq_true rfl) dL_act_114 ⟨Nat.zero_le _, Nat.zero_le _⟩ hS (fun _ h => h) (fun H locs hP _ _ hS => ?_)
    have hP : cP G a z H := hP
    refine r_callI S hK hP (c_X5_bill l G a hI z _ _ _ _ hR hJ) (r_cw S k_286 k_283 k_284 k_285 k_2 q_X5_bill ⟨Nat.le_of_ble_eq_true rfl, Nat.le_of_ble_eq_true rfl⟩ rfl rfl) (g_recv hK hP (i := 329) (by omega) cC0 rfl) rfl hl.1 rfl (Nat.le_of_ble_eq_true rfl) dL_act_117 ⟨Nat.zero_le _, Nat.zero_le _⟩ hS (fun _ h => h) (fun H locs hP _ _ hS => ?_)
    have hP : cP G a (w_X5_bill z (v_L_low p2 (3 : Int32)) ((1 : Int32) + (v_L_low p3 (2000 : Int32))) (v_L_low (p2 >>> ((4 : Int32) &&& 31)) (42 : Int32)) (v_L_low (p2 >>> ((10 : Int32) &&& 31)) (30 : Int32))) H := hP
    exact e_int S hr hlk rfl hK hS (cP_eq (show w_L_act z p1 p2 p3 = w_X5_bill z (v_L_low p2 (3 : Int32)) ((1 : Int32) + (v_L_low p3 (2000 : Int32))) (v_L_low (p2 >>> ((4 : Int32) &&& 31)) (42 : Int32)) (v_L_low (p2 >>> ((10 : Int32) &&& 31)) (30 : Int32)) from (if_pos c1).trans rfl) hP) (show v_L_act z p1 p2 p3 = v_X5_bill z (v_L_low p2 (3 : Int32)) ((1 : Int32) + (v_L_low p3 (2000 : Int32))) (v_L_low (p2 >>> ((4 : Int32) &&& 31)) (42 : Int32)) (v_L_low (p2 >>> ((10 : Int32) &&& 31)) (30 : Int32)) from (if_pos c1).trans rfl).symm dL_act_120
  refine (Classical.em (p1 = 1)).elim (fun c2 => ?_) (fun c2 => ?_)
  · refine lv_tableIn (tgt := 88)  hx hb dL_act_8 (by rw [c2]; decide) (by rw [c2]; decide) (by rw [c2]; rfl) (by decide) ?_
    refine lv_aload_n hx hb dL_act_88 rfl (lv_at hl 1 rfl) ?_
    refine lv_iload hx hb dL_act_89 (lv_at hl 0 rfl) ?_
    refine lv_iconst (v := 1) hx hb dL_act_91 (by decide) ?_
    refine lv_iload_n hx hb dL_act_92 rfl (lv_at hl 4 rfl) ?_
    refine lv_sipush (v := 2000) hx hb dL_act_93 (by decide) ?_
    refine r_callS S hK hP (c_L_low l G (cP G a z) (gA 334 a) _ _ (by decide)) (r_cs S k_278 k_276 k_277 k_62 q_L_low ⟨Nat.le_of_ble_eq_true rfl, Nat.le_of_ble_eq_true rfl⟩ rfl rfl) rfl hl.1 rfl (Nat.le_of_ble_eq_true rfl) dL_act_96 ⟨Nat.zero_le _, Nat.zero_le _⟩ hS (fun _ h => h) (fun H locs hP _ _ hS => ?_)
    have hP : cP G a z H := hP
    refine lv_iadd hx hb dL_act_99 ?_
    refine lv_iload_n hx hb dL_act_100 rfl (lv_at hl 3 rfl) ?_
    refine lv_iconst (v := 4) hx hb dL_act_101 (by decide) ?_
    refine lv_ishr hx hb dL_act_102 ?_
    refine lv_bipush (v := 42) hx hb dL_act_103 (by decide) ?_
    refine r_callS S hK hP (c_L_low l G (cP G a z) (gA 334 a) _ _ (by decide)) (r_cs S k_278 k_276 k_277 k_62 q_L_low ⟨Nat.le_of_ble_eq_true rfl, Nat.le_of_ble_eq_true rfl⟩ rfl rfl) rfl hl.1 rfl (Nat.le_of_ble_eq_true rfl) dL_act_105 ⟨Nat.zero_le _, Nat.zero_le _⟩ hS (fun _ h => h) (fun H locs hP _ _ hS => ?_)
    have hP : cP G a z H := hP
    refine lv_iload_n hx hb dL_act_108 rfl (lv_at hl 3 rfl) ?_
    refine lv_bipush (v := 10) hx hb dL_act_109 (by decide) ?_
    refine lv_ishr hx hb dL_act_111 ?_
    refine lv_bipush (v := 30) hx hb dL_act_112 (by decide) ?_
    refine r_callS S hK hP (c_L_low l G (cP G a z) (gA 334 a) _ _ (by decide)) (r_cs S k_278 k_276 k_277 k_62 q_L_low ⟨Nat.le_of_ble_eq_true rfl, Nat.le_of_ble_eq_true rfl⟩ rfl rfl) rfl hl.1 rfl (Nat.le_of_ble_eq_true rfl) dL_act_114 ⟨Nat.zero_le _, Nat.zero_le _⟩ hS (fun _ h => h) (fun H locs hP _ _ hS => ?_)
    have hP : cP G a z H := hP
    refine r_callI S hK hP (c_X5_bill l G a hI z _ _ _ _ hR hJ) (r_cw S k_286 k_283 k_284 k_285 k_2 q_X5_bill ⟨Nat.le_of_ble_eq_true rfl, Nat.le_of_ble_eq_true rfl⟩ rfl rfl) (g_recv hK hP (i := 329) (by omega) cC0 rfl) rfl hl.1 rfl (Nat.le_of_ble_eq_true rfl) dL_act_117 ⟨Nat.zero_le _, Nat.zero_le _⟩ hS (fun _ h => h) (fun H locs hP _ _ hS => ?_)
    have hP : cP G a (w_X5_bill z (v_L_low p2 (3 : Int32)) ((1 : Int32) + (v_L_low p3 (2000 : Int32))) (v_L_low (p2 >>> ((4 : Int32) &&& 31)) (42 : Int32)) (v_L_low (p2 >>> ((10 : Int32) &&& 31)) (30 : Int32))) H := hP
    exact e_int S hr hlk rfl hK hS (cP_eq (show w_L_act z p1 p2 p3 = w_X5_bill z (v_L_low p2 (3 : Int32)) ((1 : Int32) + (v_L_low p3 (2000 : Int32))) (v_L_low (p2 >>> ((4 : Int32) &&& 31)) (42 : Int32)) (v_L_low (p2 >>> ((10 : Int32) &&& 31)) (30 : Int32)) from (if_neg c1).trans ((if_pos c2).trans rfl)) hP) (show v_L_act z p1 p2 p3 = v_X5_bill z (v_L_low p2 (3 : Int32)) ((1 : Int32) + (v_L_low p3 (2000 : Int32))) (v_L_low (p2 >>> ((4 : Int32) &&& 31)) (42 : Int32)) (v_L_low (p2 >>> ((10 : Int32) &&& 31)) (30 : Int32)) from (if_neg c1).trans ((if_pos c2).trans rfl)).symm dL_act_120
  refine (Classical.em (p1 = 2)).elim (fun c3 => ?_) (fun c3 => ?_)
  · refine lv_tableIn (tgt := 88)  hx hb dL_act_8 (by rw [c3]; decide) (by rw [c3]; decide) (by rw [c3]; rfl) (by decide) ?_
    refine lv_aload_n hx hb dL_act_88 rfl (lv_at hl 1 rfl) ?_
    refine lv_iload hx hb dL_act_89 (lv_at hl 0 rfl) ?_
    refine lv_iconst (v := 1) hx hb dL_act_91 (by decide) ?_
    refine lv_iload_n hx hb dL_act_92 rfl (lv_at hl 4 rfl) ?_
    refine lv_sipush (v := 2000) hx hb dL_act_93 (by decide) ?_
    refine r_callS S hK hP (c_L_low l G (cP G a z) (gA 334 a) _ _ (by decide)) (r_cs S k_278 k_276 k_277 k_62 q_L_low ⟨Nat.le_of_ble_eq_true rfl, Nat.le_of_ble_eq_true rfl⟩ rfl rfl) rfl hl.1 rfl (Nat.le_of_ble_eq_true rfl) dL_act_96 ⟨Nat.zero_le _, Nat.zero_le _⟩ hS (fun _ h => h) (fun H locs hP _ _ hS => ?_)
    have hP : cP G a z H := hP
    refine lv_iadd hx hb dL_act_99 ?_
    refine lv_iload_n hx hb dL_act_100 rfl (lv_at hl 3 rfl) ?_
    refine lv_iconst (v := 4) hx hb dL_act_101 (by decide) ?_
    refine lv_ishr hx hb dL_act_102 ?_
    refine lv_bipush (v := 42) hx hb dL_act_103 (by decide) ?_
    refine r_callS S hK hP (c_L_low l G (cP G a z) (gA 334 a) _ _ (by decide)) (r_cs S k_278 k_276 k_277 k_62 q_L_low ⟨Nat.le_of_ble_eq_true rfl, Nat.le_of_ble_eq_true rfl⟩ rfl rfl) rfl hl.1 rfl (Nat.le_of_ble_eq_true rfl) dL_act_105 ⟨Nat.zero_le _, Nat.zero_le _⟩ hS (fun _ h => h) (fun H locs hP _ _ hS => ?_)
    have hP : cP G a z H := hP
    refine lv_iload_n hx hb dL_act_108 rfl (lv_at hl 3 rfl) ?_
    refine lv_bipush (v := 10) hx hb dL_act_109 (by decide) ?_
    refine lv_ishr hx hb dL_act_111 ?_
    refine lv_bipush (v := 30) hx hb dL_act_112 (by decide) ?_
    refine r_callS S hK hP (c_L_low l G (cP G a z) (gA 334 a) _ _ (by decide)) (r_cs S k_278 k_276 k_277 k_62 q_L_low ⟨Nat.le_of_ble_eq_true rfl, Nat.le_of_ble_eq_true rfl⟩ rfl rfl) rfl hl.1 rfl (Nat.le_of_ble_eq_true rfl) dL_act_114 ⟨Nat.zero_le _, Nat.zero_le _⟩ hS (fun _ h => h) (fun H locs hP _ _ hS => ?_)
    have hP : cP G a z H := hP
    refine r_callI S hK hP (c_X5_bill l G a hI z _ _ _ _ hR hJ) (r_cw S k_286 k_283 k_284 k_285 k_2 q_X5_bill ⟨Nat.le_of_ble_eq_true rfl, Nat.le_of_ble_eq_true rfl⟩ rfl rfl) (g_recv hK hP (i := 329) (by omega) cC0 rfl) rfl hl.1 rfl (Nat.le_of_ble_eq_true rfl) dL_act_117 ⟨Nat.zero_le _, Nat.zero_le _⟩ hS (fun _ h => h) (fun H locs hP _ _ hS => ?_)
    have hP : cP G a (w_X5_bill z (v_L_low p2 (3 : Int32)) ((1 : Int32) + (v_L_low p3 (2000 : Int32))) (v_L_low (p2 >>> ((4 : Int32) &&& 31)) (42 : Int32)) (v_L_low (p2 >>> ((10 : Int32) &&& 31)) (30 : Int32))) H := hP
    exact e_int S hr hlk rfl hK hS (cP_eq (show w_L_act z p1 p2 p3 = w_X5_bill z (v_L_low p2 (3 : Int32)) ((1 : Int32) + (v_L_low p3 (2000 : Int32))) (v_L_low (p2 >>> ((4 : Int32) &&& 31)) (42 : Int32)) (v_L_low (p2 >>> ((10 : Int32) &&& 31)) (30 : Int32)) from (if_neg c1).trans ((if_neg c2).trans ((if_pos c3).trans rfl))) hP) (show v_L_act z p1 p2 p3 = v_X5_bill z (v_L_low p2 (3 : Int32)) ((1 : Int32) + (v_L_low p3 (2000 : Int32))) (v_L_low (p2 >>> ((4 : Int32) &&& 31)) (42 : Int32)) (v_L_low (p2 >>> ((10 : Int32) &&& 31)) (30 : Int32)) from (if_neg c1).trans ((if_neg c2).trans ((if_pos c3).trans rfl))).symm dL_act_120
  refine (Classical.em (p1 = 3)).elim (fun c4 => ?_) (fun c4 => ?_)
  · refine lv_tableIn (tgt := 121)  hx hb dL_act_8 (by rw [c4]; decide) (by rw [c4]; decide) (by rw [c4]; rfl) (by decide) ?_
    refine lv_aload_n hx hb dL_act_121 rfl (lv_at hl 1 rfl) ?_
    refine lv_iload hx hb dL_act_122 (lv_at hl 0 rfl) ?_
    refine lv_iconst (v := 1) hx hb dL_act_124 (by decide) ?_
    refine lv_iload_n hx hb dL_act_125 rfl (lv_at hl 4 rfl) ?_
    refine lv_sipush (v := 3000) hx hb dL_act_126 (by decide) ?_
    refine r_callS S hK hP (c_L_low l G (cP G a z) (gA 334 a) _ _ (by decide)) (r_cs S k_278 k_276 k_277 k_62 q_L_low ⟨Nat.le_of_ble_eq_true rfl, Nat.le_of_ble_eq_true rfl⟩ rfl rfl) rfl hl.1 rfl (Nat.le_of_ble_eq_true rfl) dL_act_129 ⟨Nat.zero_le _, Nat.zero_le _⟩ hS (fun _ h => h) (fun H locs hP _ _ hS => ?_)
    have hP : cP G a z H := hP
    refine lv_iadd hx hb dL_act_132 ?_
    refine r_callI S hK hP (c_X5_pay l G a hI z _ _ hR hJ) (r_cw S k_350 k_347 k_348 k_349 k_2 q_X5_pay ⟨Nat.le_of_ble_eq_true rfl, Nat.le_of_ble_eq_true rfl⟩ rfl rfl) (g_recv hK hP (i := 329) (by omega) cC0 rfl) rfl hl.1 rfl (Nat.le_of_ble_eq_true rfl) dL_act_133 ⟨Nat.zero_le _, Nat.zero_le _⟩ hS (fun _ h => h) (fun H locs hP _ _ hS => ?_)
    have hP : cP G a (w_X5_pay z (v_L_low p2 (3 : Int32)) ((1 : Int32) + (v_L_low p3 (3000 : Int32)))) H := hP
    exact e_int S hr hlk rfl hK hS (cP_eq (show w_L_act z p1 p2 p3 = w_X5_pay z (v_L_low p2 (3 : Int32)) ((1 : Int32) + (v_L_low p3 (3000 : Int32))) from (if_neg c1).trans ((if_neg c2).trans ((if_neg c3).trans ((if_pos c4).trans rfl)))) hP) (show v_L_act z p1 p2 p3 = v_X5_pay z (v_L_low p2 (3 : Int32)) ((1 : Int32) + (v_L_low p3 (3000 : Int32))) from (if_neg c1).trans ((if_neg c2).trans ((if_neg c3).trans ((if_pos c4).trans rfl)))).symm dL_act_136
  refine (Classical.em (p1 = 4)).elim (fun c5 => ?_) (fun c5 => ?_)
  · refine lv_tableIn (tgt := 121)  hx hb dL_act_8 (by rw [c5]; decide) (by rw [c5]; decide) (by rw [c5]; rfl) (by decide) ?_
    refine lv_aload_n hx hb dL_act_121 rfl (lv_at hl 1 rfl) ?_
    refine lv_iload hx hb dL_act_122 (lv_at hl 0 rfl) ?_
    refine lv_iconst (v := 1) hx hb dL_act_124 (by decide) ?_
    refine lv_iload_n hx hb dL_act_125 rfl (lv_at hl 4 rfl) ?_
    refine lv_sipush (v := 3000) hx hb dL_act_126 (by decide) ?_
    refine r_callS S hK hP (c_L_low l G (cP G a z) (gA 334 a) _ _ (by decide)) (r_cs S k_278 k_276 k_277 k_62 q_L_low ⟨Nat.le_of_ble_eq_true rfl, Nat.le_of_ble_eq_true rfl⟩ rfl rfl) rfl hl.1 rfl (Nat.le_of_ble_eq_true rfl) dL_act_129 ⟨Nat.zero_le _, Nat.zero_le _⟩ hS (fun _ h => h) (fun H locs hP _ _ hS => ?_)
    have hP : cP G a z H := hP
    refine lv_iadd hx hb dL_act_132 ?_
    refine r_callI S hK hP (c_X5_pay l G a hI z _ _ hR hJ) (r_cw S k_350 k_347 k_348 k_349 k_2 q_X5_pay ⟨Nat.le_of_ble_eq_true rfl, Nat.le_of_ble_eq_true rfl⟩ rfl rfl) (g_recv hK hP (i := 329) (by omega) cC0 rfl) rfl hl.1 rfl (Nat.le_of_ble_eq_true rfl) dL_act_133 ⟨Nat.zero_le _, Nat.zero_le _⟩ hS (fun _ h => h) (fun H locs hP _ _ hS => ?_)
    have hP : cP G a (w_X5_pay z (v_L_low p2 (3 : Int32)) ((1 : Int32) + (v_L_low p3 (3000 : Int32)))) H := hP
    exact e_int S hr hlk rfl hK hS (cP_eq (show w_L_act z p1 p2 p3 = w_X5_pay z (v_L_low p2 (3 : Int32)) ((1 : Int32) + (v_L_low p3 (3000 : Int32))) from (if_neg c1).trans ((if_neg c2).trans ((if_neg c3).trans ((if_neg c4).trans ((if_pos c5).trans rfl))))) hP) (show v_L_act z p1 p2 p3 = v_X5_pay z (v_L_low p2 (3 : Int32)) ((1 : Int32) + (v_L_low p3 (3000 : Int32))) from (if_neg c1).trans ((if_neg c2).trans ((if_neg c3).trans ((if_neg c4).trans ((if_pos c5).trans rfl))))).symm dL_act_136
  refine (Classical.em (p1 = 5)).elim (fun c6 => ?_) (fun c6 => ?_)
  · refine lv_tableIn (tgt := 137)  hx hb dL_act_8 (by rw [c6]; decide) (by rw [c6]; decide) (by rw [c6]; rfl) (by decide) ?_
    refine lv_aload_n hx hb dL_act_137 rfl (lv_at hl 1 rfl) ?_
    refine lv_iload_n hx hb dL_act_138 rfl (lv_at hl 3 rfl) ?_
    refine lv_aload_n hx hb dL_act_139 rfl (lv_at hl 1 rfl) ?_
    refine lv_iconst (v := 1) hx hb dL_act_140 (by decide) ?_
    refine r_callI S hK hP (c_X5_count l G a hI z _ hR hJ) (r_cw S k_67 k_64 k_65 k_66 k_2 q_X5_count ⟨Nat.le_of_ble_eq_true rfl, Nat.le_of_ble_eq_true rfl⟩ rfl rfl) (g_recv hK hP (i := 329) (by omega) cC0 rfl) rfl hl.1 rfl (Nat.le_of_ble_eq_true rfl) dL_act_141 ⟨Nat.zero_le _, Nat.zero_le _⟩ hS (fun _ h => h) (fun H locs hP _ _ hS => ?_)
    have hP : cP G a z H := hP
    refine lv_iconst (v := 1) hx hb dL_act_144 (by decide) ?_
    refine lv_iadd hx hb dL_act_145 ?_
    refine r_callS S hK hP (c_L_low l G (cP G a z) (gA 334 a) _ _ (lo_n _)) (r_cs S k_278 k_276 k_277 k_62 q_L_low ⟨Nat.le_of_ble_eq_true rfl, Nat.le_of_ble_eq_true rfl⟩ rfl rfl) rfl hl.1 rfl (Nat.le_of_ble_eq_true rfl) dL_act_146 ⟨Nat.zero_le _, Nat.zero_le _⟩ hS (fun _ h => h) (fun H locs hP _ _ hS => ?_)
    have hP : cP G a z H := hP
    refine lv_iconst (v := 1) hx hb dL_act_149 (by decide) ?_
    refine lv_iload_n hx hb dL_act_150 rfl (lv_at hl 4 rfl) ?_
    refine lv_sipush (v := 2500) hx hb dL_act_151 (by decide) ?_
    refine r_callS S hK hP (c_L_low l G (cP G a z) (gA 334 a) _ _ (by decide)) (r_cs S k_278 k_276 k_277 k_62 q_L_low ⟨Nat.le_of_ble_eq_true rfl, Nat.le_of_ble_eq_true rfl⟩ rfl rfl) rfl hl.1 rfl (Nat.le_of_ble_eq_true rfl) dL_act_154 ⟨Nat.zero_le _, Nat.zero_le _⟩ hS (fun _ h => h) (fun H locs hP _ _ hS => ?_)
    have hP : cP G a z H := hP
    refine lv_iadd hx hb dL_act_157 ?_
    refine r_callI S hK hP (c_X5_payBill l G a hI z _ _ hR hJ) (r_cw S k_366 k_363 k_364 k_365 k_2 q_X5_payBill ⟨Nat.le_of_ble_eq_true rfl, Nat.le_of_ble_eq_true rfl⟩ rfl rfl) (g_recv hK hP (i := 329) (by omega) cC0 rfl) rfl hl.1 rfl (Nat.le_of_ble_eq_true rfl) dL_act_158 ⟨Nat.zero_le _, Nat.zero_le _⟩ hS (fun _ h => h) (fun H locs hP _ _ hS => ?_)
    have hP : cP G a (w_X5_payBill z (v_L_low p2 ((v_X5_count z (1 : Int32)) + (1 : Int32))) ((1 : Int32) + (v_L_low p3 (2500 : Int32)))) H := hP
    exact e_int S hr hlk rfl hK hS (cP_eq (show w_L_act z p1 p2 p3 = w_X5_payBill z (v_L_low p2 ((v_X5_count z (1 : Int32)) + (1 : Int32))) ((1 : Int32) + (v_L_low p3 (2500 : Int32))) from (if_neg c1).trans ((if_neg c2).trans ((if_neg c3).trans ((if_neg c4).trans ((if_neg c5).trans ((if_pos c6).trans rfl)))))) hP) (show v_L_act z p1 p2 p3 = v_X5_payBill z (v_L_low p2 ((v_X5_count z (1 : Int32)) + (1 : Int32))) ((1 : Int32) + (v_L_low p3 (2500 : Int32))) from (if_neg c1).trans ((if_neg c2).trans ((if_neg c3).trans ((if_neg c4).trans ((if_neg c5).trans ((if_pos c6).trans rfl)))))).symm dL_act_161
  refine (Classical.em (p1 = 6)).elim (fun c7 => ?_) (fun c7 => ?_)
  · refine lv_tableIn (tgt := 137)  hx hb dL_act_8 (by rw [c7]; decide) (by rw [c7]; decide) (by rw [c7]; rfl) (by decide) ?_
    refine lv_aload_n hx hb dL_act_137 rfl (lv_at hl 1 rfl) ?_
    refine lv_iload_n hx hb dL_act_138 rfl (lv_at hl 3 rfl) ?_
    refine lv_aload_n hx hb dL_act_139 rfl (lv_at hl 1 rfl) ?_
    refine lv_iconst (v := 1) hx hb dL_act_140 (by decide) ?_
    refine r_callI S hK hP (c_X5_count l G a hI z _ hR hJ) (r_cw S k_67 k_64 k_65 k_66 k_2 q_X5_count ⟨Nat.le_of_ble_eq_true rfl, Nat.le_of_ble_eq_true rfl⟩ rfl rfl) (g_recv hK hP (i := 329) (by omega) cC0 rfl) rfl hl.1 rfl (Nat.le_of_ble_eq_true rfl) dL_act_141 ⟨Nat.zero_le _, Nat.zero_le _⟩ hS (fun _ h => h) (fun H locs hP _ _ hS => ?_)
    have hP : cP G a z H := hP
    refine lv_iconst (v := 1) hx hb dL_act_144 (by decide) ?_
    refine lv_iadd hx hb dL_act_145 ?_
    refine r_callS S hK hP (c_L_low l G (cP G a z) (gA 334 a) _ _ (lo_n _)) (r_cs S k_278 k_276 k_277 k_62 q_L_low ⟨Nat.le_of_ble_eq_true rfl, Nat.le_of_ble_eq_true rfl⟩ rfl rfl) rfl hl.1 rfl (Nat.le_of_ble_eq_true rfl) dL_act_146 ⟨Nat.zero_le _, Nat.zero_le _⟩ hS (fun _ h => h) (fun H locs hP _ _ hS => ?_)
    have hP : cP G a z H := hP
    refine lv_iconst (v := 1) hx hb dL_act_149 (by decide) ?_
    refine lv_iload_n hx hb dL_act_150 rfl (lv_at hl 4 rfl) ?_
    refine lv_sipush (v := 2500) hx hb dL_act_151 (by decide) ?_
    refine r_callS S hK hP (c_L_low l G (cP G a z) (gA 334 a) _ _ (by decide)) (r_cs S k_278 k_276 k_277 k_62 q_L_low ⟨Nat.le_of_ble_eq_true rfl, Nat.le_of_ble_eq_true rfl⟩ rfl rfl) rfl hl.1 rfl (Nat.le_of_ble_eq_true rfl) dL_act_154 ⟨Nat.zero_le _, Nat.zero_le _⟩ hS (fun _ h => h) (fun H locs hP _ _ hS => ?_)
    have hP : cP G a z H := hP
    refine lv_iadd hx hb dL_act_157 ?_
    refine r_callI S hK hP (c_X5_payBill l G a hI z _ _ hR hJ) (r_cw S k_366 k_363 k_364 k_365 k_2 q_X5_payBill ⟨Nat.le_of_ble_eq_true rfl, Nat.le_of_ble_eq_true rfl⟩ rfl rfl) (g_recv hK hP (i := 329) (by omega) cC0 rfl) rfl hl.1 rfl (Nat.le_of_ble_eq_true rfl) dL_act_158 ⟨Nat.zero_le _, Nat.zero_le _⟩ hS (fun _ h => h) (fun H locs hP _ _ hS => ?_)
    have hP : cP G a (w_X5_payBill z (v_L_low p2 ((v_X5_count z (1 : Int32)) + (1 : Int32))) ((1 : Int32) + (v_L_low p3 (2500 : Int32)))) H := hP
    exact e_int S hr hlk rfl hK hS (cP_eq (show w_L_act z p1 p2 p3 = w_X5_payBill z (v_L_low p2 ((v_X5_count z (1 : Int32)) + (1 : Int32))) ((1 : Int32) + (v_L_low p3 (2500 : Int32))) from (if_neg c1).trans ((if_neg c2).trans ((if_neg c3).trans ((if_neg c4).trans ((if_neg c5).trans ((if_neg c6).trans ((if_pos c7).trans rfl))))))) hP) (show v_L_act z p1 p2 p3 = v_X5_payBill z (v_L_low p2 ((v_X5_count z (1 : Int32)) + (1 : Int32))) ((1 : Int32) + (v_L_low p3 (2500 : Int32))) from (if_neg c1).trans ((if_neg c2).trans ((if_neg c3).trans ((if_neg c4).trans ((if_neg c5).trans ((if_neg c6).trans ((if_pos c7).trans rfl))))))).symm dL_act_161
  refine (Classical.em (p1 = 7)).elim (fun c8 => ?_) (fun c8 => ?_)
  · refine lv_tableIn (tgt := 162)  hx hb dL_act_8 (by rw [c8]; decide) (by rw [c8]; decide) (by rw [c8]; rfl) (by decide) ?_
    refine lv_aload_n hx hb dL_act_162 rfl (lv_at hl 1 rfl) ?_
    refine lv_iload hx hb dL_act_163 (lv_at hl 0 rfl) ?_
    refine r_callI S hK hP (c_X5_payBack l G a hI z _ hR hJ) (r_cw S k_376 k_373 k_374 k_375 k_2 q_X5_payBack ⟨Nat.le_of_ble_eq_true rfl, Nat.le_of_ble_eq_true rfl⟩ rfl rfl) (g_recv hK hP (i := 329) (by omega) cC0 rfl) rfl hl.1 rfl (Nat.le_of_ble_eq_true rfl) dL_act_165 ⟨Nat.zero_le _, Nat.zero_le _⟩ hS (fun _ h => h) (fun H locs hP _ _ hS => ?_)
    have hP : cP G a (w_X5_payBack z (v_L_low p2 (3 : Int32))) H := hP
    exact e_int S hr hlk rfl hK hS (cP_eq (show w_L_act z p1 p2 p3 = w_X5_payBack z (v_L_low p2 (3 : Int32)) from (if_neg c1).trans ((if_neg c2).trans ((if_neg c3).trans ((if_neg c4).trans ((if_neg c5).trans ((if_neg c6).trans ((if_neg c7).trans ((if_pos c8).trans rfl)))))))) hP) (show v_L_act z p1 p2 p3 = v_X5_payBack z (v_L_low p2 (3 : Int32)) from (if_neg c1).trans ((if_neg c2).trans ((if_neg c3).trans ((if_neg c4).trans ((if_neg c5).trans ((if_neg c6).trans ((if_neg c7).trans ((if_pos c8).trans rfl)))))))).symm dL_act_168
  refine (Classical.em (p1 = 8)).elim (fun c9 => ?_) (fun c9 => ?_)
  · refine lv_tableIn (tgt := 169)  hx hb dL_act_8 (by rw [c9]; decide) (by rw [c9]; decide) (by rw [c9]; rfl) (by decide) ?_
    refine lv_aload_n hx hb dL_act_169 rfl (lv_at hl 1 rfl) ?_
    refine lv_iconst (v := 1) hx hb dL_act_170 (by decide) ?_
    refine lv_iload_n hx hb dL_act_171 rfl (lv_at hl 3 rfl) ?_
    refine lv_bipush (v := 40) hx hb dL_act_172 (by decide) ?_
    refine r_callS S hK hP (c_L_low l G (cP G a z) (gA 334 a) _ _ (by decide)) (r_cs S k_278 k_276 k_277 k_62 q_L_low ⟨Nat.le_of_ble_eq_true rfl, Nat.le_of_ble_eq_true rfl⟩ rfl rfl) rfl hl.1 rfl (Nat.le_of_ble_eq_true rfl) dL_act_174 ⟨Nat.zero_le _, Nat.zero_le _⟩ hS (fun _ h => h) (fun H locs hP _ _ hS => ?_)
    have hP : cP G a z H := hP
    refine lv_iadd hx hb dL_act_177 ?_
    refine r_callI S hK hP (c_X5_pass l G a hI z _ hR hJ) (r_cw S k_384 k_381 k_382 k_383 k_2 q_X5_pass ⟨Nat.le_of_ble_eq_true rfl, Nat.le_of_ble_eq_true rfl⟩ rfl rfl) (g_recv hK hP (i := 329) (by omega) cC0 rfl) rfl hl.1 rfl (Nat.le_of_ble_eq_true rfl) dL_act_178 ⟨Nat.zero_le _, Nat.zero_le _⟩ hS (fun _ h => h) (fun H locs hP _ _ hS => ?_)
    have hP : cP G a (w_X5_pass z ((1 : Int32) + (v_L_low p2 (40 : Int32)))) H := hP
    exact e_int S hr hlk rfl hK hS (cP_eq (show w_L_act z p1 p2 p3 = w_X5_pass z ((1 : Int32) + (v_L_low p2 (40 : Int32))) from (if_neg c1).trans ((if_neg c2).trans ((if_neg c3).trans ((if_neg c4).trans ((if_neg c5).trans ((if_neg c6).trans ((if_neg c7).trans ((if_neg c8).trans ((if_pos c9).trans rfl))))))))) hP) (show v_L_act z p1 p2 p3 = v_X5_pass z ((1 : Int32) + (v_L_low p2 (40 : Int32))) from (if_neg c1).trans ((if_neg c2).trans ((if_neg c3).trans ((if_neg c4).trans ((if_neg c5).trans ((if_neg c6).trans ((if_neg c7).trans ((if_neg c8).trans ((if_pos c9).trans rfl))))))))).symm dL_act_181
  refine (Classical.em (p1 = 9)).elim (fun c10 => ?_) (fun c10 => ?_)
  · refine lv_tableIn (tgt := 169)  hx hb dL_act_8 (by rw [c10]; decide) (by rw [c10]; decide) (by rw [c10]; rfl) (by decide) ?_
    refine lv_aload_n hx hb dL_act_169 rfl (lv_at hl 1 rfl) ?_
    refine lv_iconst (v := 1) hx hb dL_act_170 (by decide) ?_
    refine lv_iload_n hx hb dL_act_171 rfl (lv_at hl 3 rfl) ?_
    refine lv_bipush (v := 40) hx hb dL_act_172 (by decide) ?_
    refine r_callS S hK hP (c_L_low l G (cP G a z) (gA 334 a) _ _ (by decide)) (r_cs S k_278 k_276 k_277 k_62 q_L_low ⟨Nat.le_of_ble_eq_true rfl, Nat.le_of_ble_eq_true rfl⟩ rfl rfl) rfl hl.1 rfl (Nat.le_of_ble_eq_true rfl) dL_act_174 ⟨Nat.zero_le _, Nat.zero_le _⟩ hS (fun _ h => h) (fun H locs hP _ _ hS => ?_)
    have hP : cP G a z H := hP
    refine lv_iadd hx hb dL_act_177 ?_
    refine r_callI S hK hP (c_X5_pass l G a hI z _ hR hJ) (r_cw S k_384 k_381 k_382 k_383 k_2 q_X5_pass ⟨Nat.le_of_ble_eq_true rfl, Nat.le_of_ble_eq_true rfl⟩ rfl rfl) (g_recv hK hP (i := 329) (by omega) cC0 rfl) rfl hl.1 rfl (Nat.le_of_ble_eq_true rfl) dL_act_178 ⟨Nat.zero_le _, Nat.zero_le _⟩ hS (fun _ h => h) (fun H locs hP _ _ hS => ?_)
    have hP : cP G a (w_X5_pass z ((1 : Int32) + (v_L_low p2 (40 : Int32)))) H := hP
    exact e_int S hr hlk rfl hK hS (cP_eq (show w_L_act z p1 p2 p3 = w_X5_pass z ((1 : Int32) + (v_L_low p2 (40 : Int32))) from (if_neg c1).trans ((if_neg c2).trans ((if_neg c3).trans ((if_neg c4).trans ((if_neg c5).trans ((if_neg c6).trans ((if_neg c7).trans ((if_neg c8).trans ((if_neg c9).trans ((if_pos c10).trans rfl)))))))))) hP) (show v_L_act z p1 p2 p3 = v_X5_pass z ((1 : Int32) + (v_L_low p2 (40 : Int32))) from (if_neg c1).trans ((if_neg c2).trans ((if_neg c3).trans ((if_neg c4).trans ((if_neg c5).trans ((if_neg c6).trans ((if_neg c7).trans ((if_neg c8).trans ((if_neg c9).trans ((if_pos c10).trans rfl)))))))))).symm dL_act_181
  refine (Classical.em (p1 = 10)).elim (fun c11 => ?_) (fun c11 => ?_)
  · refine lv_tableIn (tgt := 169)  hx hb dL_act_8 (by rw [c11]; decide) (by rw [c11]; decide) (by rw [c11]; rfl) (by decide) ?_
    refine lv_aload_n hx hb dL_act_169 rfl (lv_at hl 1 rfl) ?_
    refine lv_iconst (v := 1) hx hb dL_act_170 (by decide) ?_
    refine lv_iload_n hx hb dL_act_171 rfl (lv_at hl 3 rfl) ?_
    refine lv_bipush (v := 40) hx hb dL_act_172 (by decide) ?_
    refine r_callS S hK hP (c_L_low l G (cP G a z) (gA 334 a) _ _ (by decide)) (r_cs S k_278 k_276 k_277 k_62 q_L_low ⟨Nat.le_of_ble_eq_true rfl, Nat.le_of_ble_eq_true rfl⟩ rfl rfl) rfl hl.1 rfl (Nat.le_of_ble_eq_true rfl) dL_act_174 ⟨Nat.zero_le _, Nat.zero_le _⟩ hS (fun _ h => h) (fun H locs hP _ _ hS => ?_)
    have hP : cP G a z H := hP
    refine lv_iadd hx hb dL_act_177 ?_
    refine r_callI S hK hP (c_X5_pass l G a hI z _ hR hJ) (r_cw S k_384 k_381 k_382 k_383 k_2 q_X5_pass ⟨Nat.le_of_ble_eq_true rfl, Nat.le_of_ble_eq_true rfl⟩ rfl rfl) (g_recv hK hP (i := 329) (by omega) cC0 rfl) rfl hl.1 rfl (Nat.le_of_ble_eq_true rfl) dL_act_178 ⟨Nat.zero_le _, Nat.zero_le _⟩ hS (fun _ h => h) (fun H locs hP _ _ hS => ?_)
    have hP : cP G a (w_X5_pass z ((1 : Int32) + (v_L_low p2 (40 : Int32)))) H := hP
    exact e_int S hr hlk rfl hK hS (cP_eq (show w_L_act z p1 p2 p3 = w_X5_pass z ((1 : Int32) + (v_L_low p2 (40 : Int32))) from (if_neg c1).trans ((if_neg c2).trans ((if_neg c3).trans ((if_neg c4).trans ((if_neg c5).trans ((if_neg c6).trans ((if_neg c7).trans ((if_neg c8).trans ((if_neg c9).trans ((if_neg c10).trans ((if_pos c11).trans rfl))))))))))) hP) (show v_L_act z p1 p2 p3 = v_X5_pass z ((1 : Int32) + (v_L_low p2 (40 : Int32))) from (if_neg c1).trans ((if_neg c2).trans ((if_neg c3).trans ((if_neg c4).trans ((if_neg c5).trans ((if_neg c6).trans ((if_neg c7).trans ((if_neg c8).trans ((if_neg c9).trans ((if_neg c10).trans ((if_pos c11).trans rfl))))))))))).symm dL_act_181
  refine (Classical.em (p1 = 11)).elim (fun c12 => ?_) (fun c12 => ?_)
  · refine lv_tableIn (tgt := 182)  hx hb dL_act_8 (by rw [c12]; decide) (by rw [c12]; decide) (by rw [c12]; rfl) (by decide) ?_
    refine lv_aload_n hx hb dL_act_182 rfl (lv_at hl 1 rfl) ?_
    refine r_callI S hK hP (c_X5_remind l G a hI z hR hJ) (r_cw S k_393 k_390 k_391 k_392 k_2 q_X5_remind ⟨Nat.le_of_ble_eq_true rfl, Nat.le_of_ble_eq_true rfl⟩ rfl rfl) (g_recv hK hP (i := 329) (by omega) cC0 rfl) rfl hl.1 rfl (Nat.le_of_ble_eq_true rfl) dL_act_183 ⟨Nat.zero_le _, Nat.zero_le _⟩ hS (fun _ h => h) (fun H locs hP _ _ hS => ?_)
    have hP : cP G a (w_X5_remind z) H := hP
    exact e_int S hr hlk rfl hK hS (cP_eq (show w_L_act z p1 p2 p3 = w_X5_remind z from (if_neg c1).trans ((if_neg c2).trans ((if_neg c3).trans ((if_neg c4).trans ((if_neg c5).trans ((if_neg c6).trans ((if_neg c7).trans ((if_neg c8).trans ((if_neg c9).trans ((if_neg c10).trans ((if_neg c11).trans ((if_pos c12).trans rfl)))))))))))) hP) (show v_L_act z p1 p2 p3 = v_X5_remind z from (if_neg c1).trans ((if_neg c2).trans ((if_neg c3).trans ((if_neg c4).trans ((if_neg c5).trans ((if_neg c6).trans ((if_neg c7).trans ((if_neg c8).trans ((if_neg c9).trans ((if_neg c10).trans ((if_neg c11).trans ((if_pos c12).trans rfl)))))))))))).symm dL_act_186
  refine (Classical.em (p1 = 12)).elim (fun c13 => ?_) (fun c13 => ?_)
  · refine lv_tableIn (tgt := 182)  hx hb dL_act_8 (by rw [c13]; decide) (by rw [c13]; decide) (by rw [c13]; rfl) (by decide) ?_
    refine lv_aload_n hx hb dL_act_182 rfl (lv_at hl 1 rfl) ?_
    refine r_callI S hK hP (c_X5_remind l G a hI z hR hJ) (r_cw S k_393 k_390 k_391 k_392 k_2 q_X5_remind ⟨Nat.le_of_ble_eq_true rfl, Nat.le_of_ble_eq_true rfl⟩ rfl rfl) (g_recv hK hP (i := 329) (by omega) cC0 rfl) rfl hl.1 rfl (Nat.le_of_ble_eq_true rfl) dL_act_183 ⟨Nat.zero_le _, Nat.zero_le _⟩ hS (fun _ h => h) (fun H locs hP _ _ hS => ?_)
    have hP : cP G a (w_X5_remind z) H := hP
    exact e_int S hr hlk rfl hK hS (cP_eq (show w_L_act z p1 p2 p3 = w_X5_remind z from (if_neg c1).trans ((if_neg c2).trans ((if_neg c3).trans ((if_neg c4).trans ((if_neg c5).trans ((if_neg c6).trans ((if_neg c7).trans ((if_neg c8).trans ((if_neg c9).trans ((if_neg c10).trans ((if_neg c11).trans ((if_neg c12).trans ((if_pos c13).trans rfl))))))))))))) hP) (show v_L_act z p1 p2 p3 = v_X5_remind z from (if_neg c1).trans ((if_neg c2).trans ((if_neg c3).trans ((if_neg c4).trans ((if_neg c5).trans ((if_neg c6).trans ((if_neg c7).trans ((if_neg c8).trans ((if_neg c9).trans ((if_neg c10).trans ((if_neg c11).trans ((if_neg c12).trans ((if_pos c13).trans rfl))))))))))))).symm dL_act_186
  refine (Classical.em (p1 = 13)).elim (fun c14 => ?_) (fun c14 => ?_)
  · refine lv_tableIn (tgt := 187)  hx hb dL_act_8 (by rw [c14]; decide) (by rw [c14]; decide) (by rw [c14]; rfl) (by decide) ?_
    refine lv_aload_n hx hb dL_act_187 rfl (lv_at hl 1 rfl) ?_
    refine lv_iload_n hx hb dL_act_188 rfl (lv_at hl 3 rfl) ?_
    refine lv_aload_n hx hb dL_act_189 rfl (lv_at hl 1 rfl) ?_
    refine lv_iconst (v := 1) hx hb dL_act_190 (by decide) ?_
    refine r_callI S hK hP (c_X5_count l G a hI z _ hR hJ) (r_cw S k_67 k_64 k_65 k_66 k_2 q_X5_count ⟨Nat.le_of_ble_eq_true rfl, Nat.le_of_ble_eq_true rfl⟩ rfl rfl) (g_recv hK hP (i := 329) (by omega) cC0 rfl) rfl hl.1 rfl (Nat.le_of_ble_eq_true rfl) dL_act_191 ⟨Nat.zero_le _, Nat.zero_le _⟩ hS (fun _ h => h) (fun H locs hP _ _ hS => ?_)
    have hP : cP G a z H := hP
    refine lv_iconst (v := 1) hx hb dL_act_194 (by decide) ?_
    refine lv_iadd hx hb dL_act_195 ?_
    refine r_callS S hK hP (c_L_low l G (cP G a z) (gA 334 a) _ _ (lo_n _)) (r_cs S k_278 k_276 k_277 k_62 q_L_low ⟨Nat.le_of_ble_eq_true rfl, Nat.le_of_ble_eq_true rfl⟩ rfl rfl) rfl hl.1 rfl (Nat.le_of_ble_eq_true rfl) dL_act_196 ⟨Nat.zero_le _, Nat.zero_le _⟩ hS (fun _ h => h) (fun H locs hP _ _ hS => ?_)
    have hP : cP G a z H := hP
    refine r_callI S hK hP (c_X5_writeOff l G a hI z _ hR hJ) (r_cw S k_408 k_405 k_406 k_407 k_2 q_X5_writeOff ⟨Nat.le_of_ble_eq_true rfl, Nat.le_of_ble_eq_true rfl⟩ rfl rfl) (g_recv hK hP (i := 329) (by omega) cC0 rfl) rfl hl.1 rfl (Nat.le_of_ble_eq_true rfl) dL_act_199 ⟨Nat.zero_le _, Nat.zero_le _⟩ hS (fun _ h => h) (fun H locs hP _ _ hS => ?_)
    have hP : cP G a (w_X5_writeOff z (v_L_low p2 ((v_X5_count z (1 : Int32)) + (1 : Int32)))) H := hP
    exact e_int S hr hlk rfl hK hS (cP_eq (show w_L_act z p1 p2 p3 = w_X5_writeOff z (v_L_low p2 ((v_X5_count z (1 : Int32)) + (1 : Int32))) from (if_neg c1).trans ((if_neg c2).trans ((if_neg c3).trans ((if_neg c4).trans ((if_neg c5).trans ((if_neg c6).trans ((if_neg c7).trans ((if_neg c8).trans ((if_neg c9).trans ((if_neg c10).trans ((if_neg c11).trans ((if_neg c12).trans ((if_neg c13).trans ((if_pos c14).trans rfl)))))))))))))) hP) (show v_L_act z p1 p2 p3 = v_X5_writeOff z (v_L_low p2 ((v_X5_count z (1 : Int32)) + (1 : Int32))) from (if_neg c1).trans ((if_neg c2).trans ((if_neg c3).trans ((if_neg c4).trans ((if_neg c5).trans ((if_neg c6).trans ((if_neg c7).trans ((if_neg c8).trans ((if_neg c9).trans ((if_neg c10).trans ((if_neg c11).trans ((if_neg c12).trans ((if_neg c13).trans ((if_pos c14).trans rfl)))))))))))))).symm dL_act_202
  refine (Classical.em (p1 = 14)).elim (fun c15 => ?_) (fun c15 => ?_)
  · refine lv_tableIn (tgt := 203)  hx hb dL_act_8 (by rw [c15]; decide) (by rw [c15]; decide) (by rw [c15]; rfl) (by decide) ?_
    refine lv_aload_n hx hb dL_act_203 rfl (lv_at hl 1 rfl) ?_
    refine lv_iload_n hx hb dL_act_204 rfl (lv_at hl 3 rfl) ?_
    refine lv_iconst (v := 4) hx hb dL_act_205 (by decide) ?_
    refine r_callS S hK hP (c_L_low l G (cP G a z) (gA 334 a) _ _ (by decide)) (r_cs S k_278 k_276 k_277 k_62 q_L_low ⟨Nat.le_of_ble_eq_true rfl, Nat.le_of_ble_eq_true rfl⟩ rfl rfl) rfl hl.1 rfl (Nat.le_of_ble_eq_true rfl) dL_act_206 ⟨Nat.zero_le _, Nat.zero_le _⟩ hS (fun _ h => h) (fun H locs hP _ _ hS => ?_)
    have hP : cP G a z H := hP
    refine r_callI S hK hP (c_X5_closeYear l G a hI z _ hR hJ) (r_cw S k_420 k_417 k_418 k_419 k_2 q_X5_closeYear ⟨Nat.le_of_ble_eq_true rfl, Nat.le_of_ble_eq_true rfl⟩ rfl rfl) (g_recv hK hP (i := 329) (by omega) cC0 rfl) rfl hl.1 rfl (Nat.le_of_ble_eq_true rfl) dL_act_209 ⟨Nat.zero_le _, Nat.zero_le _⟩ hS (fun _ h => h) (fun H locs hP _ _ hS => ?_)
    have hP : cP G a (w_X5_closeYear z (v_L_low p2 (4 : Int32))) H := hP
    exact e_int S hr hlk rfl hK hS (cP_eq (show w_L_act z p1 p2 p3 = w_X5_closeYear z (v_L_low p2 (4 : Int32)) from (if_neg c1).trans ((if_neg c2).trans ((if_neg c3).trans ((if_neg c4).trans ((if_neg c5).trans ((if_neg c6).trans ((if_neg c7).trans ((if_neg c8).trans ((if_neg c9).trans ((if_neg c10).trans ((if_neg c11).trans ((if_neg c12).trans ((if_neg c13).trans ((if_neg c14).trans ((if_pos c15).trans rfl))))))))))))))) hP) (show v_L_act z p1 p2 p3 = v_X5_closeYear z (v_L_low p2 (4 : Int32)) from (if_neg c1).trans ((if_neg c2).trans ((if_neg c3).trans ((if_neg c4).trans ((if_neg c5).trans ((if_neg c6).trans ((if_neg c7).trans ((if_neg c8).trans ((if_neg c9).trans ((if_neg c10).trans ((if_neg c11).trans ((if_neg c12).trans ((if_neg c13).trans ((if_neg c14).trans ((if_pos c15).trans rfl))))))))))))))).symm dL_act_212
  refine (Classical.em (p1 = 15)).elim (fun c16 => ?_) (fun c16 => ?_)
  · refine lv_tableIn (tgt := 213)  hx hb dL_act_8 (by rw [c16]; decide) (by rw [c16]; decide) (by rw [c16]; rfl) (by decide) ?_
    refine lv_aload_n hx hb dL_act_213 rfl (lv_at hl 1 rfl) ?_
    refine lv_iload_n hx hb dL_act_214 rfl (lv_at hl 3 rfl) ?_
    refine lv_bipush (v := 6) hx hb dL_act_215 (by decide) ?_
    refine r_callS S hK hP (c_L_low l G (cP G a z) (gA 334 a) _ _ (by decide)) (r_cs S k_278 k_276 k_277 k_62 q_L_low ⟨Nat.le_of_ble_eq_true rfl, Nat.le_of_ble_eq_true rfl⟩ rfl rfl) rfl hl.1 rfl (Nat.le_of_ble_eq_true rfl) dL_act_217 ⟨Nat.zero_le _, Nat.zero_le _⟩ hS (fun _ h => h) (fun H locs hP _ _ hS => ?_)
    have hP : cP G a z H := hP
    refine lv_iload_n hx hb dL_act_220 rfl (lv_at hl 4 rfl) ?_
    refine lv_bipush (v := 25) hx hb dL_act_221 (by decide) ?_
    refine r_callS S hK hP (c_L_low l G (cP G a z) (gA 334 a) _ _ (by decide)) (r_cs S k_278 k_276 k_277 k_62 q_L_low ⟨Nat.le_of_ble_eq_true rfl, Nat.le_of_ble_eq_true rfl⟩ rfl rfl) rfl hl.1 rfl (Nat.le_of_ble_eq_true rfl) dL_act_223 ⟨Nat.zero_le _, Nat.zero_le _⟩ hS (fun _ h => h) (fun H locs hP _ _ hS => ?_)
    have hP : cP G a z H := hP
    refine r_callIX S hK hX hP (c_X5_set l G a hI z t1 t2 _ _ hR hJ) (r_cw S k_430 k_427 k_428 k_429 k_2 q_X5_set ⟨Nat.le_of_ble_eq_true rfl, Nat.le_of_ble_eq_true rfl⟩ rfl rfl) (g_recv hK hP (i := 329) (by omega) cC0 rfl) rfl hl.1 rfl (Nat.le_of_ble_eq_true rfl) dL_act_226 ⟨Nat.zero_le _, Nat.zero_le _⟩ hS (fun _ h => h) (fun H locs hP _ _ hS => ?_)
    have hP : cP G a (w_X5_set z (v_L_low p2 (6 : Int32)) (v_L_low p3 (25 : Int32))) H := hP
    exact e_int S hr hlk rfl hK hS (cP_eq (show w_L_act z p1 p2 p3 = w_X5_set z (v_L_low p2 (6 : Int32)) (v_L_low p3 (25 : Int32)) from (if_neg c1).trans ((if_neg c2).trans ((if_neg c3).trans ((if_neg c4).trans ((if_neg c5).trans ((if_neg c6).trans ((if_neg c7).trans ((if_neg c8).trans ((if_neg c9).trans ((if_neg c10).trans ((if_neg c11).trans ((if_neg c12).trans ((if_neg c13).trans ((if_neg c14).trans ((if_neg c15).trans ((if_pos c16).trans rfl)))))))))))))))) hP) (show v_L_act z p1 p2 p3 = v_X5_set z (v_L_low p2 (6 : Int32)) (v_L_low p3 (25 : Int32)) from (if_neg c1).trans ((if_neg c2).trans ((if_neg c3).trans ((if_neg c4).trans ((if_neg c5).trans ((if_neg c6).trans ((if_neg c7).trans ((if_neg c8).trans ((if_neg c9).trans ((if_neg c10).trans ((if_neg c11).trans ((if_neg c12).trans ((if_neg c13).trans ((if_neg c14).trans ((if_neg c15).trans ((if_pos c16).trans rfl)))))))))))))))).symm dL_act_229
  refine lv_tableOut (tgt := 230) hx hb dL_act_8 (by have h0 := lv_neT c1 (a := 0) (by decide); have h1 := lv_neT c2 (a := 1) (by decide); have h2 := lv_neT c3 (a := 2) (by decide); have h3 := lv_neT c4 (a := 3) (by decide); have h4 := lv_neT c5 (a := 4) (by decide); have h5 := lv_neT c6 (a := 5) (by decide); have h6 := lv_neT c7 (a := 6) (by decide); have h7 := lv_neT c8 (a := 7) (by decide); have h8 := lv_neT c9 (a := 8) (by decide); have h9 := lv_neT c10 (a := 9) (by decide); have h10 := lv_neT c11 (a := 10) (by decide); have h11 := lv_neT c12 (a := 11) (by decide); have h12 := lv_neT c13 (a := 12) (by decide); have h13 := lv_neT c14 (a := 13) (by decide); have h14 := lv_neT c15 (a := 14) (by decide); have h15 := lv_neT c16 (a := 15) (by decide); omega) (by decide) ?_
  refine lv_aload_n hx hb dL_act_230 rfl (lv_at hl 1 rfl) ?_
  refine r_callI S hK hP (c_X5_undo l G a hI z hR hJ) (r_cw S k_266 k_263 k_264 k_265 k_2 q_X5_undo ⟨Nat.le_of_ble_eq_true rfl, Nat.le_of_ble_eq_true rfl⟩ rfl rfl) (g_recv hK hP (i := 329) (by omega) cC0 rfl) rfl hl.1 rfl (Nat.le_of_ble_eq_true rfl) dL_act_231 ⟨Nat.zero_le _, Nat.zero_le _⟩ hS (fun _ h => h) (fun H locs hP _ _ hS => ?_)
  have hP : cP G a (w_X5_undo z) H := hP
  exact e_int S hr hlk rfl hK hS (cP_eq (show w_L_act z p1 p2 p3 = w_X5_undo z from (if_neg c1).trans ((if_neg c2).trans ((if_neg c3).trans ((if_neg c4).trans ((if_neg c5).trans ((if_neg c6).trans ((if_neg c7).trans ((if_neg c8).trans ((if_neg c9).trans ((if_neg c10).trans ((if_neg c11).trans ((if_neg c12).trans ((if_neg c13).trans ((if_neg c14).trans ((if_neg c15).trans ((if_neg c16).trans rfl)))))))))))))))) hP) (show v_L_act z p1 p2 p3 = v_X5_undo z from (if_neg c1).trans ((if_neg c2).trans ((if_neg c3).trans ((if_neg c4).trans ((if_neg c5).trans ((if_neg c6).trans ((if_neg c7).trans ((if_neg c8).trans ((if_neg c9).trans ((if_neg c10).trans ((if_neg c11).trans ((if_neg c12).trans ((if_neg c13).trans ((if_neg c14).trans ((if_neg c15).trans ((if_neg c16).trans rfl)))))))))))))))).symm dL_act_234
