def v_L_holds_t421_0 (z : CS) (x2 : Int32) : Int32 := (0 : Int32)
def v_L_holds_t421_1 (z : CS) (x2 : Int32) : Int32 := if ((v_X5_count z (2 : Int32)) + (v_X5_count z (3 : Int32))) + (v_X5_count z (4 : Int32)) = nI (cN z) then (if v_X5_count z (9 : Int32) = (x2 + (v_X5_count z (8 : Int32))) + (v_X5_count z (10 : Int32)) then (1 : Int32) else (0 : Int32)) else (0 : Int32)
def v_L_holds_t361 (z : CS) (x2 : Int32) (x3 : Int32) (x4 : Int32) (x5 : Int32) (x6 : Int32) (x7 : Int32) (x8 : Int32) : Int32 := if x7 = 0 then (v_L_holds_t421_0 z x2) else if x6 = 0 then (if x8 = v_X5_count z (6 : Int32) then (if x3 = v_X5_count z (12 : Int32) then (if x4 = v_X5_count z (11 : Int32) then (if x5 = v_X5_count z (13 : Int32) then (v_L_holds_t421_1 z x2) else v_L_holds_t421_0 z x2) else v_L_holds_t421_0 z x2) else v_L_holds_t421_0 z x2) else v_L_holds_t421_0 z x2) else v_L_holds_t421_0 z x2
def v_L_holds_loop3 (z : CS) (x2 : Int32) (x3 : Int32) (x4 : Int32) (x5 : Int32) (x8 : Int32) : Nat → Nat → Int32 → Int32 → Int32
  | 0, k, x6, x7 => v_L_holds_t361 z x2 x3 x4 x5 x6 x7 x8
  | n + 1, k, x6, x7 => if x7 = 0 then (v_L_holds_loop3 z x2 x3 x4 x5 x8 n (k + 1) (x6 - (v_X5_tax z (nI k) (0 : Int32))) (0 : Int32)) else if v_X5_tax z (nI k) (2 : Int32) = (-5 : Int32) then (if v_X5_count z (14 : Int32) ≤ nI k then (v_L_holds_loop3 z x2 x3 x4 x5 x8 n (k + 1) (x6 - (v_X5_tax z (nI k) (0 : Int32))) (1 : Int32)) else v_L_holds_loop3 z x2 x3 x4 x5 x8 n (k + 1) (x6 - (v_X5_tax z (nI k) (0 : Int32))) (0 : Int32)) else if v_X5_count z (14 : Int32) ≤ nI k then (v_L_holds_loop3 z x2 x3 x4 x5 x8 n (k + 1) (x6 - (v_X5_tax z (nI k) (0 : Int32))) (0 : Int32)) else v_L_holds_loop3 z x2 x3 x4 x5 x8 n (k + 1) (x6 - (v_X5_tax z (nI k) (0 : Int32))) (1 : Int32)
def v_L_holds_t279 (z : CS) (x2 : Int32) (x3 : Int32) (x4 : Int32) (x5 : Int32) (x6 : Int32) (x7 : Int32) (x8 : Int32) : Int32 := v_L_holds_loop3 z x2 x3 x4 x5 x8 (qN z + 1) 0 x6 x7
def v_L_holds_loop2 (z : CS) (x2 : Int32) (x3 : Int32) (x4 : Int32) (x5 : Int32) (x6 : Int32) : Nat → Nat → Int32 → Int32 → Int32
  | 0, k, x7, x8 => v_L_holds_t279 z x2 x3 x4 x5 x6 x7 x8
  | n + 1, k, x7, x8 => if x7 = 0 then (v_L_holds_t279 z x2 x3 x4 x5 x6 x7 x8) else if v_X5_worst z = (-5 : Int32) then (if v_X5_customer z (nI k) (2 : Int32) = 0 then (if v_X5_customer z (nI k) (6 : Int32) = (-5 : Int32) then (if v_X5_customer z (nI k) (1 : Int32) = 0 then (if v_X5_customer z (nI k) (2 : Int32) < v_X5_settles z (nI k) then (v_L_holds_loop2 z x2 x3 x4 x5 x6 n (k + 1) (0 : Int32) (x8 + (v_X5_customer z (nI k) (2 : Int32)))) else v_L_holds_loop2 z x2 x3 x4 x5 x6 n (k + 1) (1 : Int32) (x8 + (v_X5_customer z (nI k) (2 : Int32)))) else v_L_holds_loop2 z x2 x3 x4 x5 x6 n (k + 1) (0 : Int32) (x8 + (v_X5_customer z (nI k) (2 : Int32)))) else if v_X5_customer z (nI k) (1 : Int32) = 0 then (v_L_holds_loop2 z x2 x3 x4 x5 x6 n (k + 1) (0 : Int32) (x8 + (v_X5_customer z (nI k) (2 : Int32)))) else if v_X5_customer z (nI k) (2 : Int32) < v_X5_settles z (nI k) then (v_L_holds_loop2 z x2 x3 x4 x5 x6 n (k + 1) (0 : Int32) (x8 + (v_X5_customer z (nI k) (2 : Int32)))) else v_L_holds_loop2 z x2 x3 x4 x5 x6 n (k + 1) (1 : Int32) (x8 + (v_X5_customer z (nI k) (2 : Int32)))) else v_L_holds_loop2 z x2 x3 x4 x5 x6 n (k + 1) (0 : Int32) (x8 + (v_X5_customer z (nI k) (2 : Int32)))) else if v_X5_customer z (v_X5_worst z) (2 : Int32) < v_X5_customer z (nI k) (2 : Int32) then (v_L_holds_loop2 z x2 x3 x4 x5 x6 n (k + 1) (0 : Int32) (x8 + (v_X5_customer z (nI k) (2 : Int32)))) else if v_X5_customer z (nI k) (6 : Int32) = (-5 : Int32) then (if v_X5_customer z (nI k) (1 : Int32) = 0 then (if v_X5_customer z (nI k) (2 : Int32) < v_X5_settles z (nI k) then (v_L_holds_loop2 z x2 x3 x4 x5 x6 n (k + 1) (0 : Int32) (x8 + (v_X5_customer z (nI k) (2 : Int32)))) else v_L_holds_loop2 z x2 x3 x4 x5 x6 n (k + 1) (1 : Int32) (x8 + (v_X5_customer z (nI k) (2 : Int32)))) else v_L_holds_loop2 z x2 x3 x4 x5 x6 n (k + 1) (0 : Int32) (x8 + (v_X5_customer z (nI k) (2 : Int32)))) else if v_X5_customer z (nI k) (1 : Int32) = 0 then (v_L_holds_loop2 z x2 x3 x4 x5 x6 n (k + 1) (0 : Int32) (x8 + (v_X5_customer z (nI k) (2 : Int32)))) else if v_X5_customer z (nI k) (2 : Int32) < v_X5_settles z (nI k) then (v_L_holds_loop2 z x2 x3 x4 x5 x6 n (k + 1) (0 : Int32) (x8 + (v_X5_customer z (nI k) (2 : Int32)))) else v_L_holds_loop2 z x2 x3 x4 x5 x6 n (k + 1) (1 : Int32) (x8 + (v_X5_customer z (nI k) (2 : Int32)))
def v_L_holds_t124 (z : CS) (x2 : Int32) (x3 : Int32) (x4 : Int32) (x5 : Int32) (x6 : Int32) (x7 : Int32) : Int32 := v_L_holds_loop2 z x2 x3 x4 x5 x6 8 0 x7 (0 : Int32)
def v_L_holds_loop1 (z : CS) : Nat → Nat → Int32 → Int32 → Int32 → Int32 → Int32 → Int32 → Int32
  | 0, k, x2, x3, x4, x5, x6, x7 => v_L_holds_t124 z x2 x3 x4 x5 x6 x7
  | n + 1, k, x2, x3, x4, x5, x6, x7 => if x7 = 0 then (v_L_holds_t124 z x2 x3 x4 x5 x6 x7) else v_L_holds_loop1 z n (k + 1) (x2 + (v_X5_billOf z (nI k) (7 : Int32))) (x3 + (v_X5_billOf z (nI k) (9 : Int32))) (x4 + (v_X5_billOf z (nI k) (8 : Int32))) (x5 + (v_X5_billOf z (nI k) (11 : Int32))) (x6 + (v_X5_billOf z (nI k) (2 : Int32))) (v_L_isBill z (nI k))
def v_L_holds_t36_0 (z : CS) (x2 : Int32) (x3 : Int32) (x4 : Int32) (x5 : Int32) (x6 : Int32) : Int32 := v_L_holds_loop1 z (cN z) 0 x2 x3 x4 x5 x6 (0 : Int32)
def v_L_holds_t36_1 (z : CS) (x2 : Int32) (x3 : Int32) (x4 : Int32) (x5 : Int32) (x6 : Int32) : Int32 := v_L_holds_loop1 z (cN z) 0 x2 x3 x4 x5 x6 (1 : Int32)
def v_L_holds (z : CS) : Int32 := if v_X5_billOf z (nI (cN z)) (0 : Int32) = (-1 : Int32) then (v_L_holds_t36_1 z (0 : Int32) (0 : Int32) (0 : Int32) (0 : Int32) (0 : Int32)) else v_L_holds_t36_0 z (0 : Int32) (0 : Int32) (0 : Int32) (0 : Int32) (0 : Int32)
theorem q_L_holds : yL_holds.cls ≠ "java/lang/invoke/MethodHandle" ∧ yL_holds.cls ≠ "java/lang/invoke/VarHandle" ∧ (parseMethodDescriptor yL_holds.desc).map (fun d => d.parameters.length) = some 1 := ⟨by decide, by decide, by decide +kernel⟩
set_option maxHeartbeats 4000000 in
set_option maxRecDepth 100000 in
theorem c_L_holds (l : Launch) (G : kG) (a : Nat → Nat) (hI : gI 334 a) (z : CS) (hR : RI z.1) (hJ : RJ z.1) (hq : v_X5_count z (0 : Int32) / (100 : Int32) = nI (qN z)) (hq9 : qN z ≤ 99) : Met l yL_holds (Cond.code yL_holds cL_holds 11 (some .boolean) :: BIG) (rmK 6) (pcG G (cP G a z) [.ref (a 329)]) (qcI G (gA 334 a) (cP G a z) (v_L_holds z)) 0 0 (gA 334 a) := by
  refine m_start (by decide) (Nat.le_of_ble_eq_true rfl) ?_
  have hcN : cN z ≤ 40 := cN_le z
  intro p e s m args below meth c S hr hlk hnm hP hK ls hl
  have hx := S.1
  have hb := S.2.1
  have hown := S.2.2.2.1
  have hS : va_S (gA 334 a) s.heap s.heap [] := va_S.rf
  have hl : lv_has ls 11 [(0, .ref (a 329))] := hl
  have T_421_0 : ∀ (x2 : Int32) (H : Heap) (locs : List Loc), cP G a z H → va_S (gA 334 a) s.heap H locs → ∀ ls : Array Slot, lv_has ls 11 [(0, .ref (a 329)), (1, .int (nI (cN z))), (2, .int x2), (7, .int (0 : Int32))] → W p l e (rmK 6) s m args below meth c H locs 0 0 (MQ below (qcI G (gA 334 a) (cP G a z) (v_L_holds_t421_0 z x2)) args s 0 0 (gA 334 a)) (F0 m 421 ls []) := by
    intro x2 H locs hP hS ls hl
    refine lv_iload hx hb dL_holds_421 (lv_at hl 3 rfl) ?_
    refine lv_if_eq (tgt := 475) hx hb dL_holds_423 (by decide) (fun _ => ?_) (fun c => absurd (by decide) c)
    refine lv_iconst (v := 0) hx hb dL_holds_475 (by decide) ?_
    exact e_int S hr hlk rfl hK hS hP (show v_L_holds_t421_0 z x2 = (0 : Int32) from rfl).symm dL_holds_476
  have T_421_1 : ∀ (x2 : Int32) (H : Heap) (locs : List Loc), cP G a z H → va_S (gA 334 a) s.heap H locs → ∀ ls : Array Slot, lv_has ls 11 [(0, .ref (a 329)), (1, .int (nI (cN z))), (2, .int x2), (7, .int (1 : Int32))] → W p l e (rmK 6) s m args below meth c H locs 0 0 (MQ below (qcI G (gA 334 a) (cP G a z) (v_L_holds_t421_1 z x2)) args s 0 0 (gA 334 a)) (F0 m 421 ls []) := by
    intro x2 H locs hP hS ls hl
    refine lv_iload hx hb dL_holds_421 (lv_at hl 3 rfl) ?_
    refine lv_if_eq (tgt := 475) hx hb dL_holds_423 (by decide) (fun c => absurd c (by decide)) (fun _ => ?_)
    refine lv_aload_n hx hb dL_holds_426 rfl (lv_at hl 0 rfl) ?_
    refine lv_iconst (v := 2) hx hb dL_holds_427 (by decide) ?_
    refine r_callI S hK hP (c_X5_count l G a hI z _ hR hJ) (r_cw S k_67 k_64 k_65 k_66 k_2 q_X5_count ⟨Nat.le_of_ble_eq_true rfl, Nat.le_of_ble_eq_true rfl⟩ rfl rfl) (g_recv hK hP (i := 329) (by omega) cC0 rfl) rfl hl.1 rfl (Nat.le_of_ble_eq_true rfl) dL_holds_428 ⟨Nat.zero_le _, Nat.zero_le _⟩ hS (fun _ h => h) (fun H locs hP _ _ hS => ?_)
    have hP : cP G a z H := hP
    refine lv_aload_n hx hb dL_holds_431 rfl (lv_at hl 0 rfl) ?_
    refine lv_iconst (v := 3) hx hb dL_holds_432 (by decide) ?_
    refine r_callI S hK hP (c_X5_count l G a hI z _ hR hJ) (r_cw S k_67 k_64 k_65 k_66 k_2 q_X5_count ⟨Nat.le_of_ble_eq_true rfl, Nat.le_of_ble_eq_true rfl⟩ rfl rfl) (g_recv hK hP (i := 329) (by omega) cC0 rfl) rfl hl.1 rfl (Nat.le_of_ble_eq_true rfl) dL_holds_433 ⟨Nat.zero_le _, Nat.zero_le _⟩ hS (fun _ h => h) (fun H locs hP _ _ hS => ?_)
    have hP : cP G a z H := hP
    refine lv_iadd hx hb dL_holds_436 ?_
    refine lv_aload_n hx hb dL_holds_437 rfl (lv_at hl 0 rfl) ?_
    refine lv_iconst (v := 4) hx hb dL_holds_438 (by decide) ?_
    refine r_callI S hK hP (c_X5_count l G a hI z _ hR hJ) (r_cw S k_67 k_64 k_65 k_66 k_2 q_X5_count ⟨Nat.le_of_ble_eq_true rfl, Nat.le_of_ble_eq_true rfl⟩ rfl rfl) (g_recv hK hP (i := 329) (by omega) cC0 rfl) rfl hl.1 rfl (Nat.le_of_ble_eq_true rfl) dL_holds_439 ⟨Nat.zero_le _, Nat.zero_le _⟩ hS (fun _ h => h) (fun H locs hP _ _ hS => ?_)
    have hP : cP G a z H := hP
    refine lv_iadd hx hb dL_holds_442 ?_
    refine lv_iload_n hx hb dL_holds_443 rfl (lv_at hl 1 rfl) ?_
    refine lv_icmp_ne (tgt := 475) hx hb dL_holds_444 (by decide) (fun c28 => ?_) (fun c28 => ?_)
    · skip
      refine lv_iconst (v := 0) hx hb dL_holds_475 (by decide) ?_
      exact e_int S hr hlk rfl hK hS hP (show v_L_holds_t421_1 z x2 = (0 : Int32) from (if_neg c28).trans rfl).symm dL_holds_476
    · skip
      refine lv_aload_n hx hb dL_holds_447 rfl (lv_at hl 0 rfl) ?_
      refine lv_bipush (v := 9) hx hb dL_holds_448 (by decide) ?_
      refine r_callI S hK hP (c_X5_count l G a hI z _ hR hJ) (r_cw S k_67 k_64 k_65 k_66 k_2 q_X5_count ⟨Nat.le_of_ble_eq_true rfl, Nat.le_of_ble_eq_true rfl⟩ rfl rfl) (g_recv hK hP (i := 329) (by omega) cC0 rfl) rfl hl.1 rfl (Nat.le_of_ble_eq_true rfl) dL_holds_450 ⟨Nat.zero_le _, Nat.zero_le _⟩ hS (fun _ h => h) (fun H locs hP _ _ hS => ?_)
      have hP : cP G a z H := hP
      refine lv_iload_n hx hb dL_holds_453 rfl (lv_at hl 2 rfl) ?_
      refine lv_aload_n hx hb dL_holds_454 rfl (lv_at hl 0 rfl) ?_
      refine lv_bipush (v := 8) hx hb dL_holds_455 (by decide) ?_
      refine r_callI S hK hP (c_X5_count l G a hI z _ hR hJ) (r_cw S k_67 k_64 k_65 k_66 k_2 q_X5_count ⟨Nat.le_of_ble_eq_true rfl, Nat.le_of_ble_eq_true rfl⟩ rfl rfl) (g_recv hK hP (i := 329) (by omega) cC0 rfl) rfl hl.1 rfl (Nat.le_of_ble_eq_true rfl) dL_holds_457 ⟨Nat.zero_le _, Nat.zero_le _⟩ hS (fun _ h => h) (fun H locs hP _ _ hS => ?_)
      have hP : cP G a z H := hP
      refine lv_iadd hx hb dL_holds_460 ?_
      refine lv_aload_n hx hb dL_holds_461 rfl (lv_at hl 0 rfl) ?_
      refine lv_bipush (v := 10) hx hb dL_holds_462 (by decide) ?_
      refine r_callI S hK hP (c_X5_count l G a hI z _ hR hJ) (r_cw S k_67 k_64 k_65 k_66 k_2 q_X5_count ⟨Nat.le_of_ble_eq_true rfl, Nat.le_of_ble_eq_true rfl⟩ rfl rfl) (g_recv hK hP (i := 329) (by omega) cC0 rfl) rfl hl.1 rfl (Nat.le_of_ble_eq_true rfl) dL_holds_464 ⟨Nat.zero_le _, Nat.zero_le _⟩ hS (fun _ h => h) (fun H locs hP _ _ hS => ?_)
      have hP : cP G a z H := hP
      refine lv_iadd hx hb dL_holds_467 ?_
      refine lv_icmp_ne (tgt := 475) hx hb dL_holds_468 (by decide) (fun c29 => ?_) (fun c29 => ?_)
      · skip
        refine lv_iconst (v := 0) hx hb dL_holds_475 (by decide) ?_
        exact e_int S hr hlk rfl hK hS hP (show v_L_holds_t421_1 z x2 = (0 : Int32) from (if_pos c28).trans ((if_neg c29).trans rfl)).symm dL_holds_476
      · skip
        refine lv_iconst (v := 1) hx hb dL_holds_471 (by decide) ?_
        refine lv_goto (tgt := 476) hx hb dL_holds_472 (by decide) ?_
        exact e_int S hr hlk rfl hK hS hP (show v_L_holds_t421_1 z x2 = (1 : Int32) from (if_pos c28).trans ((if_pos c29).trans rfl)).symm dL_holds_476
  have T_361 : ∀ (x2 : Int32) (x3 : Int32) (x4 : Int32) (x5 : Int32) (x6 : Int32) (x7 : Int32) (x8 : Int32) (H : Heap) (locs : List Loc), cP G a z H → va_S (gA 334 a) s.heap H locs → ∀ ls : Array Slot, lv_has ls 11 [(0, .ref (a 329)), (1, .int (nI (cN z))), (2, .int x2), (3, .int x3), (4, .int x4), (5, .int x5), (6, .int x6), (7, .int x7), (8, .int x8)] → W p l e (rmK 6) s m args below meth c H locs 0 0 (MQ below (qcI G (gA 334 a) (cP G a z) (v_L_holds_t361 z x2 x3 x4 x5 x6 x7 x8)) args s 0 0 (gA 334 a)) (F0 m 361 ls []) := by
    intro x2 x3 x4 x5 x6 x7 x8 H locs hP hS ls hl
    refine lv_iload hx hb dL_holds_361 (lv_at hl 7 rfl) ?_
    refine lv_if_eq (tgt := 418) hx hb dL_holds_363 (by decide) (fun c22 => ?_) (fun c22 => ?_)
    · skip
      refine lv_iconst (v := 0) hx hb dL_holds_418 (by decide) ?_
      refine lv_istore (lv' := [(7, .int (0 : Int32)), (0, .ref (a 329)), (1, .int (nI (cN z))), (2, .int x2), (3, .int x3), (4, .int x4), (5, .int x5), (6, .int x6), (8, .int x8)]) hx hb dL_holds_419 hl (by decide) rfl (fun ls hl => ?_)
      refine q_eqIz (show v_L_holds_t361 z x2 x3 x4 x5 x6 x7 x8 = v_L_holds_t421_0 z x2 from (if_pos c22).trans rfl) rfl ?_
      exact T_421_0 _  _ _ hP hS ls (lv_sub hl [1, 2, 3, 0] rfl)
    · skip
      refine lv_iload hx hb dL_holds_366 (lv_at hl 6 rfl) ?_
      refine lv_if_ne (tgt := 418) hx hb dL_holds_368 (by decide) (fun c23 => ?_) (fun c23 => ?_)
      · skip
        refine lv_iconst (v := 0) hx hb dL_holds_418 (by decide) ?_
        refine lv_istore (lv' := [(7, .int (0 : Int32)), (0, .ref (a 329)), (1, .int (nI (cN z))), (2, .int x2), (3, .int x3), (4, .int x4), (5, .int x5), (6, .int x6), (8, .int x8)]) hx hb dL_holds_419 hl (by decide) rfl (fun ls hl => ?_)
        refine q_eqIz (show v_L_holds_t361 z x2 x3 x4 x5 x6 x7 x8 = v_L_holds_t421_0 z x2 from (if_neg c22).trans ((if_neg c23).trans rfl)) rfl ?_
        exact T_421_0 _  _ _ hP hS ls (lv_sub hl [1, 2, 3, 0] rfl)
      · skip
        refine lv_iload hx hb dL_holds_371 (lv_at hl 8 rfl) ?_
        refine lv_aload_n hx hb dL_holds_373 rfl (lv_at hl 0 rfl) ?_
        refine lv_bipush (v := 6) hx hb dL_holds_374 (by decide) ?_
        refine r_callI S hK hP (c_X5_count l G a hI z _ hR hJ) (r_cw S k_67 k_64 k_65 k_66 k_2 q_X5_count ⟨Nat.le_of_ble_eq_true rfl, Nat.le_of_ble_eq_true rfl⟩ rfl rfl) (g_recv hK hP (i := 329) (by omega) cC0 rfl) rfl hl.1 rfl (Nat.le_of_ble_eq_true rfl) dL_holds_376 ⟨Nat.zero_le _, Nat.zero_le _⟩ hS (fun _ h => h) (fun H locs hP _ _ hS => ?_)
        have hP : cP G a z H := hP
        refine lv_icmp_ne (tgt := 418) hx hb dL_holds_379 (by decide) (fun c24 => ?_) (fun c24 => ?_)
        · skip
          refine lv_iconst (v := 0) hx hb dL_holds_418 (by decide) ?_
          refine lv_istore (lv' := [(7, .int (0 : Int32)), (0, .ref (a 329)), (1, .int (nI (cN z))), (2, .int x2), (3, .int x3), (4, .int x4), (5, .int x5), (6, .int x6), (8, .int x8)]) hx hb dL_holds_419 hl (by decide) rfl (fun ls hl => ?_)
          refine q_eqIz (show v_L_holds_t361 z x2 x3 x4 x5 x6 x7 x8 = v_L_holds_t421_0 z x2 from (if_neg c22).trans ((if_pos c23).trans ((if_neg c24).trans rfl))) rfl ?_
          exact T_421_0 _  _ _ hP hS ls (lv_sub hl [1, 2, 3, 0] rfl)
        · skip
          refine lv_iload_n hx hb dL_holds_382 rfl (lv_at hl 3 rfl) ?_
          refine lv_aload_n hx hb dL_holds_383 rfl (lv_at hl 0 rfl) ?_
          refine lv_bipush (v := 12) hx hb dL_holds_384 (by decide) ?_
          refine r_callI S hK hP (c_X5_count l G a hI z _ hR hJ) (r_cw S k_67 k_64 k_65 k_66 k_2 q_X5_count ⟨Nat.le_of_ble_eq_true rfl, Nat.le_of_ble_eq_true rfl⟩ rfl rfl) (g_recv hK hP (i := 329) (by omega) cC0 rfl) rfl hl.1 rfl (Nat.le_of_ble_eq_true rfl) dL_holds_386 ⟨Nat.zero_le _, Nat.zero_le _⟩ hS (fun _ h => h) (fun H locs hP _ _ hS => ?_)
          have hP : cP G a z H := hP
          refine lv_icmp_ne (tgt := 418) hx hb dL_holds_389 (by decide) (fun c25 => ?_) (fun c25 => ?_)
          · skip
            refine lv_iconst (v := 0) hx hb dL_holds_418 (by decide) ?_
            refine lv_istore (lv' := [(7, .int (0 : Int32)), (0, .ref (a 329)), (1, .int (nI (cN z))), (2, .int x2), (3, .int x3), (4, .int x4), (5, .int x5), (6, .int x6), (8, .int x8)]) hx hb dL_holds_419 hl (by decide) rfl (fun ls hl => ?_)
            refine q_eqIz (show v_L_holds_t361 z x2 x3 x4 x5 x6 x7 x8 = v_L_holds_t421_0 z x2 from (if_neg c22).trans ((if_pos c23).trans ((if_pos c24).trans ((if_neg c25).trans rfl)))) rfl ?_
            exact T_421_0 _  _ _ hP hS ls (lv_sub hl [1, 2, 3, 0] rfl)
          · skip
            refine lv_iload hx hb dL_holds_392 (lv_at hl 4 rfl) ?_
            refine lv_aload_n hx hb dL_holds_394 rfl (lv_at hl 0 rfl) ?_
            refine lv_bipush (v := 11) hx hb dL_holds_395 (by decide) ?_
            refine r_callI S hK hP (c_X5_count l G a hI z _ hR hJ) (r_cw S k_67 k_64 k_65 k_66 k_2 q_X5_count ⟨Nat.le_of_ble_eq_true rfl, Nat.le_of_ble_eq_true rfl⟩ rfl rfl) (g_recv hK hP (i := 329) (by omega) cC0 rfl) rfl hl.1 rfl (Nat.le_of_ble_eq_true rfl) dL_holds_397 ⟨Nat.zero_le _, Nat.zero_le _⟩ hS (fun _ h => h) (fun H locs hP _ _ hS => ?_)
            have hP : cP G a z H := hP
            refine lv_icmp_ne (tgt := 418) hx hb dL_holds_400 (by decide) (fun c26 => ?_) (fun c26 => ?_)
            · skip
              refine lv_iconst (v := 0) hx hb dL_holds_418 (by decide) ?_
              refine lv_istore (lv' := [(7, .int (0 : Int32)), (0, .ref (a 329)), (1, .int (nI (cN z))), (2, .int x2), (3, .int x3), (4, .int x4), (5, .int x5), (6, .int x6), (8, .int x8)]) hx hb dL_holds_419 hl (by decide) rfl (fun ls hl => ?_)
              refine q_eqIz (show v_L_holds_t361 z x2 x3 x4 x5 x6 x7 x8 = v_L_holds_t421_0 z x2 from (if_neg c22).trans ((if_pos c23).trans ((if_pos c24).trans ((if_pos c25).trans ((if_neg c26).trans rfl))))) rfl ?_
              exact T_421_0 _  _ _ hP hS ls (lv_sub hl [1, 2, 3, 0] rfl)
            · skip
              refine lv_iload hx hb dL_holds_403 (lv_at hl 5 rfl) ?_
              refine lv_aload_n hx hb dL_holds_405 rfl (lv_at hl 0 rfl) ?_
              refine lv_bipush (v := 13) hx hb dL_holds_406 (by decide) ?_
              refine r_callI S hK hP (c_X5_count l G a hI z _ hR hJ) (r_cw S k_67 k_64 k_65 k_66 k_2 q_X5_count ⟨Nat.le_of_ble_eq_true rfl, Nat.le_of_ble_eq_true rfl⟩ rfl rfl) (g_recv hK hP (i := 329) (by omega) cC0 rfl) rfl hl.1 rfl (Nat.le_of_ble_eq_true rfl) dL_holds_408 ⟨Nat.zero_le _, Nat.zero_le _⟩ hS (fun _ h => h) (fun H locs hP _ _ hS => ?_)
              have hP : cP G a z H := hP
              refine lv_icmp_ne (tgt := 418) hx hb dL_holds_411 (by decide) (fun c27 => ?_) (fun c27 => ?_)
              · skip
                refine lv_iconst (v := 0) hx hb dL_holds_418 (by decide) ?_
                refine lv_istore (lv' := [(7, .int (0 : Int32)), (0, .ref (a 329)), (1, .int (nI (cN z))), (2, .int x2), (3, .int x3), (4, .int x4), (5, .int x5), (6, .int x6), (8, .int x8)]) hx hb dL_holds_419 hl (by decide) rfl (fun ls hl => ?_)
                refine q_eqIz (show v_L_holds_t361 z x2 x3 x4 x5 x6 x7 x8 = v_L_holds_t421_0 z x2 from (if_neg c22).trans ((if_pos c23).trans ((if_pos c24).trans ((if_pos c25).trans ((if_pos c26).trans ((if_neg c27).trans rfl)))))) rfl ?_
                exact T_421_0 _  _ _ hP hS ls (lv_sub hl [1, 2, 3, 0] rfl)
              · skip
                refine lv_iconst (v := 1) hx hb dL_holds_414 (by decide) ?_
                refine lv_goto (tgt := 419) hx hb dL_holds_415 (by decide) ?_
                refine lv_istore (lv' := [(7, .int (1 : Int32)), (0, .ref (a 329)), (1, .int (nI (cN z))), (2, .int x2), (3, .int x3), (4, .int x4), (5, .int x5), (6, .int x6), (8, .int x8)]) hx hb dL_holds_419 hl (by decide) rfl (fun ls hl => ?_)
                refine q_eqIz (show v_L_holds_t361 z x2 x3 x4 x5 x6 x7 x8 = v_L_holds_t421_1 z x2 from (if_neg c22).trans ((if_pos c23).trans ((if_pos c24).trans ((if_pos c25).trans ((if_pos c26).trans ((if_pos c27).trans rfl)))))) rfl ?_
                exact T_421_1 _  _ _ hP hS ls (lv_sub hl [1, 2, 3, 0] rfl)
  have T_279 : ∀ (x2 : Int32) (x3 : Int32) (x4 : Int32) (x5 : Int32) (x6 : Int32) (x7 : Int32) (x8 : Int32) (H : Heap) (locs : List Loc), cP G a z H → va_S (gA 334 a) s.heap H locs → ∀ ls : Array Slot, lv_has ls 11 [(0, .ref (a 329)), (1, .int (nI (cN z))), (2, .int x2), (3, .int x3), (4, .int x4), (5, .int x5), (6, .int x6), (7, .int x7), (8, .int x8)] → W p l e (rmK 6) s m args below meth c H locs 0 0 (MQ below (qcI G (gA 334 a) (cP G a z) (v_L_holds_t279 z x2 x3 x4 x5 x6 x7 x8)) args s 0 0 (gA 334 a)) (F0 m 279 ls []) := by
    intro x2 x3 x4 x5 x6 x7 x8 H locs hP hS ls hl
    refine lv_iconst (v := 0) hx hb dL_holds_279 (by decide) ?_
    refine lv_istore (lv' := [(10, .int (0 : Int32)), (0, .ref (a 329)), (1, .int (nI (cN z))), (2, .int x2), (3, .int x3), (4, .int x4), (5, .int x5), (6, .int x6), (7, .int x7), (8, .int x8)]) hx hb dL_holds_280 hl (by decide) rfl (fun ls hl => ?_)
    have LP_loop3 : ∀ (n : Nat) (k : Nat), k + n = qN z + 1 → ∀ (x6 : Int32) (x7 : Int32) (H : Heap) (locs : List Loc), cP G a z H → va_S (gA 334 a) s.heap H locs → ∀ ls : Array Slot, lv_has ls 11 [(10, .int (nI k)), (0, .ref (a 329)), (1, .int (nI (cN z))), (2, .int x2), (3, .int x3), (4, .int x4), (5, .int x5), (6, .int x6), (7, .int x7), (8, .int x8)] → W p l e (rmK 6) s m args below meth c H locs 0 0 (MQ below (qcI G (gA 334 a) (cP G a z) (v_L_holds_loop3 z x2 x3 x4 x5 x8 n k x6 x7)) args s 0 0 (gA 334 a)) (F0 m 282 ls []) := by
      intro n
      induction n with
      | zero =>
        intro k hk_LP_loop3 x6 x7 H locs hP hS ls hl
        refine lv_iload hx hb dL_holds_282 (lv_at hl 0 rfl) ?_
        refine lv_aload_n hx hb dL_holds_284 rfl (lv_at hl 1 rfl) ?_
        refine lv_iconst (v := 0) hx hb dL_holds_285 (by decide) ?_
        refine r_callI S hK hP (c_X5_count l G a hI z _ hR hJ) (r_cw S k_67 k_64 k_65 k_66 k_2 q_X5_count ⟨Nat.le_of_ble_eq_true rfl, Nat.le_of_ble_eq_true rfl⟩ rfl rfl) (g_recv hK hP (i := 329) (by omega) cC0 rfl) rfl hl.1 rfl (Nat.le_of_ble_eq_true rfl) dL_holds_286 ⟨Nat.zero_le _, Nat.zero_le _⟩ hS (fun _ h => h) (fun H locs hP _ _ hS => ?_)
        have hP : cP G a z H := hP
        refine lv_bipush (v := 100) hx hb dL_holds_289 (by decide) ?_
        refine lv_idiv hx hb dL_holds_291 (by decide) ?_
        refine r_top (v := nI (qN z)) hq ?_
        refine lv_icmp_gt (tgt := 361) hx hb dL_holds_292 (by decide) (fun _ => ?_) (fun c => absurd ((nI_ltI (a := (qN z)) (b := k) (by omega) (by omega)).mpr (by omega)) c)
        refine q_eqIz (show v_L_holds_loop3 z x2 x3 x4 x5 x8 0 k x6 x7 = v_L_holds_t361 z x2 x3 x4 x5 x6 x7 x8 from rfl) rfl ?_
        exact T_361 _ _ _ _ _ _ _  _ _ hP hS ls (lv_sub hl [1, 2, 3, 4, 5, 6, 7, 8, 9] rfl)
      | succ n ih_LP_loop3 =>
        intro k hk_LP_loop3 x6 x7 H locs hP hS ls hl
        refine lv_iload hx hb dL_holds_282 (lv_at hl 0 rfl) ?_
        refine lv_aload_n hx hb dL_holds_284 rfl (lv_at hl 1 rfl) ?_
        refine lv_iconst (v := 0) hx hb dL_holds_285 (by decide) ?_
        refine r_callI S hK hP (c_X5_count l G a hI z _ hR hJ) (r_cw S k_67 k_64 k_65 k_66 k_2 q_X5_count ⟨Nat.le_of_ble_eq_true rfl, Nat.le_of_ble_eq_true rfl⟩ rfl rfl) (g_recv hK hP (i := 329) (by omega) cC0 rfl) rfl hl.1 rfl (Nat.le_of_ble_eq_true rfl) dL_holds_286 ⟨Nat.zero_le _, Nat.zero_le _⟩ hS (fun _ h => h) (fun H locs hP _ _ hS => ?_)
        have hP : cP G a z H := hP
        refine lv_bipush (v := 100) hx hb dL_holds_289 (by decide) ?_
        refine lv_idiv hx hb dL_holds_291 (by decide) ?_
        refine r_top (v := nI (qN z)) hq ?_
        refine lv_icmp_gt (tgt := 361) hx hb dL_holds_292 (by decide) (fun c => absurd c (fun zq => absurd ((nI_ltI (a := (qN z)) (b := k) (by omega) (by omega)).mp zq) (by omega))) (fun _ => ?_)
        refine lv_iload hx hb dL_holds_295 (lv_at hl 7 rfl) ?_
        refine lv_aload_n hx hb dL_holds_297 rfl (lv_at hl 1 rfl) ?_
        refine lv_iload hx hb dL_holds_298 (lv_at hl 0 rfl) ?_
        refine lv_iconst (v := 0) hx hb dL_holds_300 (by decide) ?_
        refine r_callI S hK hP (c_X5_tax l G a hI z _ _ hR hJ) (r_cw S k_249 k_246 k_247 k_248 k_2 q_X5_tax ⟨Nat.le_of_ble_eq_true rfl, Nat.le_of_ble_eq_true rfl⟩ rfl rfl) (g_recv hK hP (i := 329) (by omega) cC0 rfl) rfl hl.1 rfl (Nat.le_of_ble_eq_true rfl) dL_holds_301 ⟨Nat.zero_le _, Nat.zero_le _⟩ hS (fun _ h => h) (fun H locs hP _ _ hS => ?_)
        have hP : cP G a z H := hP
        refine lv_isub hx hb dL_holds_304 ?_
        refine lv_istore (lv' := [(6, .int (x6 - (v_X5_tax z (nI k) (0 : Int32)))), (10, .int (nI k)), (0, .ref (a 329)), (1, .int (nI (cN z))), (2, .int x2), (3, .int x3), (4, .int x4), (5, .int x5), (7, .int x7), (8, .int x8)]) hx hb dL_holds_305 hl (by decide) rfl (fun ls hl => ?_)
        refine lv_iload hx hb dL_holds_307 (lv_at hl 8 rfl) ?_
        refine lv_if_eq (tgt := 352) hx hb dL_holds_309 (by decide) (fun c18 => ?_) (fun c18 => ?_)
        · skip
          refine lv_iconst (v := 0) hx hb dL_holds_352 (by decide) ?_
          refine lv_istore (lv' := [(7, .int (0 : Int32)), (6, .int (x6 - (v_X5_tax z (nI k) (0 : Int32)))), (10, .int (nI k)), (0, .ref (a 329)), (1, .int (nI (cN z))), (2, .int x2), (3, .int x3), (4, .int x4), (5, .int x5), (8, .int x8)]) hx hb dL_holds_353 hl (by decide) rfl (fun ls hl => ?_)
          refine lv_iinc (v := nI (k + 1)) (lv' := [(10, .int (nI (k + 1))), (7, .int (0 : Int32)), (6, .int (x6 - (v_X5_tax z (nI k) (0 : Int32)))), (0, .ref (a 329)), (1, .int (nI (cN z))), (2, .int x2), (3, .int x3), (4, .int x4), (5, .int x5), (8, .int x8)]) hx hb dL_holds_355 hl (k := 2) rfl (nI_1 _) (by decide) rfl (fun ls hl => ?_)
          refine lv_goto (tgt := 282) hx hb dL_holds_358 (by decide) ?_
          refine q_eqIz (show v_L_holds_loop3 z x2 x3 x4 x5 x8 (n + 1) k x6 x7 = v_L_holds_loop3 z x2 x3 x4 x5 x8 n (k + 1) (x6 - (v_X5_tax z (nI k) (0 : Int32))) (0 : Int32) from (if_pos c18).trans rfl) rfl ?_
          exact ih_LP_loop3 (k + 1) (by omega) _ _ _ _ hP hS ls (lv_sub hl [0, 3, 4, 5, 6, 7, 8, 2, 1, 9] rfl)
        · skip
          refine lv_aload_n hx hb dL_holds_312 rfl (lv_at hl 2 rfl) ?_
          refine lv_iload hx hb dL_holds_313 (lv_at hl 1 rfl) ?_
          refine lv_iconst (v := 2) hx hb dL_holds_315 (by decide) ?_
          refine r_callI S hK hP (c_X5_tax l G a hI z _ _ hR hJ) (r_cw S k_249 k_246 k_247 k_248 k_2 q_X5_tax ⟨Nat.le_of_ble_eq_true rfl, Nat.le_of_ble_eq_true rfl⟩ rfl rfl) (g_recv hK hP (i := 329) (by omega) cC0 rfl) rfl hl.1 rfl (Nat.le_of_ble_eq_true rfl) dL_holds_316 ⟨Nat.zero_le _, Nat.zero_le _⟩ hS (fun _ h => h) (fun H locs hP _ _ hS => ?_)
          have hP : cP G a z H := hP
          refine lv_bipush (v := -5) hx hb dL_holds_319 (by decide) ?_
          refine lv_icmp_eq (tgt := 328) hx hb dL_holds_321 (by decide) (fun c19 => ?_) (fun c19 => ?_)
          · skip
            refine lv_iconst (v := 0) hx hb dL_holds_328 (by decide) ?_
            refine lv_iload hx hb dL_holds_329 (lv_at hl 1 rfl) ?_
            refine lv_aload_n hx hb dL_holds_331 rfl (lv_at hl 2 rfl) ?_
            refine lv_bipush (v := 14) hx hb dL_holds_332 (by decide) ?_
            refine r_callI S hK hP (c_X5_count l G a hI z _ hR hJ) (r_cw S k_67 k_64 k_65 k_66 k_2 q_X5_count ⟨Nat.le_of_ble_eq_true rfl, Nat.le_of_ble_eq_true rfl⟩ rfl rfl) (g_recv hK hP (i := 329) (by omega) cC0 rfl) rfl hl.1 rfl (Nat.le_of_ble_eq_true rfl) dL_holds_334 ⟨Nat.zero_le _, Nat.zero_le _⟩ hS (fun _ h => h) (fun H locs hP _ _ hS => ?_)
            have hP : cP G a z H := hP
            refine lv_icmp_ge (tgt := 344) hx hb dL_holds_337 (by decide) (fun c20 => ?_) (fun c20 => ?_)
            · skip
              refine lv_iconst (v := 0) hx hb dL_holds_344 (by decide) ?_
              refine lv_icmp_ne (tgt := 352) hx hb dL_holds_345 (by decide) (fun c => absurd (by decide) c) (fun _ => ?_)
              refine lv_iconst (v := 1) hx hb dL_holds_348 (by decide) ?_
              refine lv_goto (tgt := 353) hx hb dL_holds_349 (by decide) ?_
              refine lv_istore (lv' := [(7, .int (1 : Int32)), (6, .int (x6 - (v_X5_tax z (nI k) (0 : Int32)))), (10, .int (nI k)), (0, .ref (a 329)), (1, .int (nI (cN z))), (2, .int x2), (3, .int x3), (4, .int x4), (5, .int x5), (8, .int x8)]) hx hb dL_holds_353 hl (by decide) rfl (fun ls hl => ?_)
              refine lv_iinc (v := nI (k + 1)) (lv' := [(10, .int (nI (k + 1))), (7, .int (1 : Int32)), (6, .int (x6 - (v_X5_tax z (nI k) (0 : Int32)))), (0, .ref (a 329)), (1, .int (nI (cN z))), (2, .int x2), (3, .int x3), (4, .int x4), (5, .int x5), (8, .int x8)]) hx hb dL_holds_355 hl (k := 2) rfl (nI_1 _) (by decide) rfl (fun ls hl => ?_)
              refine lv_goto (tgt := 282) hx hb dL_holds_358 (by decide) ?_
              refine q_eqIz (show v_L_holds_loop3 z x2 x3 x4 x5 x8 (n + 1) k x6 x7 = v_L_holds_loop3 z x2 x3 x4 x5 x8 n (k + 1) (x6 - (v_X5_tax z (nI k) (0 : Int32))) (1 : Int32) from (if_neg c18).trans ((if_pos c19).trans ((if_pos c20).trans rfl))) rfl ?_
              exact ih_LP_loop3 (k + 1) (by omega) _ _ _ _ hP hS ls (lv_sub hl [0, 3, 4, 5, 6, 7, 8, 2, 1, 9] rfl)
            · skip
              refine lv_iconst (v := 1) hx hb dL_holds_340 (by decide) ?_
              refine lv_goto (tgt := 345) hx hb dL_holds_341 (by decide) ?_
              refine lv_icmp_ne (tgt := 352) hx hb dL_holds_345 (by decide) (fun _ => ?_) (fun c => absurd c (by decide))
              refine lv_iconst (v := 0) hx hb dL_holds_352 (by decide) ?_
              refine lv_istore (lv' := [(7, .int (0 : Int32)), (6, .int (x6 - (v_X5_tax z (nI k) (0 : Int32)))), (10, .int (nI k)), (0, .ref (a 329)), (1, .int (nI (cN z))), (2, .int x2), (3, .int x3), (4, .int x4), (5, .int x5), (8, .int x8)]) hx hb dL_holds_353 hl (by decide) rfl (fun ls hl => ?_)
              refine lv_iinc (v := nI (k + 1)) (lv' := [(10, .int (nI (k + 1))), (7, .int (0 : Int32)), (6, .int (x6 - (v_X5_tax z (nI k) (0 : Int32)))), (0, .ref (a 329)), (1, .int (nI (cN z))), (2, .int x2), (3, .int x3), (4, .int x4), (5, .int x5), (8, .int x8)]) hx hb dL_holds_355 hl (k := 2) rfl (nI_1 _) (by decide) rfl (fun ls hl => ?_)
              refine lv_goto (tgt := 282) hx hb dL_holds_358 (by decide) ?_
              refine q_eqIz (show v_L_holds_loop3 z x2 x3 x4 x5 x8 (n + 1) k x6 x7 = v_L_holds_loop3 z x2 x3 x4 x5 x8 n (k + 1) (x6 - (v_X5_tax z (nI k) (0 : Int32))) (0 : Int32) from (if_neg c18).trans ((if_pos c19).trans ((if_neg c20).trans rfl))) rfl ?_
              exact ih_LP_loop3 (k + 1) (by omega) _ _ _ _ hP hS ls (lv_sub hl [0, 3, 4, 5, 6, 7, 8, 2, 1, 9] rfl)
          · skip
            refine lv_iconst (v := 1) hx hb dL_holds_324 (by decide) ?_
            refine lv_goto (tgt := 329) hx hb dL_holds_325 (by decide) ?_
            refine lv_iload hx hb dL_holds_329 (lv_at hl 1 rfl) ?_
            refine lv_aload_n hx hb dL_holds_331 rfl (lv_at hl 2 rfl) ?_
            refine lv_bipush (v := 14) hx hb dL_holds_332 (by decide) ?_
            refine r_callI S hK hP (c_X5_count l G a hI z _ hR hJ) (r_cw S k_67 k_64 k_65 k_66 k_2 q_X5_count ⟨Nat.le_of_ble_eq_true rfl, Nat.le_of_ble_eq_true rfl⟩ rfl rfl) (g_recv hK hP (i := 329) (by omega) cC0 rfl) rfl hl.1 rfl (Nat.le_of_ble_eq_true rfl) dL_holds_334 ⟨Nat.zero_le _, Nat.zero_le _⟩ hS (fun _ h => h) (fun H locs hP _ _ hS => ?_)
            have hP : cP G a z H := hP
            refine lv_icmp_ge (tgt := 344) hx hb dL_holds_337 (by decide) (fun c21 => ?_) (fun c21 => ?_)
            · skip
              refine lv_iconst (v := 0) hx hb dL_holds_344 (by decide) ?_
              refine lv_icmp_ne (tgt := 352) hx hb dL_holds_345 (by decide) (fun _ => ?_) (fun c => absurd c (by decide))
              refine lv_iconst (v := 0) hx hb dL_holds_352 (by decide) ?_
              refine lv_istore (lv' := [(7, .int (0 : Int32)), (6, .int (x6 - (v_X5_tax z (nI k) (0 : Int32)))), (10, .int (nI k)), (0, .ref (a 329)), (1, .int (nI (cN z))), (2, .int x2), (3, .int x3), (4, .int x4), (5, .int x5), (8, .int x8)]) hx hb dL_holds_353 hl (by decide) rfl (fun ls hl => ?_)
              refine lv_iinc (v := nI (k + 1)) (lv' := [(10, .int (nI (k + 1))), (7, .int (0 : Int32)), (6, .int (x6 - (v_X5_tax z (nI k) (0 : Int32)))), (0, .ref (a 329)), (1, .int (nI (cN z))), (2, .int x2), (3, .int x3), (4, .int x4), (5, .int x5), (8, .int x8)]) hx hb dL_holds_355 hl (k := 2) rfl (nI_1 _) (by decide) rfl (fun ls hl => ?_)
              refine lv_goto (tgt := 282) hx hb dL_holds_358 (by decide) ?_
              refine q_eqIz (show v_L_holds_loop3 z x2 x3 x4 x5 x8 (n + 1) k x6 x7 = v_L_holds_loop3 z x2 x3 x4 x5 x8 n (k + 1) (x6 - (v_X5_tax z (nI k) (0 : Int32))) (0 : Int32) from (if_neg c18).trans ((if_neg c19).trans ((if_pos c21).trans rfl))) rfl ?_
              exact ih_LP_loop3 (k + 1) (by omega) _ _ _ _ hP hS ls (lv_sub hl [0, 3, 4, 5, 6, 7, 8, 2, 1, 9] rfl)
            · skip
              refine lv_iconst (v := 1) hx hb dL_holds_340 (by decide) ?_
              refine lv_goto (tgt := 345) hx hb dL_holds_341 (by decide) ?_
              refine lv_icmp_ne (tgt := 352) hx hb dL_holds_345 (by decide) (fun c => absurd (by decide) c) (fun _ => ?_)
              refine lv_iconst (v := 1) hx hb dL_holds_348 (by decide) ?_
              refine lv_goto (tgt := 353) hx hb dL_holds_349 (by decide) ?_
              refine lv_istore (lv' := [(7, .int (1 : Int32)), (6, .int (x6 - (v_X5_tax z (nI k) (0 : Int32)))), (10, .int (nI k)), (0, .ref (a 329)), (1, .int (nI (cN z))), (2, .int x2), (3, .int x3), (4, .int x4), (5, .int x5), (8, .int x8)]) hx hb dL_holds_353 hl (by decide) rfl (fun ls hl => ?_)
              refine lv_iinc (v := nI (k + 1)) (lv' := [(10, .int (nI (k + 1))), (7, .int (1 : Int32)), (6, .int (x6 - (v_X5_tax z (nI k) (0 : Int32)))), (0, .ref (a 329)), (1, .int (nI (cN z))), (2, .int x2), (3, .int x3), (4, .int x4), (5, .int x5), (8, .int x8)]) hx hb dL_holds_355 hl (k := 2) rfl (nI_1 _) (by decide) rfl (fun ls hl => ?_)
              refine lv_goto (tgt := 282) hx hb dL_holds_358 (by decide) ?_
              refine q_eqIz (show v_L_holds_loop3 z x2 x3 x4 x5 x8 (n + 1) k x6 x7 = v_L_holds_loop3 z x2 x3 x4 x5 x8 n (k + 1) (x6 - (v_X5_tax z (nI k) (0 : Int32))) (1 : Int32) from (if_neg c18).trans ((if_neg c19).trans ((if_neg c21).trans rfl))) rfl ?_
              exact ih_LP_loop3 (k + 1) (by omega) _ _ _ _ hP hS ls (lv_sub hl [0, 3, 4, 5, 6, 7, 8, 2, 1, 9] rfl)
    refine q_eqIz (show v_L_holds_t279 z x2 x3 x4 x5 x6 x7 x8 = v_L_holds_loop3 z x2 x3 x4 x5 x8 (qN z + 1) 0 x6 x7 from rfl) rfl ?_
    exact LP_loop3 (qN z + 1) 0 (by omega) _ _ _ _ hP hS ls (lv_sub hl [0, 1, 2, 3, 4, 5, 6, 7, 8, 9] rfl)
  have T_124 : ∀ (x2 : Int32) (x3 : Int32) (x4 : Int32) (x5 : Int32) (x6 : Int32) (x7 : Int32) (H : Heap) (locs : List Loc), cP G a z H → va_S (gA 334 a) s.heap H locs → ∀ ls : Array Slot, lv_has ls 11 [(0, .ref (a 329)), (1, .int (nI (cN z))), (2, .int x2), (3, .int x3), (4, .int x4), (5, .int x5), (6, .int x6), (7, .int x7)] → W p l e (rmK 6) s m args below meth c H locs 0 0 (MQ below (qcI G (gA 334 a) (cP G a z) (v_L_holds_t124 z x2 x3 x4 x5 x6 x7)) args s 0 0 (gA 334 a)) (F0 m 124 ls []) := by
    intro x2 x3 x4 x5 x6 x7 H locs hP hS ls hl
    refine lv_iconst (v := 0) hx hb dL_holds_124 (by decide) ?_
    refine lv_istore (lv' := [(8, .int (0 : Int32)), (0, .ref (a 329)), (1, .int (nI (cN z))), (2, .int x2), (3, .int x3), (4, .int x4), (5, .int x5), (6, .int x6), (7, .int x7)]) hx hb dL_holds_125 hl (by decide) rfl (fun ls hl => ?_)
    refine lv_aload_n hx hb dL_holds_127 rfl (lv_at hl 1 rfl) ?_
    refine r_callI S hK hP (c_X5_worst l G a hI z hR hJ) (r_cw S k_211 k_208 k_209 k_210 k_2 q_X5_worst ⟨Nat.le_of_ble_eq_true rfl, Nat.le_of_ble_eq_true rfl⟩ rfl rfl) (g_recv hK hP (i := 329) (by omega) cC0 rfl) rfl hl.1 rfl (Nat.le_of_ble_eq_true rfl) dL_holds_128 ⟨Nat.zero_le _, Nat.zero_le _⟩ hS (fun _ h => h) (fun H locs hP _ _ hS => ?_)
    have hP : cP G a z H := hP
    refine lv_istore (lv' := [(9, .int (v_X5_worst z)), (8, .int (0 : Int32)), (0, .ref (a 329)), (1, .int (nI (cN z))), (2, .int x2), (3, .int x3), (4, .int x4), (5, .int x5), (6, .int x6), (7, .int x7)]) hx hb dL_holds_131 hl (by decide) rfl (fun ls hl => ?_)
    refine lv_iconst (v := 0) hx hb dL_holds_133 (by decide) ?_
    refine lv_istore (lv' := [(10, .int (0 : Int32)), (9, .int (v_X5_worst z)), (8, .int (0 : Int32)), (0, .ref (a 329)), (1, .int (nI (cN z))), (2, .int x2), (3, .int x3), (4, .int x4), (5, .int x5), (6, .int x6), (7, .int x7)]) hx hb dL_holds_134 hl (by decide) rfl (fun ls hl => ?_)
    have LP_loop2 : ∀ (n : Nat) (k : Nat), k + n = 8 → ∀ (x7 : Int32) (x8 : Int32) (H : Heap) (locs : List Loc), cP G a z H → va_S (gA 334 a) s.heap H locs → ∀ ls : Array Slot, lv_has ls 11 [(10, .int (nI k)), (9, .int (v_X5_worst z)), (8, .int x8), (0, .ref (a 329)), (1, .int (nI (cN z))), (2, .int x2), (3, .int x3), (4, .int x4), (5, .int x5), (6, .int x6), (7, .int x7)] → W p l e (rmK 6) s m args below meth c H locs 0 0 (MQ below (qcI G (gA 334 a) (cP G a z) (v_L_holds_loop2 z x2 x3 x4 x5 x6 n k x7 x8)) args s 0 0 (gA 334 a)) (F0 m 136 ls []) := by
      intro n
      induction n with
      | zero =>
        intro k hk_LP_loop2 x7 x8 H locs hP hS ls hl
        refine lv_iload hx hb dL_holds_136 (lv_at hl 0 rfl) ?_
        refine lv_bipush (v := 8) hx hb dL_holds_138 (by decide) ?_
        refine lv_icmp_ge (tgt := 279) hx hb dL_holds_140 (by decide) (fun _ => ?_) (fun c => absurd ((nI_leI (a := 8) (b := k) (by omega) (by omega)).mpr (by omega)) c)
        refine q_eqIz (show v_L_holds_loop2 z x2 x3 x4 x5 x6 0 k x7 x8 = v_L_holds_t279 z x2 x3 x4 x5 x6 x7 x8 from rfl) rfl ?_
        exact T_279 _ _ _ _ _ _ _  _ _ hP hS ls (lv_sub hl [3, 4, 5, 6, 7, 8, 9, 10, 2] rfl)
      | succ n ih_LP_loop2 =>
        intro k hk_LP_loop2 x7 x8 H locs hP hS ls hl
        refine lv_iload hx hb dL_holds_136 (lv_at hl 0 rfl) ?_
        refine lv_bipush (v := 8) hx hb dL_holds_138 (by decide) ?_
        refine lv_icmp_ge (tgt := 279) hx hb dL_holds_140 (by decide) (fun c => absurd c (fun zq => absurd ((nI_leI (a := 8) (b := k) (by omega) (by omega)).mp zq) (by omega))) (fun _ => ?_)
        refine lv_iload hx hb dL_holds_143 (lv_at hl 10 rfl) ?_
        refine lv_if_eq (tgt := 279) hx hb dL_holds_145 (by decide) (fun c4 => ?_) (fun c4 => ?_)
        · skip
          refine q_eqIz (show v_L_holds_loop2 z x2 x3 x4 x5 x6 (n + 1) k x7 x8 = v_L_holds_t279 z x2 x3 x4 x5 x6 x7 x8 from (if_pos c4).trans rfl) rfl ?_
          exact T_279 _ _ _ _ _ _ _  _ _ hP hS ls (lv_sub hl [3, 4, 5, 6, 7, 8, 9, 10, 2] rfl)
        · skip
          refine lv_iload hx hb dL_holds_148 (lv_at hl 2 rfl) ?_
          refine lv_aload_n hx hb dL_holds_150 rfl (lv_at hl 3 rfl) ?_
          refine lv_iload hx hb dL_holds_151 (lv_at hl 0 rfl) ?_
          refine lv_iconst (v := 2) hx hb dL_holds_153 (by decide) ?_
          refine r_callI S hK hP (c_X5_customer l G a hI z _ _ hR hJ) (r_cw S k_215 k_212 k_213 k_214 k_2 q_X5_customer ⟨Nat.le_of_ble_eq_true rfl, Nat.le_of_ble_eq_true rfl⟩ rfl rfl) (g_recv hK hP (i := 329) (by omega) cC0 rfl) rfl hl.1 rfl (Nat.le_of_ble_eq_true rfl) dL_holds_154 ⟨Nat.zero_le _, Nat.zero_le _⟩ hS (fun _ h => h) (fun H locs hP _ _ hS => ?_)
          have hP : cP G a z H := hP
          refine lv_iadd hx hb dL_holds_157 ?_
          refine lv_istore (lv' := [(8, .int (x8 + (v_X5_customer z (nI k) (2 : Int32)))), (10, .int (nI k)), (9, .int (v_X5_worst z)), (0, .ref (a 329)), (1, .int (nI (cN z))), (2, .int x2), (3, .int x3), (4, .int x4), (5, .int x5), (6, .int x6), (7, .int x7)]) hx hb dL_holds_158 hl (by decide) rfl (fun ls hl => ?_)
          refine lv_iload hx hb dL_holds_160 (lv_at hl 2 rfl) ?_
          refine lv_bipush (v := -5) hx hb dL_holds_162 (by decide) ?_
          refine lv_icmp_ne (tgt := 185) hx hb dL_holds_164 (by decide) (fun c5 => ?_) (fun c5 => ?_)
          · skip
            refine lv_aload_n hx hb dL_holds_185 rfl (lv_at hl 3 rfl) ?_
            refine lv_iload hx hb dL_holds_186 (lv_at hl 1 rfl) ?_
            refine lv_iconst (v := 2) hx hb dL_holds_188 (by decide) ?_
            refine r_callI S hK hP (c_X5_customer l G a hI z _ _ hR hJ) (r_cw S k_215 k_212 k_213 k_214 k_2 q_X5_customer ⟨Nat.le_of_ble_eq_true rfl, Nat.le_of_ble_eq_true rfl⟩ rfl rfl) (g_recv hK hP (i := 329) (by omega) cC0 rfl) rfl hl.1 rfl (Nat.le_of_ble_eq_true rfl) dL_holds_189 ⟨Nat.zero_le _, Nat.zero_le _⟩ hS (fun _ h => h) (fun H locs hP _ _ hS => ?_)
            have hP : cP G a z H := hP
            refine lv_aload_n hx hb dL_holds_192 rfl (lv_at hl 3 rfl) ?_
            refine lv_iload hx hb dL_holds_193 (lv_at hl 2 rfl) ?_
            refine lv_iconst (v := 2) hx hb dL_holds_195 (by decide) ?_
            refine r_callI S hK hP (c_X5_customer l G a hI z _ _ hR hJ) (r_cw S k_215 k_212 k_213 k_214 k_2 q_X5_customer ⟨Nat.le_of_ble_eq_true rfl, Nat.le_of_ble_eq_true rfl⟩ rfl rfl) (g_recv hK hP (i := 329) (by omega) cC0 rfl) rfl hl.1 rfl (Nat.le_of_ble_eq_true rfl) dL_holds_196 ⟨Nat.zero_le _, Nat.zero_le _⟩ hS (fun _ h => h) (fun H locs hP _ _ hS => ?_)
            have hP : cP G a z H := hP
            refine lv_icmp_gt (tgt := 206) hx hb dL_holds_199 (by decide) (fun c6 => ?_) (fun c6 => ?_)
            · skip
              refine lv_iconst (v := 0) hx hb dL_holds_206 (by decide) ?_
              refine lv_istore (lv' := [(7, .int (0 : Int32)), (8, .int (x8 + (v_X5_customer z (nI k) (2 : Int32)))), (10, .int (nI k)), (9, .int (v_X5_worst z)), (0, .ref (a 329)), (1, .int (nI (cN z))), (2, .int x2), (3, .int x3), (4, .int x4), (5, .int x5), (6, .int x6)]) hx hb dL_holds_207 hl (by decide) rfl (fun ls hl => ?_)
              refine lv_iload hx hb dL_holds_209 (lv_at hl 0 rfl) ?_
              refine lv_if_eq (tgt := 270) hx hb dL_holds_211 (by decide) (fun _ => ?_) (fun c => absurd (by decide) c)
              refine lv_iconst (v := 0) hx hb dL_holds_270 (by decide) ?_
              refine lv_istore (lv' := [(7, .int (0 : Int32)), (8, .int (x8 + (v_X5_customer z (nI k) (2 : Int32)))), (10, .int (nI k)), (9, .int (v_X5_worst z)), (0, .ref (a 329)), (1, .int (nI (cN z))), (2, .int x2), (3, .int x3), (4, .int x4), (5, .int x5), (6, .int x6)]) hx hb dL_holds_271 hl (by decide) rfl (fun ls hl => ?_)
              refine lv_iinc (v := nI (k + 1)) (lv' := [(10, .int (nI (k + 1))), (7, .int (0 : Int32)), (8, .int (x8 + (v_X5_customer z (nI k) (2 : Int32)))), (9, .int (v_X5_worst z)), (0, .ref (a 329)), (1, .int (nI (cN z))), (2, .int x2), (3, .int x3), (4, .int x4), (5, .int x5), (6, .int x6)]) hx hb dL_holds_273 hl (k := 2) rfl (nI_1 _) (by decide) rfl (fun ls hl => ?_)
              refine lv_goto (tgt := 136) hx hb dL_holds_276 (by decide) ?_
              refine q_eqIz (show v_L_holds_loop2 z x2 x3 x4 x5 x6 (n + 1) k x7 x8 = v_L_holds_loop2 z x2 x3 x4 x5 x6 n (k + 1) (0 : Int32) (x8 + (v_X5_customer z (nI k) (2 : Int32))) from (if_neg c4).trans ((if_neg c5).trans ((if_pos c6).trans rfl))) rfl ?_
              exact ih_LP_loop2 (k + 1) (by omega) _ _ _ _ hP hS ls (lv_sub hl [0, 3, 2, 4, 5, 6, 7, 8, 9, 10, 1] rfl)
            · skip
              refine lv_iconst (v := 1) hx hb dL_holds_202 (by decide) ?_
              refine lv_goto (tgt := 207) hx hb dL_holds_203 (by decide) ?_
              refine lv_istore (lv' := [(7, .int (1 : Int32)), (8, .int (x8 + (v_X5_customer z (nI k) (2 : Int32)))), (10, .int (nI k)), (9, .int (v_X5_worst z)), (0, .ref (a 329)), (1, .int (nI (cN z))), (2, .int x2), (3, .int x3), (4, .int x4), (5, .int x5), (6, .int x6)]) hx hb dL_holds_207 hl (by decide) rfl (fun ls hl => ?_)
              refine lv_iload hx hb dL_holds_209 (lv_at hl 0 rfl) ?_
              refine lv_if_eq (tgt := 270) hx hb dL_holds_211 (by decide) (fun c => absurd c (by decide)) (fun _ => ?_)
              refine lv_aload_n hx hb dL_holds_214 rfl (lv_at hl 4 rfl) ?_
              refine lv_iload hx hb dL_holds_215 (lv_at hl 2 rfl) ?_
              refine lv_bipush (v := 6) hx hb dL_holds_217 (by decide) ?_
              refine r_callI S hK hP (c_X5_customer l G a hI z _ _ hR hJ) (r_cw S k_215 k_212 k_213 k_214 k_2 q_X5_customer ⟨Nat.le_of_ble_eq_true rfl, Nat.le_of_ble_eq_true rfl⟩ rfl rfl) (g_recv hK hP (i := 329) (by omega) cC0 rfl) rfl hl.1 rfl (Nat.le_of_ble_eq_true rfl) dL_holds_219 ⟨Nat.zero_le _, Nat.zero_le _⟩ hS (fun _ h => h) (fun H locs hP _ _ hS => ?_)
              have hP : cP G a z H := hP
              refine lv_bipush (v := -5) hx hb dL_holds_222 (by decide) ?_
              refine lv_icmp_ne (tgt := 231) hx hb dL_holds_224 (by decide) (fun c7 => ?_) (fun c7 => ?_)
              · skip
                refine lv_iconst (v := 0) hx hb dL_holds_231 (by decide) ?_
                refine lv_aload_n hx hb dL_holds_232 rfl (lv_at hl 4 rfl) ?_
                refine lv_iload hx hb dL_holds_233 (lv_at hl 2 rfl) ?_
                refine lv_iconst (v := 1) hx hb dL_holds_235 (by decide) ?_
                refine r_callI S hK hP (c_X5_customer l G a hI z _ _ hR hJ) (r_cw S k_215 k_212 k_213 k_214 k_2 q_X5_customer ⟨Nat.le_of_ble_eq_true rfl, Nat.le_of_ble_eq_true rfl⟩ rfl rfl) (g_recv hK hP (i := 329) (by omega) cC0 rfl) rfl hl.1 rfl (Nat.le_of_ble_eq_true rfl) dL_holds_236 ⟨Nat.zero_le _, Nat.zero_le _⟩ hS (fun _ h => h) (fun H locs hP _ _ hS => ?_)
                have hP : cP G a z H := hP
                refine lv_if_ne (tgt := 246) hx hb dL_holds_239 (by decide) (fun c8 => ?_) (fun c8 => ?_)
                · skip
                  refine lv_iconst (v := 0) hx hb dL_holds_246 (by decide) ?_
                  refine lv_icmp_ne (tgt := 270) hx hb dL_holds_247 (by decide) (fun c => absurd (by decide) c) (fun _ => ?_)
                  refine lv_aload_n hx hb dL_holds_250 rfl (lv_at hl 4 rfl) ?_
                  refine lv_iload hx hb dL_holds_251 (lv_at hl 2 rfl) ?_
                  refine r_callI S hK hP (c_X5_settles l G a hI z _ hR hJ) (r_cw S k_230 k_227 k_228 k_229 k_2 q_X5_settles ⟨Nat.le_of_ble_eq_true rfl, Nat.le_of_ble_eq_true rfl⟩ rfl rfl) (g_recv hK hP (i := 329) (by omega) cC0 rfl) rfl hl.1 rfl (Nat.le_of_ble_eq_true rfl) dL_holds_253 ⟨Nat.zero_le _, Nat.zero_le _⟩ hS (fun _ h => h) (fun H locs hP _ _ hS => ?_)
                  have hP : cP G a z H := hP
                  refine lv_aload_n hx hb dL_holds_256 rfl (lv_at hl 4 rfl) ?_
                  refine lv_iload hx hb dL_holds_257 (lv_at hl 2 rfl) ?_
                  refine lv_iconst (v := 2) hx hb dL_holds_259 (by decide) ?_
                  refine r_callI S hK hP (c_X5_customer l G a hI z _ _ hR hJ) (r_cw S k_215 k_212 k_213 k_214 k_2 q_X5_customer ⟨Nat.le_of_ble_eq_true rfl, Nat.le_of_ble_eq_true rfl⟩ rfl rfl) (g_recv hK hP (i := 329) (by omega) cC0 rfl) rfl hl.1 rfl (Nat.le_of_ble_eq_true rfl) dL_holds_260 ⟨Nat.zero_le _, Nat.zero_le _⟩ hS (fun _ h => h) (fun H locs hP _ _ hS => ?_)
                  have hP : cP G a z H := hP
                  refine lv_icmp_gt (tgt := 270) hx hb dL_holds_263 (by decide) (fun c9 => ?_) (fun c9 => ?_)
                  · skip
                    refine lv_iconst (v := 0) hx hb dL_holds_270 (by decide) ?_
                    refine lv_istore (lv' := [(7, .int (0 : Int32)), (8, .int (x8 + (v_X5_customer z (nI k) (2 : Int32)))), (10, .int (nI k)), (9, .int (v_X5_worst z)), (0, .ref (a 329)), (1, .int (nI (cN z))), (2, .int x2), (3, .int x3), (4, .int x4), (5, .int x5), (6, .int x6)]) hx hb dL_holds_271 hl (by decide) rfl (fun ls hl => ?_)
                    refine lv_iinc (v := nI (k + 1)) (lv' := [(10, .int (nI (k + 1))), (7, .int (0 : Int32)), (8, .int (x8 + (v_X5_customer z (nI k) (2 : Int32)))), (9, .int (v_X5_worst z)), (0, .ref (a 329)), (1, .int (nI (cN z))), (2, .int x2), (3, .int x3), (4, .int x4), (5, .int x5), (6, .int x6)]) hx hb dL_holds_273 hl (k := 2) rfl (nI_1 _) (by decide) rfl (fun ls hl => ?_)
                    refine lv_goto (tgt := 136) hx hb dL_holds_276 (by decide) ?_
                    refine q_eqIz (show v_L_holds_loop2 z x2 x3 x4 x5 x6 (n + 1) k x7 x8 = v_L_holds_loop2 z x2 x3 x4 x5 x6 n (k + 1) (0 : Int32) (x8 + (v_X5_customer z (nI k) (2 : Int32))) from (if_neg c4).trans ((if_neg c5).trans ((if_neg c6).trans ((if_neg c7).trans ((if_neg c8).trans ((if_pos c9).trans rfl)))))) rfl ?_
                    exact ih_LP_loop2 (k + 1) (by omega) _ _ _ _ hP hS ls (lv_sub hl [0, 3, 2, 4, 5, 6, 7, 8, 9, 10, 1] rfl)
                  · skip
                    refine lv_iconst (v := 1) hx hb dL_holds_266 (by decide) ?_
                    refine lv_goto (tgt := 271) hx hb dL_holds_267 (by decide) ?_
                    refine lv_istore (lv' := [(7, .int (1 : Int32)), (8, .int (x8 + (v_X5_customer z (nI k) (2 : Int32)))), (10, .int (nI k)), (9, .int (v_X5_worst z)), (0, .ref (a 329)), (1, .int (nI (cN z))), (2, .int x2), (3, .int x3), (4, .int x4), (5, .int x5), (6, .int x6)]) hx hb dL_holds_271 hl (by decide) rfl (fun ls hl => ?_)
                    refine lv_iinc (v := nI (k + 1)) (lv' := [(10, .int (nI (k + 1))), (7, .int (1 : Int32)), (8, .int (x8 + (v_X5_customer z (nI k) (2 : Int32)))), (9, .int (v_X5_worst z)), (0, .ref (a 329)), (1, .int (nI (cN z))), (2, .int x2), (3, .int x3), (4, .int x4), (5, .int x5), (6, .int x6)]) hx hb dL_holds_273 hl (k := 2) rfl (nI_1 _) (by decide) rfl (fun ls hl => ?_)
                    refine lv_goto (tgt := 136) hx hb dL_holds_276 (by decide) ?_
                    refine q_eqIz (show v_L_holds_loop2 z x2 x3 x4 x5 x6 (n + 1) k x7 x8 = v_L_holds_loop2 z x2 x3 x4 x5 x6 n (k + 1) (1 : Int32) (x8 + (v_X5_customer z (nI k) (2 : Int32))) from (if_neg c4).trans ((if_neg c5).trans ((if_neg c6).trans ((if_neg c7).trans ((if_neg c8).trans ((if_neg c9).trans rfl)))))) rfl ?_
                    exact ih_LP_loop2 (k + 1) (by omega) _ _ _ _ hP hS ls (lv_sub hl [0, 3, 2, 4, 5, 6, 7, 8, 9, 10, 1] rfl)
                · skip
                  refine lv_iconst (v := 1) hx hb dL_holds_242 (by decide) ?_
                  refine lv_goto (tgt := 247) hx hb dL_holds_243 (by decide) ?_
                  refine lv_icmp_ne (tgt := 270) hx hb dL_holds_247 (by decide) (fun _ => ?_) (fun c => absurd c (by decide))
                  refine lv_iconst (v := 0) hx hb dL_holds_270 (by decide) ?_
                  refine lv_istore (lv' := [(7, .int (0 : Int32)), (8, .int (x8 + (v_X5_customer z (nI k) (2 : Int32)))), (10, .int (nI k)), (9, .int (v_X5_worst z)), (0, .ref (a 329)), (1, .int (nI (cN z))), (2, .int x2), (3, .int x3), (4, .int x4), (5, .int x5), (6, .int x6)]) hx hb dL_holds_271 hl (by decide) rfl (fun ls hl => ?_)
                  refine lv_iinc (v := nI (k + 1)) (lv' := [(10, .int (nI (k + 1))), (7, .int (0 : Int32)), (8, .int (x8 + (v_X5_customer z (nI k) (2 : Int32)))), (9, .int (v_X5_worst z)), (0, .ref (a 329)), (1, .int (nI (cN z))), (2, .int x2), (3, .int x3), (4, .int x4), (5, .int x5), (6, .int x6)]) hx hb dL_holds_273 hl (k := 2) rfl (nI_1 _) (by decide) rfl (fun ls hl => ?_)
                  refine lv_goto (tgt := 136) hx hb dL_holds_276 (by decide) ?_
                  refine q_eqIz (show v_L_holds_loop2 z x2 x3 x4 x5 x6 (n + 1) k x7 x8 = v_L_holds_loop2 z x2 x3 x4 x5 x6 n (k + 1) (0 : Int32) (x8 + (v_X5_customer z (nI k) (2 : Int32))) from (if_neg c4).trans ((if_neg c5).trans ((if_neg c6).trans ((if_neg c7).trans ((if_pos c8).trans rfl))))) rfl ?_
                  exact ih_LP_loop2 (k + 1) (by omega) _ _ _ _ hP hS ls (lv_sub hl [0, 3, 2, 4, 5, 6, 7, 8, 9, 10, 1] rfl)
              · skip
                refine lv_iconst (v := 1) hx hb dL_holds_227 (by decide) ?_
                refine lv_goto (tgt := 232) hx hb dL_holds_228 (by decide) ?_
                refine lv_aload_n hx hb dL_holds_232 rfl (lv_at hl 4 rfl) ?_
                refine lv_iload hx hb dL_holds_233 (lv_at hl 2 rfl) ?_
                refine lv_iconst (v := 1) hx hb dL_holds_235 (by decide) ?_
                refine r_callI S hK hP (c_X5_customer l G a hI z _ _ hR hJ) (r_cw S k_215 k_212 k_213 k_214 k_2 q_X5_customer ⟨Nat.le_of_ble_eq_true rfl, Nat.le_of_ble_eq_true rfl⟩ rfl rfl) (g_recv hK hP (i := 329) (by omega) cC0 rfl) rfl hl.1 rfl (Nat.le_of_ble_eq_true rfl) dL_holds_236 ⟨Nat.zero_le _, Nat.zero_le _⟩ hS (fun _ h => h) (fun H locs hP _ _ hS => ?_)
                have hP : cP G a z H := hP
                refine lv_if_ne (tgt := 246) hx hb dL_holds_239 (by decide) (fun c10 => ?_) (fun c10 => ?_)
                · skip
                  refine lv_iconst (v := 0) hx hb dL_holds_246 (by decide) ?_
                  refine lv_icmp_ne (tgt := 270) hx hb dL_holds_247 (by decide) (fun _ => ?_) (fun c => absurd c (by decide))
                  refine lv_iconst (v := 0) hx hb dL_holds_270 (by decide) ?_
                  refine lv_istore (lv' := [(7, .int (0 : Int32)), (8, .int (x8 + (v_X5_customer z (nI k) (2 : Int32)))), (10, .int (nI k)), (9, .int (v_X5_worst z)), (0, .ref (a 329)), (1, .int (nI (cN z))), (2, .int x2), (3, .int x3), (4, .int x4), (5, .int x5), (6, .int x6)]) hx hb dL_holds_271 hl (by decide) rfl (fun ls hl => ?_)
                  refine lv_iinc (v := nI (k + 1)) (lv' := [(10, .int (nI (k + 1))), (7, .int (0 : Int32)), (8, .int (x8 + (v_X5_customer z (nI k) (2 : Int32)))), (9, .int (v_X5_worst z)), (0, .ref (a 329)), (1, .int (nI (cN z))), (2, .int x2), (3, .int x3), (4, .int x4), (5, .int x5), (6, .int x6)]) hx hb dL_holds_273 hl (k := 2) rfl (nI_1 _) (by decide) rfl (fun ls hl => ?_)
                  refine lv_goto (tgt := 136) hx hb dL_holds_276 (by decide) ?_
                  refine q_eqIz (show v_L_holds_loop2 z x2 x3 x4 x5 x6 (n + 1) k x7 x8 = v_L_holds_loop2 z x2 x3 x4 x5 x6 n (k + 1) (0 : Int32) (x8 + (v_X5_customer z (nI k) (2 : Int32))) from (if_neg c4).trans ((if_neg c5).trans ((if_neg c6).trans ((if_pos c7).trans ((if_neg c10).trans rfl))))) rfl ?_
                  exact ih_LP_loop2 (k + 1) (by omega) _ _ _ _ hP hS ls (lv_sub hl [0, 3, 2, 4, 5, 6, 7, 8, 9, 10, 1] rfl)
                · skip
                  refine lv_iconst (v := 1) hx hb dL_holds_242 (by decide) ?_
                  refine lv_goto (tgt := 247) hx hb dL_holds_243 (by decide) ?_
                  refine lv_icmp_ne (tgt := 270) hx hb dL_holds_247 (by decide) (fun c => absurd (by decide) c) (fun _ => ?_)
                  refine lv_aload_n hx hb dL_holds_250 rfl (lv_at hl 4 rfl) ?_
                  refine lv_iload hx hb dL_holds_251 (lv_at hl 2 rfl) ?_
                  refine r_callI S hK hP (c_X5_settles l G a hI z _ hR hJ) (r_cw S k_230 k_227 k_228 k_229 k_2 q_X5_settles ⟨Nat.le_of_ble_eq_true rfl, Nat.le_of_ble_eq_true rfl⟩ rfl rfl) (g_recv hK hP (i := 329) (by omega) cC0 rfl) rfl hl.1 rfl (Nat.le_of_ble_eq_true rfl) dL_holds_253 ⟨Nat.zero_le _, Nat.zero_le _⟩ hS (fun _ h => h) (fun H locs hP _ _ hS => ?_)
                  have hP : cP G a z H := hP
                  refine lv_aload_n hx hb dL_holds_256 rfl (lv_at hl 4 rfl) ?_
                  refine lv_iload hx hb dL_holds_257 (lv_at hl 2 rfl) ?_
                  refine lv_iconst (v := 2) hx hb dL_holds_259 (by decide) ?_
                  refine r_callI S hK hP (c_X5_customer l G a hI z _ _ hR hJ) (r_cw S k_215 k_212 k_213 k_214 k_2 q_X5_customer ⟨Nat.le_of_ble_eq_true rfl, Nat.le_of_ble_eq_true rfl⟩ rfl rfl) (g_recv hK hP (i := 329) (by omega) cC0 rfl) rfl hl.1 rfl (Nat.le_of_ble_eq_true rfl) dL_holds_260 ⟨Nat.zero_le _, Nat.zero_le _⟩ hS (fun _ h => h) (fun H locs hP _ _ hS => ?_)
                  have hP : cP G a z H := hP
                  refine lv_icmp_gt (tgt := 270) hx hb dL_holds_263 (by decide) (fun c11 => ?_) (fun c11 => ?_)
                  · skip
                    refine lv_iconst (v := 0) hx hb dL_holds_270 (by decide) ?_
                    refine lv_istore (lv' := [(7, .int (0 : Int32)), (8, .int (x8 + (v_X5_customer z (nI k) (2 : Int32)))), (10, .int (nI k)), (9, .int (v_X5_worst z)), (0, .ref (a 329)), (1, .int (nI (cN z))), (2, .int x2), (3, .int x3), (4, .int x4), (5, .int x5), (6, .int x6)]) hx hb dL_holds_271 hl (by decide) rfl (fun ls hl => ?_)
                    refine lv_iinc (v := nI (k + 1)) (lv' := [(10, .int (nI (k + 1))), (7, .int (0 : Int32)), (8, .int (x8 + (v_X5_customer z (nI k) (2 : Int32)))), (9, .int (v_X5_worst z)), (0, .ref (a 329)), (1, .int (nI (cN z))), (2, .int x2), (3, .int x3), (4, .int x4), (5, .int x5), (6, .int x6)]) hx hb dL_holds_273 hl (k := 2) rfl (nI_1 _) (by decide) rfl (fun ls hl => ?_)
                    refine lv_goto (tgt := 136) hx hb dL_holds_276 (by decide) ?_
                    refine q_eqIz (show v_L_holds_loop2 z x2 x3 x4 x5 x6 (n + 1) k x7 x8 = v_L_holds_loop2 z x2 x3 x4 x5 x6 n (k + 1) (0 : Int32) (x8 + (v_X5_customer z (nI k) (2 : Int32))) from (if_neg c4).trans ((if_neg c5).trans ((if_neg c6).trans ((if_pos c7).trans ((if_pos c10).trans ((if_pos c11).trans rfl)))))) rfl ?_
                    exact ih_LP_loop2 (k + 1) (by omega) _ _ _ _ hP hS ls (lv_sub hl [0, 3, 2, 4, 5, 6, 7, 8, 9, 10, 1] rfl)
                  · skip
                    refine lv_iconst (v := 1) hx hb dL_holds_266 (by decide) ?_
                    refine lv_goto (tgt := 271) hx hb dL_holds_267 (by decide) ?_
                    refine lv_istore (lv' := [(7, .int (1 : Int32)), (8, .int (x8 + (v_X5_customer z (nI k) (2 : Int32)))), (10, .int (nI k)), (9, .int (v_X5_worst z)), (0, .ref (a 329)), (1, .int (nI (cN z))), (2, .int x2), (3, .int x3), (4, .int x4), (5, .int x5), (6, .int x6)]) hx hb dL_holds_271 hl (by decide) rfl (fun ls hl => ?_)
                    refine lv_iinc (v := nI (k + 1)) (lv' := [(10, .int (nI (k + 1))), (7, .int (1 : Int32)), (8, .int (x8 + (v_X5_customer z (nI k) (2 : Int32)))), (9, .int (v_X5_worst z)), (0, .ref (a 329)), (1, .int (nI (cN z))), (2, .int x2), (3, .int x3), (4, .int x4), (5, .int x5), (6, .int x6)]) hx hb dL_holds_273 hl (k := 2) rfl (nI_1 _) (by decide) rfl (fun ls hl => ?_)
                    refine lv_goto (tgt := 136) hx hb dL_holds_276 (by decide) ?_
                    refine q_eqIz (show v_L_holds_loop2 z x2 x3 x4 x5 x6 (n + 1) k x7 x8 = v_L_holds_loop2 z x2 x3 x4 x5 x6 n (k + 1) (1 : Int32) (x8 + (v_X5_customer z (nI k) (2 : Int32))) from (if_neg c4).trans ((if_neg c5).trans ((if_neg c6).trans ((if_pos c7).trans ((if_pos c10).trans ((if_neg c11).trans rfl)))))) rfl ?_
                    exact ih_LP_loop2 (k + 1) (by omega) _ _ _ _ hP hS ls (lv_sub hl [0, 3, 2, 4, 5, 6, 7, 8, 9, 10, 1] rfl)
          · skip
            refine lv_aload_n hx hb dL_holds_167 rfl (lv_at hl 3 rfl) ?_
            refine lv_iload hx hb dL_holds_168 (lv_at hl 1 rfl) ?_
            refine lv_iconst (v := 2) hx hb dL_holds_170 (by decide) ?_
            refine r_callI S hK hP (c_X5_customer l G a hI z _ _ hR hJ) (r_cw S k_215 k_212 k_213 k_214 k_2 q_X5_customer ⟨Nat.le_of_ble_eq_true rfl, Nat.le_of_ble_eq_true rfl⟩ rfl rfl) (g_recv hK hP (i := 329) (by omega) cC0 rfl) rfl hl.1 rfl (Nat.le_of_ble_eq_true rfl) dL_holds_171 ⟨Nat.zero_le _, Nat.zero_le _⟩ hS (fun _ h => h) (fun H locs hP _ _ hS => ?_)
            have hP : cP G a z H := hP
            refine lv_if_ne (tgt := 181) hx hb dL_holds_174 (by decide) (fun c12 => ?_) (fun c12 => ?_)
            · skip
              refine lv_iconst (v := 0) hx hb dL_holds_181 (by decide) ?_
              refine lv_goto (tgt := 207) hx hb dL_holds_182 (by decide) ?_
              refine lv_istore (lv' := [(7, .int (0 : Int32)), (8, .int (x8 + (v_X5_customer z (nI k) (2 : Int32)))), (10, .int (nI k)), (9, .int (v_X5_worst z)), (0, .ref (a 329)), (1, .int (nI (cN z))), (2, .int x2), (3, .int x3), (4, .int x4), (5, .int x5), (6, .int x6)]) hx hb dL_holds_207 hl (by decide) rfl (fun ls hl => ?_)
              refine lv_iload hx hb dL_holds_209 (lv_at hl 0 rfl) ?_
              refine lv_if_eq (tgt := 270) hx hb dL_holds_211 (by decide) (fun _ => ?_) (fun c => absurd (by decide) c)
              refine lv_iconst (v := 0) hx hb dL_holds_270 (by decide) ?_
              refine lv_istore (lv' := [(7, .int (0 : Int32)), (8, .int (x8 + (v_X5_customer z (nI k) (2 : Int32)))), (10, .int (nI k)), (9, .int (v_X5_worst z)), (0, .ref (a 329)), (1, .int (nI (cN z))), (2, .int x2), (3, .int x3), (4, .int x4), (5, .int x5), (6, .int x6)]) hx hb dL_holds_271 hl (by decide) rfl (fun ls hl => ?_)
              refine lv_iinc (v := nI (k + 1)) (lv' := [(10, .int (nI (k + 1))), (7, .int (0 : Int32)), (8, .int (x8 + (v_X5_customer z (nI k) (2 : Int32)))), (9, .int (v_X5_worst z)), (0, .ref (a 329)), (1, .int (nI (cN z))), (2, .int x2), (3, .int x3), (4, .int x4), (5, .int x5), (6, .int x6)]) hx hb dL_holds_273 hl (k := 2) rfl (nI_1 _) (by decide) rfl (fun ls hl => ?_)
              refine lv_goto (tgt := 136) hx hb dL_holds_276 (by decide) ?_
              refine q_eqIz (show v_L_holds_loop2 z x2 x3 x4 x5 x6 (n + 1) k x7 x8 = v_L_holds_loop2 z x2 x3 x4 x5 x6 n (k + 1) (0 : Int32) (x8 + (v_X5_customer z (nI k) (2 : Int32))) from (if_neg c4).trans ((if_pos c5).trans ((if_neg c12).trans rfl))) rfl ?_
              exact ih_LP_loop2 (k + 1) (by omega) _ _ _ _ hP hS ls (lv_sub hl [0, 3, 2, 4, 5, 6, 7, 8, 9, 10, 1] rfl)
            · skip
              refine lv_iconst (v := 1) hx hb dL_holds_177 (by decide) ?_
              refine lv_goto (tgt := 207) hx hb dL_holds_178 (by decide) ?_
              refine lv_istore (lv' := [(7, .int (1 : Int32)), (8, .int (x8 + (v_X5_customer z (nI k) (2 : Int32)))), (10, .int (nI k)), (9, .int (v_X5_worst z)), (0, .ref (a 329)), (1, .int (nI (cN z))), (2, .int x2), (3, .int x3), (4, .int x4), (5, .int x5), (6, .int x6)]) hx hb dL_holds_207 hl (by decide) rfl (fun ls hl => ?_)
              refine lv_iload hx hb dL_holds_209 (lv_at hl 0 rfl) ?_
              refine lv_if_eq (tgt := 270) hx hb dL_holds_211 (by decide) (fun c => absurd c (by decide)) (fun _ => ?_)
              refine lv_aload_n hx hb dL_holds_214 rfl (lv_at hl 4 rfl) ?_
              refine lv_iload hx hb dL_holds_215 (lv_at hl 2 rfl) ?_
              refine lv_bipush (v := 6) hx hb dL_holds_217 (by decide) ?_
              refine r_callI S hK hP (c_X5_customer l G a hI z _ _ hR hJ) (r_cw S k_215 k_212 k_213 k_214 k_2 q_X5_customer ⟨Nat.le_of_ble_eq_true rfl, Nat.le_of_ble_eq_true rfl⟩ rfl rfl) (g_recv hK hP (i := 329) (by omega) cC0 rfl) rfl hl.1 rfl (Nat.le_of_ble_eq_true rfl) dL_holds_219 ⟨Nat.zero_le _, Nat.zero_le _⟩ hS (fun _ h => h) (fun H locs hP _ _ hS => ?_)
              have hP : cP G a z H := hP
              refine lv_bipush (v := -5) hx hb dL_holds_222 (by decide) ?_
              refine lv_icmp_ne (tgt := 231) hx hb dL_holds_224 (by decide) (fun c13 => ?_) (fun c13 => ?_)
              · skip
                refine lv_iconst (v := 0) hx hb dL_holds_231 (by decide) ?_
                refine lv_aload_n hx hb dL_holds_232 rfl (lv_at hl 4 rfl) ?_
                refine lv_iload hx hb dL_holds_233 (lv_at hl 2 rfl) ?_
                refine lv_iconst (v := 1) hx hb dL_holds_235 (by decide) ?_
                refine r_callI S hK hP (c_X5_customer l G a hI z _ _ hR hJ) (r_cw S k_215 k_212 k_213 k_214 k_2 q_X5_customer ⟨Nat.le_of_ble_eq_true rfl, Nat.le_of_ble_eq_true rfl⟩ rfl rfl) (g_recv hK hP (i := 329) (by omega) cC0 rfl) rfl hl.1 rfl (Nat.le_of_ble_eq_true rfl) dL_holds_236 ⟨Nat.zero_le _, Nat.zero_le _⟩ hS (fun _ h => h) (fun H locs hP _ _ hS => ?_)
                have hP : cP G a z H := hP
                refine lv_if_ne (tgt := 246) hx hb dL_holds_239 (by decide) (fun c14 => ?_) (fun c14 => ?_)
                · skip
                  refine lv_iconst (v := 0) hx hb dL_holds_246 (by decide) ?_
                  refine lv_icmp_ne (tgt := 270) hx hb dL_holds_247 (by decide) (fun c => absurd (by decide) c) (fun _ => ?_)
                  refine lv_aload_n hx hb dL_holds_250 rfl (lv_at hl 4 rfl) ?_
                  refine lv_iload hx hb dL_holds_251 (lv_at hl 2 rfl) ?_
                  refine r_callI S hK hP (c_X5_settles l G a hI z _ hR hJ) (r_cw S k_230 k_227 k_228 k_229 k_2 q_X5_settles ⟨Nat.le_of_ble_eq_true rfl, Nat.le_of_ble_eq_true rfl⟩ rfl rfl) (g_recv hK hP (i := 329) (by omega) cC0 rfl) rfl hl.1 rfl (Nat.le_of_ble_eq_true rfl) dL_holds_253 ⟨Nat.zero_le _, Nat.zero_le _⟩ hS (fun _ h => h) (fun H locs hP _ _ hS => ?_)
                  have hP : cP G a z H := hP
                  refine lv_aload_n hx hb dL_holds_256 rfl (lv_at hl 4 rfl) ?_
                  refine lv_iload hx hb dL_holds_257 (lv_at hl 2 rfl) ?_
                  refine lv_iconst (v := 2) hx hb dL_holds_259 (by decide) ?_
                  refine r_callI S hK hP (c_X5_customer l G a hI z _ _ hR hJ) (r_cw S k_215 k_212 k_213 k_214 k_2 q_X5_customer ⟨Nat.le_of_ble_eq_true rfl, Nat.le_of_ble_eq_true rfl⟩ rfl rfl) (g_recv hK hP (i := 329) (by omega) cC0 rfl) rfl hl.1 rfl (Nat.le_of_ble_eq_true rfl) dL_holds_260 ⟨Nat.zero_le _, Nat.zero_le _⟩ hS (fun _ h => h) (fun H locs hP _ _ hS => ?_)
                  have hP : cP G a z H := hP
                  refine lv_icmp_gt (tgt := 270) hx hb dL_holds_263 (by decide) (fun c15 => ?_) (fun c15 => ?_)
                  · skip
                    refine lv_iconst (v := 0) hx hb dL_holds_270 (by decide) ?_
                    refine lv_istore (lv' := [(7, .int (0 : Int32)), (8, .int (x8 + (v_X5_customer z (nI k) (2 : Int32)))), (10, .int (nI k)), (9, .int (v_X5_worst z)), (0, .ref (a 329)), (1, .int (nI (cN z))), (2, .int x2), (3, .int x3), (4, .int x4), (5, .int x5), (6, .int x6)]) hx hb dL_holds_271 hl (by decide) rfl (fun ls hl => ?_)
                    refine lv_iinc (v := nI (k + 1)) (lv' := [(10, .int (nI (k + 1))), (7, .int (0 : Int32)), (8, .int (x8 + (v_X5_customer z (nI k) (2 : Int32)))), (9, .int (v_X5_worst z)), (0, .ref (a 329)), (1, .int (nI (cN z))), (2, .int x2), (3, .int x3), (4, .int x4), (5, .int x5), (6, .int x6)]) hx hb dL_holds_273 hl (k := 2) rfl (nI_1 _) (by decide) rfl (fun ls hl => ?_)
                    refine lv_goto (tgt := 136) hx hb dL_holds_276 (by decide) ?_
                    refine q_eqIz (show v_L_holds_loop2 z x2 x3 x4 x5 x6 (n + 1) k x7 x8 = v_L_holds_loop2 z x2 x3 x4 x5 x6 n (k + 1) (0 : Int32) (x8 + (v_X5_customer z (nI k) (2 : Int32))) from (if_neg c4).trans ((if_pos c5).trans ((if_pos c12).trans ((if_neg c13).trans ((if_neg c14).trans ((if_pos c15).trans rfl)))))) rfl ?_
                    exact ih_LP_loop2 (k + 1) (by omega) _ _ _ _ hP hS ls (lv_sub hl [0, 3, 2, 4, 5, 6, 7, 8, 9, 10, 1] rfl)
                  · skip
                    refine lv_iconst (v := 1) hx hb dL_holds_266 (by decide) ?_
                    refine lv_goto (tgt := 271) hx hb dL_holds_267 (by decide) ?_
                    refine lv_istore (lv' := [(7, .int (1 : Int32)), (8, .int (x8 + (v_X5_customer z (nI k) (2 : Int32)))), (10, .int (nI k)), (9, .int (v_X5_worst z)), (0, .ref (a 329)), (1, .int (nI (cN z))), (2, .int x2), (3, .int x3), (4, .int x4), (5, .int x5), (6, .int x6)]) hx hb dL_holds_271 hl (by decide) rfl (fun ls hl => ?_)
                    refine lv_iinc (v := nI (k + 1)) (lv' := [(10, .int (nI (k + 1))), (7, .int (1 : Int32)), (8, .int (x8 + (v_X5_customer z (nI k) (2 : Int32)))), (9, .int (v_X5_worst z)), (0, .ref (a 329)), (1, .int (nI (cN z))), (2, .int x2), (3, .int x3), (4, .int x4), (5, .int x5), (6, .int x6)]) hx hb dL_holds_273 hl (k := 2) rfl (nI_1 _) (by decide) rfl (fun ls hl => ?_)
                    refine lv_goto (tgt := 136) hx hb dL_holds_276 (by decide) ?_
                    refine q_eqIz (show v_L_holds_loop2 z x2 x3 x4 x5 x6 (n + 1) k x7 x8 = v_L_holds_loop2 z x2 x3 x4 x5 x6 n (k + 1) (1 : Int32) (x8 + (v_X5_customer z (nI k) (2 : Int32))) from (if_neg c4).trans ((if_pos c5).trans ((if_pos c12).trans ((if_neg c13).trans ((if_neg c14).trans ((if_neg c15).trans rfl)))))) rfl ?_
                    exact ih_LP_loop2 (k + 1) (by omega) _ _ _ _ hP hS ls (lv_sub hl [0, 3, 2, 4, 5, 6, 7, 8, 9, 10, 1] rfl)
                · skip
                  refine lv_iconst (v := 1) hx hb dL_holds_242 (by decide) ?_
                  refine lv_goto (tgt := 247) hx hb dL_holds_243 (by decide) ?_
                  refine lv_icmp_ne (tgt := 270) hx hb dL_holds_247 (by decide) (fun _ => ?_) (fun c => absurd c (by decide))
                  refine lv_iconst (v := 0) hx hb dL_holds_270 (by decide) ?_
                  refine lv_istore (lv' := [(7, .int (0 : Int32)), (8, .int (x8 + (v_X5_customer z (nI k) (2 : Int32)))), (10, .int (nI k)), (9, .int (v_X5_worst z)), (0, .ref (a 329)), (1, .int (nI (cN z))), (2, .int x2), (3, .int x3), (4, .int x4), (5, .int x5), (6, .int x6)]) hx hb dL_holds_271 hl (by decide) rfl (fun ls hl => ?_)
                  refine lv_iinc (v := nI (k + 1)) (lv' := [(10, .int (nI (k + 1))), (7, .int (0 : Int32)), (8, .int (x8 + (v_X5_customer z (nI k) (2 : Int32)))), (9, .int (v_X5_worst z)), (0, .ref (a 329)), (1, .int (nI (cN z))), (2, .int x2), (3, .int x3), (4, .int x4), (5, .int x5), (6, .int x6)]) hx hb dL_holds_273 hl (k := 2) rfl (nI_1 _) (by decide) rfl (fun ls hl => ?_)
                  refine lv_goto (tgt := 136) hx hb dL_holds_276 (by decide) ?_
                  refine q_eqIz (show v_L_holds_loop2 z x2 x3 x4 x5 x6 (n + 1) k x7 x8 = v_L_holds_loop2 z x2 x3 x4 x5 x6 n (k + 1) (0 : Int32) (x8 + (v_X5_customer z (nI k) (2 : Int32))) from (if_neg c4).trans ((if_pos c5).trans ((if_pos c12).trans ((if_neg c13).trans ((if_pos c14).trans rfl))))) rfl ?_
                  exact ih_LP_loop2 (k + 1) (by omega) _ _ _ _ hP hS ls (lv_sub hl [0, 3, 2, 4, 5, 6, 7, 8, 9, 10, 1] rfl)
              · skip
                refine lv_iconst (v := 1) hx hb dL_holds_227 (by decide) ?_
                refine lv_goto (tgt := 232) hx hb dL_holds_228 (by decide) ?_
                refine lv_aload_n hx hb dL_holds_232 rfl (lv_at hl 4 rfl) ?_
                refine lv_iload hx hb dL_holds_233 (lv_at hl 2 rfl) ?_
                refine lv_iconst (v := 1) hx hb dL_holds_235 (by decide) ?_
                refine r_callI S hK hP (c_X5_customer l G a hI z _ _ hR hJ) (r_cw S k_215 k_212 k_213 k_214 k_2 q_X5_customer ⟨Nat.le_of_ble_eq_true rfl, Nat.le_of_ble_eq_true rfl⟩ rfl rfl) (g_recv hK hP (i := 329) (by omega) cC0 rfl) rfl hl.1 rfl (Nat.le_of_ble_eq_true rfl) dL_holds_236 ⟨Nat.zero_le _, Nat.zero_le _⟩ hS (fun _ h => h) (fun H locs hP _ _ hS => ?_)
                have hP : cP G a z H := hP
                refine lv_if_ne (tgt := 246) hx hb dL_holds_239 (by decide) (fun c16 => ?_) (fun c16 => ?_)
                · skip
                  refine lv_iconst (v := 0) hx hb dL_holds_246 (by decide) ?_
                  refine lv_icmp_ne (tgt := 270) hx hb dL_holds_247 (by decide) (fun _ => ?_) (fun c => absurd c (by decide))
                  refine lv_iconst (v := 0) hx hb dL_holds_270 (by decide) ?_
                  refine lv_istore (lv' := [(7, .int (0 : Int32)), (8, .int (x8 + (v_X5_customer z (nI k) (2 : Int32)))), (10, .int (nI k)), (9, .int (v_X5_worst z)), (0, .ref (a 329)), (1, .int (nI (cN z))), (2, .int x2), (3, .int x3), (4, .int x4), (5, .int x5), (6, .int x6)]) hx hb dL_holds_271 hl (by decide) rfl (fun ls hl => ?_)
                  refine lv_iinc (v := nI (k + 1)) (lv' := [(10, .int (nI (k + 1))), (7, .int (0 : Int32)), (8, .int (x8 + (v_X5_customer z (nI k) (2 : Int32)))), (9, .int (v_X5_worst z)), (0, .ref (a 329)), (1, .int (nI (cN z))), (2, .int x2), (3, .int x3), (4, .int x4), (5, .int x5), (6, .int x6)]) hx hb dL_holds_273 hl (k := 2) rfl (nI_1 _) (by decide) rfl (fun ls hl => ?_)
                  refine lv_goto (tgt := 136) hx hb dL_holds_276 (by decide) ?_
                  refine q_eqIz (show v_L_holds_loop2 z x2 x3 x4 x5 x6 (n + 1) k x7 x8 = v_L_holds_loop2 z x2 x3 x4 x5 x6 n (k + 1) (0 : Int32) (x8 + (v_X5_customer z (nI k) (2 : Int32))) from (if_neg c4).trans ((if_pos c5).trans ((if_pos c12).trans ((if_pos c13).trans ((if_neg c16).trans rfl))))) rfl ?_
                  exact ih_LP_loop2 (k + 1) (by omega) _ _ _ _ hP hS ls (lv_sub hl [0, 3, 2, 4, 5, 6, 7, 8, 9, 10, 1] rfl)
                · skip
                  refine lv_iconst (v := 1) hx hb dL_holds_242 (by decide) ?_
                  refine lv_goto (tgt := 247) hx hb dL_holds_243 (by decide) ?_
                  refine lv_icmp_ne (tgt := 270) hx hb dL_holds_247 (by decide) (fun c => absurd (by decide) c) (fun _ => ?_)
                  refine lv_aload_n hx hb dL_holds_250 rfl (lv_at hl 4 rfl) ?_
                  refine lv_iload hx hb dL_holds_251 (lv_at hl 2 rfl) ?_
                  refine r_callI S hK hP (c_X5_settles l G a hI z _ hR hJ) (r_cw S k_230 k_227 k_228 k_229 k_2 q_X5_settles ⟨Nat.le_of_ble_eq_true rfl, Nat.le_of_ble_eq_true rfl⟩ rfl rfl) (g_recv hK hP (i := 329) (by omega) cC0 rfl) rfl hl.1 rfl (Nat.le_of_ble_eq_true rfl) dL_holds_253 ⟨Nat.zero_le _, Nat.zero_le _⟩ hS (fun _ h => h) (fun H locs hP _ _ hS => ?_)
                  have hP : cP G a z H := hP
                  refine lv_aload_n hx hb dL_holds_256 rfl (lv_at hl 4 rfl) ?_
                  refine lv_iload hx hb dL_holds_257 (lv_at hl 2 rfl) ?_
                  refine lv_iconst (v := 2) hx hb dL_holds_259 (by decide) ?_
                  refine r_callI S hK hP (c_X5_customer l G a hI z _ _ hR hJ) (r_cw S k_215 k_212 k_213 k_214 k_2 q_X5_customer ⟨Nat.le_of_ble_eq_true rfl, Nat.le_of_ble_eq_true rfl⟩ rfl rfl) (g_recv hK hP (i := 329) (by omega) cC0 rfl) rfl hl.1 rfl (Nat.le_of_ble_eq_true rfl) dL_holds_260 ⟨Nat.zero_le _, Nat.zero_le _⟩ hS (fun _ h => h) (fun H locs hP _ _ hS => ?_)
                  have hP : cP G a z H := hP
                  refine lv_icmp_gt (tgt := 270) hx hb dL_holds_263 (by decide) (fun c17 => ?_) (fun c17 => ?_)
                  · skip
                    refine lv_iconst (v := 0) hx hb dL_holds_270 (by decide) ?_
                    refine lv_istore (lv' := [(7, .int (0 : Int32)), (8, .int (x8 + (v_X5_customer z (nI k) (2 : Int32)))), (10, .int (nI k)), (9, .int (v_X5_worst z)), (0, .ref (a 329)), (1, .int (nI (cN z))), (2, .int x2), (3, .int x3), (4, .int x4), (5, .int x5), (6, .int x6)]) hx hb dL_holds_271 hl (by decide) rfl (fun ls hl => ?_)
                    refine lv_iinc (v := nI (k + 1)) (lv' := [(10, .int (nI (k + 1))), (7, .int (0 : Int32)), (8, .int (x8 + (v_X5_customer z (nI k) (2 : Int32)))), (9, .int (v_X5_worst z)), (0, .ref (a 329)), (1, .int (nI (cN z))), (2, .int x2), (3, .int x3), (4, .int x4), (5, .int x5), (6, .int x6)]) hx hb dL_holds_273 hl (k := 2) rfl (nI_1 _) (by decide) rfl (fun ls hl => ?_)
                    refine lv_goto (tgt := 136) hx hb dL_holds_276 (by decide) ?_
                    refine q_eqIz (show v_L_holds_loop2 z x2 x3 x4 x5 x6 (n + 1) k x7 x8 = v_L_holds_loop2 z x2 x3 x4 x5 x6 n (k + 1) (0 : Int32) (x8 + (v_X5_customer z (nI k) (2 : Int32))) from (if_neg c4).trans ((if_pos c5).trans ((if_pos c12).trans ((if_pos c13).trans ((if_pos c16).trans ((if_pos c17).trans rfl)))))) rfl ?_
                    exact ih_LP_loop2 (k + 1) (by omega) _ _ _ _ hP hS ls (lv_sub hl [0, 3, 2, 4, 5, 6, 7, 8, 9, 10, 1] rfl)
                  · skip
                    refine lv_iconst (v := 1) hx hb dL_holds_266 (by decide) ?_
                    refine lv_goto (tgt := 271) hx hb dL_holds_267 (by decide) ?_
                    refine lv_istore (lv' := [(7, .int (1 : Int32)), (8, .int (x8 + (v_X5_customer z (nI k) (2 : Int32)))), (10, .int (nI k)), (9, .int (v_X5_worst z)), (0, .ref (a 329)), (1, .int (nI (cN z))), (2, .int x2), (3, .int x3), (4, .int x4), (5, .int x5), (6, .int x6)]) hx hb dL_holds_271 hl (by decide) rfl (fun ls hl => ?_)
                    refine lv_iinc (v := nI (k + 1)) (lv' := [(10, .int (nI (k + 1))), (7, .int (1 : Int32)), (8, .int (x8 + (v_X5_customer z (nI k) (2 : Int32)))), (9, .int (v_X5_worst z)), (0, .ref (a 329)), (1, .int (nI (cN z))), (2, .int x2), (3, .int x3), (4, .int x4), (5, .int x5), (6, .int x6)]) hx hb dL_holds_273 hl (k := 2) rfl (nI_1 _) (by decide) rfl (fun ls hl => ?_)
                    refine lv_goto (tgt := 136) hx hb dL_holds_276 (by decide) ?_
                    refine q_eqIz (show v_L_holds_loop2 z x2 x3 x4 x5 x6 (n + 1) k x7 x8 = v_L_holds_loop2 z x2 x3 x4 x5 x6 n (k + 1) (1 : Int32) (x8 + (v_X5_customer z (nI k) (2 : Int32))) from (if_neg c4).trans ((if_pos c5).trans ((if_pos c12).trans ((if_pos c13).trans ((if_pos c16).trans ((if_neg c17).trans rfl)))))) rfl ?_
                    exact ih_LP_loop2 (k + 1) (by omega) _ _ _ _ hP hS ls (lv_sub hl [0, 3, 2, 4, 5, 6, 7, 8, 9, 10, 1] rfl)
    refine q_eqIz (show v_L_holds_t124 z x2 x3 x4 x5 x6 x7 = v_L_holds_loop2 z x2 x3 x4 x5 x6 8 0 x7 (0 : Int32) from rfl) rfl ?_
    exact LP_loop2 8 0 (by omega) _ _ _ _ hP hS ls (lv_sub hl [0, 1, 2, 3, 4, 5, 6, 7, 8, 9, 10] rfl)
  have T_36_0 : ∀ (x2 : Int32) (x3 : Int32) (x4 : Int32) (x5 : Int32) (x6 : Int32) (H : Heap) (locs : List Loc), cP G a z H → va_S (gA 334 a) s.heap H locs → ∀ ls : Array Slot, lv_has ls 11 [(0, .ref (a 329)), (1, .int (nI (cN z))), (2, .int x2), (3, .int x3), (4, .int x4), (5, .int x5), (6, .int x6), (7, .int (0 : Int32))] → W p l e (rmK 6) s m args below meth c H locs 0 0 (MQ below (qcI G (gA 334 a) (cP G a z) (v_L_holds_t36_0 z x2 x3 x4 x5 x6)) args s 0 0 (gA 334 a)) (F0 m 36 ls []) := by
    intro x2 x3 x4 x5 x6 H locs hP hS ls hl
    refine lv_iconst (v := 0) hx hb dL_holds_36 (by decide) ?_
    refine lv_istore (lv' := [(8, .int (0 : Int32)), (0, .ref (a 329)), (1, .int (nI (cN z))), (2, .int x2), (3, .int x3), (4, .int x4), (5, .int x5), (6, .int x6), (7, .int (0 : Int32))]) hx hb dL_holds_37 hl (by decide) rfl (fun ls hl => ?_)
    have LP_loop1 : ∀ (n : Nat) (k : Nat), k + n = cN z → ∀ (x2 : Int32) (x3 : Int32) (x4 : Int32) (x5 : Int32) (x6 : Int32) (x7 : Int32) (H : Heap) (locs : List Loc), cP G a z H → va_S (gA 334 a) s.heap H locs → ∀ ls : Array Slot, lv_has ls 11 [(8, .int (nI k)), (0, .ref (a 329)), (1, .int (nI (cN z))), (2, .int x2), (3, .int x3), (4, .int x4), (5, .int x5), (6, .int x6), (7, .int x7)] → W p l e (rmK 6) s m args below meth c H locs 0 0 (MQ below (qcI G (gA 334 a) (cP G a z) (v_L_holds_loop1 z n k x2 x3 x4 x5 x6 x7)) args s 0 0 (gA 334 a)) (F0 m 39 ls []) := by
      intro n
      induction n with
      | zero =>
        intro k hk_LP_loop1 x2 x3 x4 x5 x6 x7 H locs hP hS ls hl
        refine lv_iload hx hb dL_holds_39 (lv_at hl 0 rfl) ?_
        refine lv_iload_n hx hb dL_holds_41 rfl (lv_at hl 2 rfl) ?_
        refine lv_icmp_ge (tgt := 124) hx hb dL_holds_42 (by decide) (fun _ => ?_) (fun c => absurd ((nI_leI (a := (cN z)) (b := k) (by omega) (by omega)).mpr (by omega)) c)
        refine q_eqIz (show v_L_holds_loop1 z 0 k x2 x3 x4 x5 x6 x7 = v_L_holds_t124 z x2 x3 x4 x5 x6 x7 from rfl) rfl ?_
        exact T_124 _ _ _ _ _ _  _ _ hP hS ls (lv_sub hl [1, 2, 3, 4, 5, 6, 7, 8] rfl)
      | succ n ih_LP_loop1 =>
        intro k hk_LP_loop1 x2 x3 x4 x5 x6 x7 H locs hP hS ls hl
        refine lv_iload hx hb dL_holds_39 (lv_at hl 0 rfl) ?_
        refine lv_iload_n hx hb dL_holds_41 rfl (lv_at hl 2 rfl) ?_
        refine lv_icmp_ge (tgt := 124) hx hb dL_holds_42 (by decide) (fun c => absurd c (fun zq => absurd ((nI_leI (a := (cN z)) (b := k) (by omega) (by omega)).mp zq) (by omega))) (fun _ => ?_)
        refine lv_iload hx hb dL_holds_45 (lv_at hl 8 rfl) ?_
        refine lv_if_eq (tgt := 124) hx hb dL_holds_47 (by decide) (fun c2 => ?_) (fun c2 => ?_)
        · skip
          refine q_eqIz (show v_L_holds_loop1 z (n + 1) k x2 x3 x4 x5 x6 x7 = v_L_holds_t124 z x2 x3 x4 x5 x6 x7 from (if_pos c2).trans rfl) rfl ?_
          exact T_124 _ _ _ _ _ _  _ _ hP hS ls (lv_sub hl [1, 2, 3, 4, 5, 6, 7, 8] rfl)
        · skip
          refine lv_aload_n hx hb dL_holds_50 rfl (lv_at hl 1 rfl) ?_
          refine lv_iload hx hb dL_holds_51 (lv_at hl 0 rfl) ?_
          refine r_callS S hK hP (c_L_isBill l G a hI z _ hR hJ) (r_cs S k_178 k_176 k_177 k_62 q_L_isBill ⟨Nat.le_of_ble_eq_true rfl, Nat.le_of_ble_eq_true rfl⟩ rfl rfl) rfl hl.1 rfl (Nat.le_of_ble_eq_true rfl) dL_holds_53 ⟨Nat.zero_le _, Nat.zero_le _⟩ hS (fun _ h => h) (fun H locs hP _ _ hS => ?_)
          have hP : cP G a z H := hP
          refine lv_istore (lv' := [(7, .int (v_L_isBill z (nI k))), (8, .int (nI k)), (0, .ref (a 329)), (1, .int (nI (cN z))), (2, .int x2), (3, .int x3), (4, .int x4), (5, .int x5), (6, .int x6)]) hx hb dL_holds_56 hl (by decide) rfl (fun ls hl => ?_)
          refine lv_iload_n hx hb dL_holds_58 rfl (lv_at hl 4 rfl) ?_
          refine lv_aload_n hx hb dL_holds_59 rfl (lv_at hl 2 rfl) ?_
          refine lv_iload hx hb dL_holds_60 (lv_at hl 1 rfl) ?_
          refine lv_bipush (v := 7) hx hb dL_holds_62 (by decide) ?_
          refine r_callI S hK hP (c_X5_billOf l G a hI z _ _ hR hJ) (r_cw S k_153 k_150 k_151 k_152 k_2 q_X5_billOf ⟨Nat.le_of_ble_eq_true rfl, Nat.le_of_ble_eq_true rfl⟩ rfl rfl) (g_recv hK hP (i := 329) (by omega) cC0 rfl) rfl hl.1 rfl (Nat.le_of_ble_eq_true rfl) dL_holds_64 ⟨Nat.zero_le _, Nat.zero_le _⟩ hS (fun _ h => h) (fun H locs hP _ _ hS => ?_)
          have hP : cP G a z H := hP
          refine lv_iadd hx hb dL_holds_67 ?_
          refine lv_istore_n (lv' := [(2, .int (x2 + (v_X5_billOf z (nI k) (7 : Int32)))), (7, .int (v_L_isBill z (nI k))), (8, .int (nI k)), (0, .ref (a 329)), (1, .int (nI (cN z))), (3, .int x3), (4, .int x4), (5, .int x5), (6, .int x6)]) hx hb dL_holds_68 rfl hl (by decide) rfl (fun ls hl => ?_)
          refine lv_iload hx hb dL_holds_69 (lv_at hl 6 rfl) ?_
          refine lv_aload_n hx hb dL_holds_71 rfl (lv_at hl 3 rfl) ?_
          refine lv_iload hx hb dL_holds_72 (lv_at hl 2 rfl) ?_
          refine lv_bipush (v := 8) hx hb dL_holds_74 (by decide) ?_
          refine r_callI S hK hP (c_X5_billOf l G a hI z _ _ hR hJ) (r_cw S k_153 k_150 k_151 k_152 k_2 q_X5_billOf ⟨Nat.le_of_ble_eq_true rfl, Nat.le_of_ble_eq_true rfl⟩ rfl rfl) (g_recv hK hP (i := 329) (by omega) cC0 rfl) rfl hl.1 rfl (Nat.le_of_ble_eq_true rfl) dL_holds_76 ⟨Nat.zero_le _, Nat.zero_le _⟩ hS (fun _ h => h) (fun H locs hP _ _ hS => ?_)
          have hP : cP G a z H := hP
          refine lv_iadd hx hb dL_holds_79 ?_
          refine lv_istore (lv' := [(4, .int (x4 + (v_X5_billOf z (nI k) (8 : Int32)))), (2, .int (x2 + (v_X5_billOf z (nI k) (7 : Int32)))), (7, .int (v_L_isBill z (nI k))), (8, .int (nI k)), (0, .ref (a 329)), (1, .int (nI (cN z))), (3, .int x3), (5, .int x5), (6, .int x6)]) hx hb dL_holds_80 hl (by decide) rfl (fun ls hl => ?_)
          refine lv_iload_n hx hb dL_holds_82 rfl (lv_at hl 6 rfl) ?_
          refine lv_aload_n hx hb dL_holds_83 rfl (lv_at hl 4 rfl) ?_
          refine lv_iload hx hb dL_holds_84 (lv_at hl 3 rfl) ?_
          refine lv_bipush (v := 9) hx hb dL_holds_86 (by decide) ?_
          refine r_callI S hK hP (c_X5_billOf l G a hI z _ _ hR hJ) (r_cw S k_153 k_150 k_151 k_152 k_2 q_X5_billOf ⟨Nat.le_of_ble_eq_true rfl, Nat.le_of_ble_eq_true rfl⟩ rfl rfl) (g_recv hK hP (i := 329) (by omega) cC0 rfl) rfl hl.1 rfl (Nat.le_of_ble_eq_true rfl) dL_holds_88 ⟨Nat.zero_le _, Nat.zero_le _⟩ hS (fun _ h => h) (fun H locs hP _ _ hS => ?_)
          have hP : cP G a z H := hP
          refine lv_iadd hx hb dL_holds_91 ?_
          refine lv_istore_n (lv' := [(3, .int (x3 + (v_X5_billOf z (nI k) (9 : Int32)))), (4, .int (x4 + (v_X5_billOf z (nI k) (8 : Int32)))), (2, .int (x2 + (v_X5_billOf z (nI k) (7 : Int32)))), (7, .int (v_L_isBill z (nI k))), (8, .int (nI k)), (0, .ref (a 329)), (1, .int (nI (cN z))), (5, .int x5), (6, .int x6)]) hx hb dL_holds_92 rfl hl (by decide) rfl (fun ls hl => ?_)
          refine lv_iload hx hb dL_holds_93 (lv_at hl 7 rfl) ?_
          refine lv_aload_n hx hb dL_holds_95 rfl (lv_at hl 5 rfl) ?_
          refine lv_iload hx hb dL_holds_96 (lv_at hl 4 rfl) ?_
          refine lv_bipush (v := 11) hx hb dL_holds_98 (by decide) ?_
          refine r_callI S hK hP (c_X5_billOf l G a hI z _ _ hR hJ) (r_cw S k_153 k_150 k_151 k_152 k_2 q_X5_billOf ⟨Nat.le_of_ble_eq_true rfl, Nat.le_of_ble_eq_true rfl⟩ rfl rfl) (g_recv hK hP (i := 329) (by omega) cC0 rfl) rfl hl.1 rfl (Nat.le_of_ble_eq_true rfl) dL_holds_100 ⟨Nat.zero_le _, Nat.zero_le _⟩ hS (fun _ h => h) (fun H locs hP _ _ hS => ?_)
          have hP : cP G a z H := hP
          refine lv_iadd hx hb dL_holds_103 ?_
          refine lv_istore (lv' := [(5, .int (x5 + (v_X5_billOf z (nI k) (11 : Int32)))), (3, .int (x3 + (v_X5_billOf z (nI k) (9 : Int32)))), (4, .int (x4 + (v_X5_billOf z (nI k) (8 : Int32)))), (2, .int (x2 + (v_X5_billOf z (nI k) (7 : Int32)))), (7, .int (v_L_isBill z (nI k))), (8, .int (nI k)), (0, .ref (a 329)), (1, .int (nI (cN z))), (6, .int x6)]) hx hb dL_holds_104 hl (by decide) rfl (fun ls hl => ?_)
          refine lv_iload hx hb dL_holds_106 (lv_at hl 8 rfl) ?_
          refine lv_aload_n hx hb dL_holds_108 rfl (lv_at hl 6 rfl) ?_
          refine lv_iload hx hb dL_holds_109 (lv_at hl 5 rfl) ?_
          refine lv_iconst (v := 2) hx hb dL_holds_111 (by decide) ?_
          refine r_callI S hK hP (c_X5_billOf l G a hI z _ _ hR hJ) (r_cw S k_153 k_150 k_151 k_152 k_2 q_X5_billOf ⟨Nat.le_of_ble_eq_true rfl, Nat.le_of_ble_eq_true rfl⟩ rfl rfl) (g_recv hK hP (i := 329) (by omega) cC0 rfl) rfl hl.1 rfl (Nat.le_of_ble_eq_true rfl) dL_holds_112 ⟨Nat.zero_le _, Nat.zero_le _⟩ hS (fun _ h => h) (fun H locs hP _ _ hS => ?_)
          have hP : cP G a z H := hP
          refine lv_iadd hx hb dL_holds_115 ?_
          refine lv_istore (lv' := [(6, .int (x6 + (v_X5_billOf z (nI k) (2 : Int32)))), (5, .int (x5 + (v_X5_billOf z (nI k) (11 : Int32)))), (3, .int (x3 + (v_X5_billOf z (nI k) (9 : Int32)))), (4, .int (x4 + (v_X5_billOf z (nI k) (8 : Int32)))), (2, .int (x2 + (v_X5_billOf z (nI k) (7 : Int32)))), (7, .int (v_L_isBill z (nI k))), (8, .int (nI k)), (0, .ref (a 329)), (1, .int (nI (cN z)))]) hx hb dL_holds_116 hl (by decide) rfl (fun ls hl => ?_)
          refine lv_iinc (v := nI (k + 1)) (lv' := [(8, .int (nI (k + 1))), (6, .int (x6 + (v_X5_billOf z (nI k) (2 : Int32)))), (5, .int (x5 + (v_X5_billOf z (nI k) (11 : Int32)))), (3, .int (x3 + (v_X5_billOf z (nI k) (9 : Int32)))), (4, .int (x4 + (v_X5_billOf z (nI k) (8 : Int32)))), (2, .int (x2 + (v_X5_billOf z (nI k) (7 : Int32)))), (7, .int (v_L_isBill z (nI k))), (0, .ref (a 329)), (1, .int (nI (cN z)))]) hx hb dL_holds_118 hl (k := 6) rfl (nI_1 _) (by decide) rfl (fun ls hl => ?_)
          refine lv_goto (tgt := 39) hx hb dL_holds_121 (by decide) ?_
          refine q_eqIz (show v_L_holds_loop1 z (n + 1) k x2 x3 x4 x5 x6 x7 = v_L_holds_loop1 z n (k + 1) (x2 + (v_X5_billOf z (nI k) (7 : Int32))) (x3 + (v_X5_billOf z (nI k) (9 : Int32))) (x4 + (v_X5_billOf z (nI k) (8 : Int32))) (x5 + (v_X5_billOf z (nI k) (11 : Int32))) (x6 + (v_X5_billOf z (nI k) (2 : Int32))) (v_L_isBill z (nI k)) from (if_neg c2).trans rfl) rfl ?_
          exact ih_LP_loop1 (k + 1) (by omega) _ _ _ _ _ _ _ _ hP hS ls (lv_sub hl [0, 7, 8, 5, 3, 4, 2, 1, 6] rfl)
    refine q_eqIz (show v_L_holds_t36_0 z x2 x3 x4 x5 x6 = v_L_holds_loop1 z (cN z) 0 x2 x3 x4 x5 x6 (0 : Int32) from rfl) rfl ?_
    exact LP_loop1 (cN z) 0 (by omega) _ _ _ _ _ _ _ _ hP hS ls (lv_sub hl [0, 1, 2, 3, 4, 5, 6, 7, 8] rfl)
  have T_36_1 : ∀ (x2 : Int32) (x3 : Int32) (x4 : Int32) (x5 : Int32) (x6 : Int32) (H : Heap) (locs : List Loc), cP G a z H → va_S (gA 334 a) s.heap H locs → ∀ ls : Array Slot, lv_has ls 11 [(0, .ref (a 329)), (1, .int (nI (cN z))), (2, .int x2), (3, .int x3), (4, .int x4), (5, .int x5), (6, .int x6), (7, .int (1 : Int32))] → W p l e (rmK 6) s m args below meth c H locs 0 0 (MQ below (qcI G (gA 334 a) (cP G a z) (v_L_holds_t36_1 z x2 x3 x4 x5 x6)) args s 0 0 (gA 334 a)) (F0 m 36 ls []) := by
    intro x2 x3 x4 x5 x6 H locs hP hS ls hl
    refine lv_iconst (v := 0) hx hb dL_holds_36 (by decide) ?_
    refine lv_istore (lv' := [(8, .int (0 : Int32)), (0, .ref (a 329)), (1, .int (nI (cN z))), (2, .int x2), (3, .int x3), (4, .int x4), (5, .int x5), (6, .int x6), (7, .int (1 : Int32))]) hx hb dL_holds_37 hl (by decide) rfl (fun ls hl => ?_)
    have LP_loop1 : ∀ (n : Nat) (k : Nat), k + n = cN z → ∀ (x2 : Int32) (x3 : Int32) (x4 : Int32) (x5 : Int32) (x6 : Int32) (x7 : Int32) (H : Heap) (locs : List Loc), cP G a z H → va_S (gA 334 a) s.heap H locs → ∀ ls : Array Slot, lv_has ls 11 [(8, .int (nI k)), (0, .ref (a 329)), (1, .int (nI (cN z))), (2, .int x2), (3, .int x3), (4, .int x4), (5, .int x5), (6, .int x6), (7, .int x7)] → W p l e (rmK 6) s m args below meth c H locs 0 0 (MQ below (qcI G (gA 334 a) (cP G a z) (v_L_holds_loop1 z n k x2 x3 x4 x5 x6 x7)) args s 0 0 (gA 334 a)) (F0 m 39 ls []) := by
      intro n
      induction n with
      | zero =>
        intro k hk_LP_loop1 x2 x3 x4 x5 x6 x7 H locs hP hS ls hl
        refine lv_iload hx hb dL_holds_39 (lv_at hl 0 rfl) ?_
        refine lv_iload_n hx hb dL_holds_41 rfl (lv_at hl 2 rfl) ?_
        refine lv_icmp_ge (tgt := 124) hx hb dL_holds_42 (by decide) (fun _ => ?_) (fun c => absurd ((nI_leI (a := (cN z)) (b := k) (by omega) (by omega)).mpr (by omega)) c)
        refine q_eqIz (show v_L_holds_loop1 z 0 k x2 x3 x4 x5 x6 x7 = v_L_holds_t124 z x2 x3 x4 x5 x6 x7 from rfl) rfl ?_
        exact T_124 _ _ _ _ _ _  _ _ hP hS ls (lv_sub hl [1, 2, 3, 4, 5, 6, 7, 8] rfl)
      | succ n ih_LP_loop1 =>
        intro k hk_LP_loop1 x2 x3 x4 x5 x6 x7 H locs hP hS ls hl
        refine lv_iload hx hb dL_holds_39 (lv_at hl 0 rfl) ?_
        refine lv_iload_n hx hb dL_holds_41 rfl (lv_at hl 2 rfl) ?_
        refine lv_icmp_ge (tgt := 124) hx hb dL_holds_42 (by decide) (fun c => absurd c (fun zq => absurd ((nI_leI (a := (cN z)) (b := k) (by omega) (by omega)).mp zq) (by omega))) (fun _ => ?_)
        refine lv_iload hx hb dL_holds_45 (lv_at hl 8 rfl) ?_
        refine lv_if_eq (tgt := 124) hx hb dL_holds_47 (by decide) (fun c3 => ?_) (fun c3 => ?_)
        · skip
          refine q_eqIz (show v_L_holds_loop1 z (n + 1) k x2 x3 x4 x5 x6 x7 = v_L_holds_t124 z x2 x3 x4 x5 x6 x7 from (if_pos c3).trans rfl) rfl ?_
          exact T_124 _ _ _ _ _ _  _ _ hP hS ls (lv_sub hl [1, 2, 3, 4, 5, 6, 7, 8] rfl)
        · skip
          refine lv_aload_n hx hb dL_holds_50 rfl (lv_at hl 1 rfl) ?_
          refine lv_iload hx hb dL_holds_51 (lv_at hl 0 rfl) ?_
          refine r_callS S hK hP (c_L_isBill l G a hI z _ hR hJ) (r_cs S k_178 k_176 k_177 k_62 q_L_isBill ⟨Nat.le_of_ble_eq_true rfl, Nat.le_of_ble_eq_true rfl⟩ rfl rfl) rfl hl.1 rfl (Nat.le_of_ble_eq_true rfl) dL_holds_53 ⟨Nat.zero_le _, Nat.zero_le _⟩ hS (fun _ h => h) (fun H locs hP _ _ hS => ?_)
          have hP : cP G a z H := hP
          refine lv_istore (lv' := [(7, .int (v_L_isBill z (nI k))), (8, .int (nI k)), (0, .ref (a 329)), (1, .int (nI (cN z))), (2, .int x2), (3, .int x3), (4, .int x4), (5, .int x5), (6, .int x6)]) hx hb dL_holds_56 hl (by decide) rfl (fun ls hl => ?_)
          refine lv_iload_n hx hb dL_holds_58 rfl (lv_at hl 4 rfl) ?_
          refine lv_aload_n hx hb dL_holds_59 rfl (lv_at hl 2 rfl) ?_
          refine lv_iload hx hb dL_holds_60 (lv_at hl 1 rfl) ?_
          refine lv_bipush (v := 7) hx hb dL_holds_62 (by decide) ?_
          refine r_callI S hK hP (c_X5_billOf l G a hI z _ _ hR hJ) (r_cw S k_153 k_150 k_151 k_152 k_2 q_X5_billOf ⟨Nat.le_of_ble_eq_true rfl, Nat.le_of_ble_eq_true rfl⟩ rfl rfl) (g_recv hK hP (i := 329) (by omega) cC0 rfl) rfl hl.1 rfl (Nat.le_of_ble_eq_true rfl) dL_holds_64 ⟨Nat.zero_le _, Nat.zero_le _⟩ hS (fun _ h => h) (fun H locs hP _ _ hS => ?_)
          have hP : cP G a z H := hP
          refine lv_iadd hx hb dL_holds_67 ?_
          refine lv_istore_n (lv' := [(2, .int (x2 + (v_X5_billOf z (nI k) (7 : Int32)))), (7, .int (v_L_isBill z (nI k))), (8, .int (nI k)), (0, .ref (a 329)), (1, .int (nI (cN z))), (3, .int x3), (4, .int x4), (5, .int x5), (6, .int x6)]) hx hb dL_holds_68 rfl hl (by decide) rfl (fun ls hl => ?_)
          refine lv_iload hx hb dL_holds_69 (lv_at hl 6 rfl) ?_
          refine lv_aload_n hx hb dL_holds_71 rfl (lv_at hl 3 rfl) ?_
          refine lv_iload hx hb dL_holds_72 (lv_at hl 2 rfl) ?_
          refine lv_bipush (v := 8) hx hb dL_holds_74 (by decide) ?_
          refine r_callI S hK hP (c_X5_billOf l G a hI z _ _ hR hJ) (r_cw S k_153 k_150 k_151 k_152 k_2 q_X5_billOf ⟨Nat.le_of_ble_eq_true rfl, Nat.le_of_ble_eq_true rfl⟩ rfl rfl) (g_recv hK hP (i := 329) (by omega) cC0 rfl) rfl hl.1 rfl (Nat.le_of_ble_eq_true rfl) dL_holds_76 ⟨Nat.zero_le _, Nat.zero_le _⟩ hS (fun _ h => h) (fun H locs hP _ _ hS => ?_)
          have hP : cP G a z H := hP
          refine lv_iadd hx hb dL_holds_79 ?_
          refine lv_istore (lv' := [(4, .int (x4 + (v_X5_billOf z (nI k) (8 : Int32)))), (2, .int (x2 + (v_X5_billOf z (nI k) (7 : Int32)))), (7, .int (v_L_isBill z (nI k))), (8, .int (nI k)), (0, .ref (a 329)), (1, .int (nI (cN z))), (3, .int x3), (5, .int x5), (6, .int x6)]) hx hb dL_holds_80 hl (by decide) rfl (fun ls hl => ?_)
          refine lv_iload_n hx hb dL_holds_82 rfl (lv_at hl 6 rfl) ?_
          refine lv_aload_n hx hb dL_holds_83 rfl (lv_at hl 4 rfl) ?_
          refine lv_iload hx hb dL_holds_84 (lv_at hl 3 rfl) ?_
          refine lv_bipush (v := 9) hx hb dL_holds_86 (by decide) ?_
          refine r_callI S hK hP (c_X5_billOf l G a hI z _ _ hR hJ) (r_cw S k_153 k_150 k_151 k_152 k_2 q_X5_billOf ⟨Nat.le_of_ble_eq_true rfl, Nat.le_of_ble_eq_true rfl⟩ rfl rfl) (g_recv hK hP (i := 329) (by omega) cC0 rfl) rfl hl.1 rfl (Nat.le_of_ble_eq_true rfl) dL_holds_88 ⟨Nat.zero_le _, Nat.zero_le _⟩ hS (fun _ h => h) (fun H locs hP _ _ hS => ?_)
          have hP : cP G a z H := hP
          refine lv_iadd hx hb dL_holds_91 ?_
          refine lv_istore_n (lv' := [(3, .int (x3 + (v_X5_billOf z (nI k) (9 : Int32)))), (4, .int (x4 + (v_X5_billOf z (nI k) (8 : Int32)))), (2, .int (x2 + (v_X5_billOf z (nI k) (7 : Int32)))), (7, .int (v_L_isBill z (nI k))), (8, .int (nI k)), (0, .ref (a 329)), (1, .int (nI (cN z))), (5, .int x5), (6, .int x6)]) hx hb dL_holds_92 rfl hl (by decide) rfl (fun ls hl => ?_)
          refine lv_iload hx hb dL_holds_93 (lv_at hl 7 rfl) ?_
          refine lv_aload_n hx hb dL_holds_95 rfl (lv_at hl 5 rfl) ?_
          refine lv_iload hx hb dL_holds_96 (lv_at hl 4 rfl) ?_
          refine lv_bipush (v := 11) hx hb dL_holds_98 (by decide) ?_
          refine r_callI S hK hP (c_X5_billOf l G a hI z _ _ hR hJ) (r_cw S k_153 k_150 k_151 k_152 k_2 q_X5_billOf ⟨Nat.le_of_ble_eq_true rfl, Nat.le_of_ble_eq_true rfl⟩ rfl rfl) (g_recv hK hP (i := 329) (by omega) cC0 rfl) rfl hl.1 rfl (Nat.le_of_ble_eq_true rfl) dL_holds_100 ⟨Nat.zero_le _, Nat.zero_le _⟩ hS (fun _ h => h) (fun H locs hP _ _ hS => ?_)
          have hP : cP G a z H := hP
          refine lv_iadd hx hb dL_holds_103 ?_
          refine lv_istore (lv' := [(5, .int (x5 + (v_X5_billOf z (nI k) (11 : Int32)))), (3, .int (x3 + (v_X5_billOf z (nI k) (9 : Int32)))), (4, .int (x4 + (v_X5_billOf z (nI k) (8 : Int32)))), (2, .int (x2 + (v_X5_billOf z (nI k) (7 : Int32)))), (7, .int (v_L_isBill z (nI k))), (8, .int (nI k)), (0, .ref (a 329)), (1, .int (nI (cN z))), (6, .int x6)]) hx hb dL_holds_104 hl (by decide) rfl (fun ls hl => ?_)
          refine lv_iload hx hb dL_holds_106 (lv_at hl 8 rfl) ?_
          refine lv_aload_n hx hb dL_holds_108 rfl (lv_at hl 6 rfl) ?_
          refine lv_iload hx hb dL_holds_109 (lv_at hl 5 rfl) ?_
          refine lv_iconst (v := 2) hx hb dL_holds_111 (by decide) ?_
          refine r_callI S hK hP (c_X5_billOf l G a hI z _ _ hR hJ) (r_cw S k_153 k_150 k_151 k_152 k_2 q_X5_billOf ⟨Nat.le_of_ble_eq_true rfl, Nat.le_of_ble_eq_true rfl⟩ rfl rfl) (g_recv hK hP (i := 329) (by omega) cC0 rfl) rfl hl.1 rfl (Nat.le_of_ble_eq_true rfl) dL_holds_112 ⟨Nat.zero_le _, Nat.zero_le _⟩ hS (fun _ h => h) (fun H locs hP _ _ hS => ?_)
          have hP : cP G a z H := hP
          refine lv_iadd hx hb dL_holds_115 ?_
          refine lv_istore (lv' := [(6, .int (x6 + (v_X5_billOf z (nI k) (2 : Int32)))), (5, .int (x5 + (v_X5_billOf z (nI k) (11 : Int32)))), (3, .int (x3 + (v_X5_billOf z (nI k) (9 : Int32)))), (4, .int (x4 + (v_X5_billOf z (nI k) (8 : Int32)))), (2, .int (x2 + (v_X5_billOf z (nI k) (7 : Int32)))), (7, .int (v_L_isBill z (nI k))), (8, .int (nI k)), (0, .ref (a 329)), (1, .int (nI (cN z)))]) hx hb dL_holds_116 hl (by decide) rfl (fun ls hl => ?_)
          refine lv_iinc (v := nI (k + 1)) (lv' := [(8, .int (nI (k + 1))), (6, .int (x6 + (v_X5_billOf z (nI k) (2 : Int32)))), (5, .int (x5 + (v_X5_billOf z (nI k) (11 : Int32)))), (3, .int (x3 + (v_X5_billOf z (nI k) (9 : Int32)))), (4, .int (x4 + (v_X5_billOf z (nI k) (8 : Int32)))), (2, .int (x2 + (v_X5_billOf z (nI k) (7 : Int32)))), (7, .int (v_L_isBill z (nI k))), (0, .ref (a 329)), (1, .int (nI (cN z)))]) hx hb dL_holds_118 hl (k := 6) rfl (nI_1 _) (by decide) rfl (fun ls hl => ?_)
          refine lv_goto (tgt := 39) hx hb dL_holds_121 (by decide) ?_
          refine q_eqIz (show v_L_holds_loop1 z (n + 1) k x2 x3 x4 x5 x6 x7 = v_L_holds_loop1 z n (k + 1) (x2 + (v_X5_billOf z (nI k) (7 : Int32))) (x3 + (v_X5_billOf z (nI k) (9 : Int32))) (x4 + (v_X5_billOf z (nI k) (8 : Int32))) (x5 + (v_X5_billOf z (nI k) (11 : Int32))) (x6 + (v_X5_billOf z (nI k) (2 : Int32))) (v_L_isBill z (nI k)) from (if_neg c3).trans rfl) rfl ?_
          exact ih_LP_loop1 (k + 1) (by omega) _ _ _ _ _ _ _ _ hP hS ls (lv_sub hl [0, 7, 8, 5, 3, 4, 2, 1, 6] rfl)
    refine q_eqIz (show v_L_holds_t36_1 z x2 x3 x4 x5 x6 = v_L_holds_loop1 z (cN z) 0 x2 x3 x4 x5 x6 (1 : Int32) from rfl) rfl ?_
    exact LP_loop1 (cN z) 0 (by omega) _ _ _ _ _ _ _ _ hP hS ls (lv_sub hl [0, 1, 2, 3, 4, 5, 6, 7, 8] rfl)
  refine lv_aload_n hx hb dL_holds_0 rfl (lv_at hl 0 rfl) ?_
  refine lv_iconst (v := 1) hx hb dL_holds_1 (by decide) ?_
  refine r_callI S hK hP (c_X5_count l G a hI z _ hR hJ) (r_cw S k_67 k_64 k_65 k_66 k_2 q_X5_count ⟨Nat.le_of_ble_eq_true rfl, Nat.le_of_ble_eq_true rfl⟩ rfl rfl) (g_recv hK hP (i := 329) (by omega) cC0 rfl) rfl hl.1 rfl (Nat.le_of_ble_eq_true rfl) dL_holds_2 ⟨Nat.zero_le _, Nat.zero_le _⟩ hS (fun _ h => h) (fun H locs hP _ _ hS => ?_)
  have hP : cP G a z H := hP
  refine r_top (v := nI (cN z)) (cN_eq z) ?_
  refine lv_istore_n (lv' := [(1, .int (nI (cN z))), (0, .ref (a 329))]) hx hb dL_holds_5 rfl hl (by decide) rfl (fun ls hl => ?_)
  refine lv_iconst (v := 0) hx hb dL_holds_6 (by decide) ?_
  refine lv_istore_n (lv' := [(2, .int (0 : Int32)), (1, .int (nI (cN z))), (0, .ref (a 329))]) hx hb dL_holds_7 rfl hl (by decide) rfl (fun ls hl => ?_)
  refine lv_iconst (v := 0) hx hb dL_holds_8 (by decide) ?_
  refine lv_istore_n (lv' := [(3, .int (0 : Int32)), (2, .int (0 : Int32)), (1, .int (nI (cN z))), (0, .ref (a 329))]) hx hb dL_holds_9 rfl hl (by decide) rfl (fun ls hl => ?_)
  refine lv_iconst (v := 0) hx hb dL_holds_10 (by decide) ?_
  refine lv_istore (lv' := [(4, .int (0 : Int32)), (3, .int (0 : Int32)), (2, .int (0 : Int32)), (1, .int (nI (cN z))), (0, .ref (a 329))]) hx hb dL_holds_11 hl (by decide) rfl (fun ls hl => ?_)
  refine lv_iconst (v := 0) hx hb dL_holds_13 (by decide) ?_
  refine lv_istore (lv' := [(5, .int (0 : Int32)), (4, .int (0 : Int32)), (3, .int (0 : Int32)), (2, .int (0 : Int32)), (1, .int (nI (cN z))), (0, .ref (a 329))]) hx hb dL_holds_14 hl (by decide) rfl (fun ls hl => ?_)
  refine lv_iconst (v := 0) hx hb dL_holds_16 (by decide) ?_
  refine lv_istore (lv' := [(6, .int (0 : Int32)), (5, .int (0 : Int32)), (4, .int (0 : Int32)), (3, .int (0 : Int32)), (2, .int (0 : Int32)), (1, .int (nI (cN z))), (0, .ref (a 329))]) hx hb dL_holds_17 hl (by decide) rfl (fun ls hl => ?_)
  refine lv_aload_n hx hb dL_holds_19 rfl (lv_at hl 6 rfl) ?_
  refine lv_iload_n hx hb dL_holds_20 rfl (lv_at hl 5 rfl) ?_
  refine lv_iconst (v := 0) hx hb dL_holds_21 (by decide) ?_
  refine r_callI S hK hP (c_X5_billOf l G a hI z _ _ hR hJ) (r_cw S k_153 k_150 k_151 k_152 k_2 q_X5_billOf ⟨Nat.le_of_ble_eq_true rfl, Nat.le_of_ble_eq_true rfl⟩ rfl rfl) (g_recv hK hP (i := 329) (by omega) cC0 rfl) rfl hl.1 rfl (Nat.le_of_ble_eq_true rfl) dL_holds_22 ⟨Nat.zero_le _, Nat.zero_le _⟩ hS (fun _ h => h) (fun H locs hP _ _ hS => ?_)
  have hP : cP G a z H := hP
  refine lv_iconst (v := -1) hx hb dL_holds_25 (by decide) ?_
  refine lv_icmp_ne (tgt := 33) hx hb dL_holds_26 (by decide) (fun c1 => ?_) (fun c1 => ?_)
  · skip
    refine lv_iconst (v := 0) hx hb dL_holds_33 (by decide) ?_
    refine lv_istore (lv' := [(7, .int (0 : Int32)), (6, .int (0 : Int32)), (5, .int (0 : Int32)), (4, .int (0 : Int32)), (3, .int (0 : Int32)), (2, .int (0 : Int32)), (1, .int (nI (cN z))), (0, .ref (a 329))]) hx hb dL_holds_34 hl (by decide) rfl (fun ls hl => ?_)
    refine q_eqIz (show v_L_holds z  = v_L_holds_t36_0 z (0 : Int32) (0 : Int32) (0 : Int32) (0 : Int32) (0 : Int32) from (if_neg c1).trans rfl) rfl ?_
    exact T_36_0 _ _ _ _ _  _ _ hP hS ls (lv_sub hl [7, 6, 5, 4, 3, 2, 1, 0] rfl)
  · skip
    refine lv_iconst (v := 1) hx hb dL_holds_29 (by decide) ?_
    refine lv_goto (tgt := 34) hx hb dL_holds_30 (by decide) ?_
    refine lv_istore (lv' := [(7, .int (1 : Int32)), (6, .int (0 : Int32)), (5, .int (0 : Int32)), (4, .int (0 : Int32)), (3, .int (0 : Int32)), (2, .int (0 : Int32)), (1, .int (nI (cN z))), (0, .ref (a 329))]) hx hb dL_holds_34 hl (by decide) rfl (fun ls hl => ?_)
    refine q_eqIz (show v_L_holds z  = v_L_holds_t36_1 z (0 : Int32) (0 : Int32) (0 : Int32) (0 : Int32) (0 : Int32) from (if_pos c1).trans rfl) rfl ?_
    exact T_36_1 _ _ _ _ _  _ _ hP hS ls (lv_sub hl [7, 6, 5, 4, 3, 2, 1, 0] rfl)
