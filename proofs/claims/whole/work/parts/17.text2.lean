def v_X4_readNumber_loop (p1 : Int32) (p2 : Int32) : Nat → (Nat → Nat → Int32) → Int32 → Int32
  | 0, t, x3 => if x3 ≤ 0 then x3 else if t 0 1 ≤ t 0 2 then x3 else x3
  | n + 1, t, x3 => if x3 ≤ 0 then x3 else if t 0 1 ≤ t 0 2 then x3 else if v_X4_digitAtPlace t = (-1 : Int32) then x3 else if (x3 * (10 : Int32)) + (v_X4_digitAtPlace t) ≤ p2 then (v_X4_readNumber_loop p1 p2 n (up t 0 2 ((t 0 2) + (1 : Int32))) ((x3 * (10 : Int32)) + (v_X4_digitAtPlace t))) else x3
def w_X4_readNumber_loop (p1 : Int32) (p2 : Int32) : Nat → (Nat → Nat → Int32) → Int32 → (Nat → Nat → Int32)
  | 0, t, x3 => if x3 ≤ 0 then t else if t 0 1 ≤ t 0 2 then t else t
  | n + 1, t, x3 => if x3 ≤ 0 then t else if t 0 1 ≤ t 0 2 then t else if v_X4_digitAtPlace t = (-1 : Int32) then t else if (x3 * (10 : Int32)) + (v_X4_digitAtPlace t) ≤ p2 then (w_X4_readNumber_loop p1 p2 n (up t 0 2 ((t 0 2) + (1 : Int32))) ((x3 * (10 : Int32)) + (v_X4_digitAtPlace t))) else t
def v_X4_readNumber (t : Nat → Nat → Int32) (p1 : Int32) (p2 : Int32) : Int32 := if v_X4_digitAtPlace t < p1 then (-1 : Int32) else if v_X4_digitAtPlace t ≤ p2 then (v_X4_readNumber_loop p1 p2 61 (up t 0 2 ((t 0 2) + (1 : Int32))) (v_X4_digitAtPlace t)) else (-1 : Int32)
def w_X4_readNumber (t : Nat → Nat → Int32) (p1 : Int32) (p2 : Int32) : Nat → Nat → Int32 := if v_X4_digitAtPlace t < p1 then t else if v_X4_digitAtPlace t ≤ p2 then (w_X4_readNumber_loop p1 p2 61 (up t 0 2 ((t 0 2) + (1 : Int32))) (v_X4_digitAtPlace t)) else t
theorem q_X4_readNumber : yX4_readNumber.cls ≠ "java/lang/invoke/MethodHandle" ∧ yX4_readNumber.cls ≠ "java/lang/invoke/VarHandle" ∧ (parseMethodDescriptor yX4_readNumber.desc).map (fun d => d.parameters.length) = some 2 := ⟨by decide, by decide, by decide +kernel⟩
set_option maxHeartbeats 4000000 in
set_option maxRecDepth 100000 in
theorem c_X4_readNumber (l : Launch) (G : kG) (a : Nat → Nat) (hI : gI 2 a) (t : Nat → Nat → Int32) (p1 : Int32) (p2 : Int32) (hle : ¬ p1 < 0) : Met l yX4_readNumber (Cond.code yX4_readNumber cX4_readNumber 5 (some .int) :: BIG) (rmK 1) (pcG G (tP G a t) [.ref (a 0), .int p1, .int p2]) (qcI G (gA 2 a) (tP G a (w_X4_readNumber t p1 p2)) (v_X4_readNumber t p1 p2)) 0 0 (gA 2 a) := by
  refine m_start (by decide) (Nat.le_of_ble_eq_true rfl) ?_
  intro p e s m args below meth c S hr hlk hnm hP hK ls hl
  have hx := S.1
  have hb := S.2.1
  have hown := S.2.2.2.1
  have hS : va_S (gA 2 a) s.heap s.heap [] := va_S.rf
  have hl : lv_has ls 5 [(0, .ref (a 0)), (1, .int p1), (2, .int p2)] := hl
  refine lv_aload_n hx hb dX4_readNumber_0 rfl (lv_at hl 0 rfl) ?_
  refine r_callI S hK hP (c_X4_digitAtPlace l G a hI t ) (r_cw S k_552 k_549 k_550 k_551 k_24 q_X4_digitAtPlace ⟨Nat.le_of_ble_eq_true rfl, Nat.le_of_ble_eq_true rfl⟩ rfl rfl) (g_recv hK hP (i := 0) (by omega) tC0 rfl) rfl hl.1 rfl (Nat.le_of_ble_eq_true rfl) dX4_readNumber_1 ⟨Nat.zero_le _, Nat.zero_le _⟩ hS (fun _ h => h) (fun H locs hP _ _ hS => ?_)
  have hP : tP G a t H := hP
  refine lv_istore_n (lv' := [(3, .int (v_X4_digitAtPlace t)), (0, .ref (a 0)), (1, .int p1), (2, .int p2)]) hx hb dX4_readNumber_4 rfl hl (by decide) rfl (fun ls hl => ?_)
  refine lv_iload_n hx hb dX4_readNumber_5 rfl (lv_at hl 0 rfl) ?_
  refine lv_iload_n hx hb dX4_readNumber_6 rfl (lv_at hl 2 rfl) ?_
  refine lv_icmp_lt (tgt := 15) hx hb dX4_readNumber_7 (by decide) (fun c1 => ?_) (fun c1 => ?_)
  · skip
    refine lv_iconst (v := -1) hx hb dX4_readNumber_15 (by decide) ?_
    exact e_int S hr hlk rfl hK hS (gP_eq (show w_X4_readNumber t p1 p2 = t from (if_pos c1).trans rfl) hP) (show v_X4_readNumber t p1 p2 = (-1 : Int32) from (if_pos c1).trans rfl).symm dX4_readNumber_16
  · skip
    refine lv_iload_n hx hb dX4_readNumber_10 rfl (lv_at hl 0 rfl) ?_
    refine lv_iload_n hx hb dX4_readNumber_11 rfl (lv_at hl 3 rfl) ?_
    refine lv_icmp_le (tgt := 17) hx hb dX4_readNumber_12 (by decide) (fun c2 => ?_) (fun c2 => ?_)
    · skip
      refine lv_aload_n hx hb dX4_readNumber_17 rfl (lv_at hl 1 rfl) ?_
      refine lv_dup hx hb dX4_readNumber_18 rfl ?_
      refine g_get S hK hP (i := 0) (by omega) tC0 rfl inlX4 2 (by decide) k_519 (v := .int (t 0 2)) rfl dX4_readNumber_19 ?_
      refine lv_iconst (v := 1) hx hb dX4_readNumber_22 (by decide) ?_
      refine lv_iadd hx hb dX4_readNumber_23 ?_
      refine g_put S hK hP hI hS (i := 0) (by omega) tC0 rfl inlX4 tyX4 tyX4_ok nmX4 tF_n 2 (by decide) k_519 rfl pI rfl rfl (fun _ => rfl) dX4_readNumber_24 (fun H locs hP hS => ?_)
      have hP : tP G a (up t 0 2 ((t 0 2) + (1 : Int32))) H := hP
      have LP_loop : ∀ (n : Nat), True → ∀ (t : Nat → Nat → Int32) (x3 : Int32) (H : Heap) (locs : List Loc), tP G a t H → va_S (gA 2 a) s.heap H locs → 61 ≤ (t 0 2).toInt + (n : Int) → ∀ ls : Array Slot, lv_has ls 5 [(3, .int x3), (0, .ref (a 0)), (1, .int p1), (2, .int p2)] → W p l e (rmK 1) s m args below meth c H locs 0 0 (MQ below (qcI G (gA 2 a) (tP G a (w_X4_readNumber_loop p1 p2 n t x3)) (v_X4_readNumber_loop p1 p2 n t x3)) args s 0 0 (gA 2 a)) (F0 m 27 ls []) := by
        intro n
        induction n with
        | zero =>
          intro  hk_LP_loop t x3 H locs hP hS hm_ ls hl
          refine lv_iload_n hx hb dX4_readNumber_27 rfl (lv_at hl 0 rfl) ?_
          refine lv_if_le (tgt := 88) hx hb dX4_readNumber_28 (by decide) (fun c3 => ?_) (fun c3 => ?_)
          · skip
            refine lv_iload_n hx hb dX4_readNumber_88 rfl (lv_at hl 0 rfl) ?_
            exact e_int S hr hlk rfl hK hS (gP_eq (show w_X4_readNumber_loop p1 p2 0 t x3 = t from (if_pos c3).trans rfl) hP) (show v_X4_readNumber_loop p1 p2 0 t x3 = x3 from (if_pos c3).trans rfl).symm dX4_readNumber_89
          · skip
            refine lv_aload_n hx hb dX4_readNumber_31 rfl (lv_at hl 1 rfl) ?_
            refine g_get S hK hP (i := 0) (by omega) tC0 rfl inlX4 2 (by decide) k_519 (v := .int (t 0 2)) rfl dX4_readNumber_32 ?_
            refine lv_aload_n hx hb dX4_readNumber_35 rfl (lv_at hl 1 rfl) ?_
            refine g_get S hK hP (i := 0) (by omega) tC0 rfl inlX4 1 (by decide) k_497 (v := .int (t 0 1)) rfl dX4_readNumber_36 ?_
            refine lv_icmp_ge (tgt := 88) hx hb dX4_readNumber_39 (by decide) (fun c4 => ?_) (fun c4 => ?_)
            · skip
              refine lv_iload_n hx hb dX4_readNumber_88 rfl (lv_at hl 0 rfl) ?_
              exact e_int S hr hlk rfl hK hS (gP_eq (show w_X4_readNumber_loop p1 p2 0 t x3 = t from (if_neg c3).trans ((if_pos c4).trans rfl)) hP) (show v_X4_readNumber_loop p1 p2 0 t x3 = x3 from (if_neg c3).trans ((if_pos c4).trans rfl)).symm dX4_readNumber_89
            · skip
              refine lv_aload_n hx hb dX4_readNumber_42 rfl (lv_at hl 1 rfl) ?_
              refine r_callI S hK hP (c_X4_digitAtPlace l G a hI t ) (r_cw S k_552 k_549 k_550 k_551 k_24 q_X4_digitAtPlace ⟨Nat.le_of_ble_eq_true rfl, Nat.le_of_ble_eq_true rfl⟩ rfl rfl) (g_recv hK hP (i := 0) (by omega) tC0 rfl) rfl hl.1 rfl (Nat.le_of_ble_eq_true rfl) dX4_readNumber_43 ⟨Nat.zero_le _, Nat.zero_le _⟩ hS (fun _ h => h) (fun H locs hP _ _ hS => ?_)
              have hP : tP G a t H := hP
              refine lv_istore (lv' := [(4, .int (v_X4_digitAtPlace t)), (3, .int x3), (0, .ref (a 0)), (1, .int p1), (2, .int p2)]) hx hb dX4_readNumber_46 hl (by decide) rfl (fun ls hl => ?_)
              refine lv_iload hx hb dX4_readNumber_48 (lv_at hl 0 rfl) ?_
              refine lv_iconst (v := -1) hx hb dX4_readNumber_50 (by decide) ?_
              refine lv_icmp_eq (tgt := 65) hx hb dX4_readNumber_51 (by decide) (fun _ => ?_) (fun c => absurd (digit_big (by omega)) c)
              refine lv_iload_n hx hb dX4_readNumber_65 rfl (lv_at hl 1 rfl) ?_
              exact e_int S hr hlk rfl hK hS (gP_eq (show w_X4_readNumber_loop p1 p2 0 t x3 = t from (if_neg c3).trans ((if_neg c4).trans rfl)) hP) (show v_X4_readNumber_loop p1 p2 0 t x3 = x3 from (if_neg c3).trans ((if_neg c4).trans rfl)).symm dX4_readNumber_66
        | succ n ih_LP_loop =>
          intro  hk_LP_loop t x3 H locs hP hS hm_ ls hl
          refine lv_iload_n hx hb dX4_readNumber_27 rfl (lv_at hl 0 rfl) ?_
          refine lv_if_le (tgt := 88) hx hb dX4_readNumber_28 (by decide) (fun c5 => ?_) (fun c5 => ?_)
          · skip
            refine lv_iload_n hx hb dX4_readNumber_88 rfl (lv_at hl 0 rfl) ?_
            exact e_int S hr hlk rfl hK hS (gP_eq (show w_X4_readNumber_loop p1 p2 (n + 1) t x3 = t from (if_pos c5).trans rfl) hP) (show v_X4_readNumber_loop p1 p2 (n + 1) t x3 = x3 from (if_pos c5).trans rfl).symm dX4_readNumber_89
          · skip
            refine lv_aload_n hx hb dX4_readNumber_31 rfl (lv_at hl 1 rfl) ?_
            refine g_get S hK hP (i := 0) (by omega) tC0 rfl inlX4 2 (by decide) k_519 (v := .int (t 0 2)) rfl dX4_readNumber_32 ?_
            refine lv_aload_n hx hb dX4_readNumber_35 rfl (lv_at hl 1 rfl) ?_
            refine g_get S hK hP (i := 0) (by omega) tC0 rfl inlX4 1 (by decide) k_497 (v := .int (t 0 1)) rfl dX4_readNumber_36 ?_
            refine lv_icmp_ge (tgt := 88) hx hb dX4_readNumber_39 (by decide) (fun c6 => ?_) (fun c6 => ?_)
            · skip
              refine lv_iload_n hx hb dX4_readNumber_88 rfl (lv_at hl 0 rfl) ?_
              exact e_int S hr hlk rfl hK hS (gP_eq (show w_X4_readNumber_loop p1 p2 (n + 1) t x3 = t from (if_neg c5).trans ((if_pos c6).trans rfl)) hP) (show v_X4_readNumber_loop p1 p2 (n + 1) t x3 = x3 from (if_neg c5).trans ((if_pos c6).trans rfl)).symm dX4_readNumber_89
            · skip
              refine lv_aload_n hx hb dX4_readNumber_42 rfl (lv_at hl 1 rfl) ?_
              refine r_callI S hK hP (c_X4_digitAtPlace l G a hI t ) (r_cw S k_552 k_549 k_550 k_551 k_24 q_X4_digitAtPlace ⟨Nat.le_of_ble_eq_true rfl, Nat.le_of_ble_eq_true rfl⟩ rfl rfl) (g_recv hK hP (i := 0) (by omega) tC0 rfl) rfl hl.1 rfl (Nat.le_of_ble_eq_true rfl) dX4_readNumber_43 ⟨Nat.zero_le _, Nat.zero_le _⟩ hS (fun _ h => h) (fun H locs hP _ _ hS => ?_)
              have hP : tP G a t H := hP
              refine lv_istore (lv' := [(4, .int (v_X4_digitAtPlace t)), (3, .int x3), (0, .ref (a 0)), (1, .int p1), (2, .int p2)]) hx hb dX4_readNumber_46 hl (by decide) rfl (fun ls hl => ?_)
              refine lv_iload hx hb dX4_readNumber_48 (lv_at hl 0 rfl) ?_
              refine lv_iconst (v := -1) hx hb dX4_readNumber_50 (by decide) ?_
              refine lv_icmp_eq (tgt := 65) hx hb dX4_readNumber_51 (by decide) (fun c7 => ?_) (fun c7 => ?_)
              · skip
                refine lv_iload_n hx hb dX4_readNumber_65 rfl (lv_at hl 1 rfl) ?_
                exact e_int S hr hlk rfl hK hS (gP_eq (show w_X4_readNumber_loop p1 p2 (n + 1) t x3 = t from (if_neg c5).trans ((if_neg c6).trans ((if_pos c7).trans rfl))) hP) (show v_X4_readNumber_loop p1 p2 (n + 1) t x3 = x3 from (if_neg c5).trans ((if_neg c6).trans ((if_pos c7).trans rfl))).symm dX4_readNumber_66
              · skip
                refine lv_iload_n hx hb dX4_readNumber_54 rfl (lv_at hl 1 rfl) ?_
                refine lv_bipush (v := 10) hx hb dX4_readNumber_55 (by decide) ?_
                refine lv_imul hx hb dX4_readNumber_57 ?_
                refine lv_iload hx hb dX4_readNumber_58 (lv_at hl 0 rfl) ?_
                refine lv_iadd hx hb dX4_readNumber_60 ?_
                refine lv_iload_n hx hb dX4_readNumber_61 rfl (lv_at hl 4 rfl) ?_
                refine lv_icmp_le (tgt := 67) hx hb dX4_readNumber_62 (by decide) (fun c8 => ?_) (fun c8 => ?_)
                · skip
                  refine lv_iload_n hx hb dX4_readNumber_67 rfl (lv_at hl 1 rfl) ?_
                  refine lv_bipush (v := 10) hx hb dX4_readNumber_68 (by decide) ?_
                  refine lv_imul hx hb dX4_readNumber_70 ?_
                  refine lv_iload hx hb dX4_readNumber_71 (lv_at hl 0 rfl) ?_
                  refine lv_iadd hx hb dX4_readNumber_73 ?_
                  refine lv_istore_n (lv' := [(3, .int ((x3 * (10 : Int32)) + (v_X4_digitAtPlace t))), (4, .int (v_X4_digitAtPlace t)), (0, .ref (a 0)), (1, .int p1), (2, .int p2)]) hx hb dX4_readNumber_74 rfl hl (by decide) rfl (fun ls hl => ?_)
                  refine lv_aload_n hx hb dX4_readNumber_75 rfl (lv_at hl 2 rfl) ?_
                  refine lv_dup hx hb dX4_readNumber_76 rfl ?_
                  refine g_get S hK hP (i := 0) (by omega) tC0 rfl inlX4 2 (by decide) k_519 (v := .int (t 0 2)) rfl dX4_readNumber_77 ?_
                  refine lv_iconst (v := 1) hx hb dX4_readNumber_80 (by decide) ?_
                  refine lv_iadd hx hb dX4_readNumber_81 ?_
                  refine g_put S hK hP hI hS (i := 0) (by omega) tC0 rfl inlX4 tyX4 tyX4_ok nmX4 tF_n 2 (by decide) k_519 rfl pI rfl rfl (fun _ => rfl) dX4_readNumber_82 (fun H locs hP hS => ?_)
                  have hP : tP G a (up t 0 2 ((t 0 2) + (1 : Int32))) H := hP
                  refine lv_goto (tgt := 27) hx hb dX4_readNumber_85 (by decide) ?_
                  refine q_eqI (show v_X4_readNumber_loop p1 p2 (n + 1) t x3 = v_X4_readNumber_loop p1 p2 n (up t 0 2 ((t 0 2) + (1 : Int32))) ((x3 * (10 : Int32)) + (v_X4_digitAtPlace t)) from (if_neg c5).trans ((if_neg c6).trans ((if_neg c7).trans ((if_pos c8).trans rfl)))) (show w_X4_readNumber_loop p1 p2 (n + 1) t x3 = w_X4_readNumber_loop p1 p2 n (up t 0 2 ((t 0 2) + (1 : Int32))) ((x3 * (10 : Int32)) + (v_X4_digitAtPlace t)) from (if_neg c5).trans ((if_neg c6).trans ((if_neg c7).trans ((if_pos c8).trans rfl)))) ?_
                  exact ih_LP_loop  trivial _ _ _ _ hP hS (place_step c7 hm_) ls (lv_sub hl [0, 2, 3, 4] rfl)
                · skip
                  refine lv_iload_n hx hb dX4_readNumber_65 rfl (lv_at hl 1 rfl) ?_
                  exact e_int S hr hlk rfl hK hS (gP_eq (show w_X4_readNumber_loop p1 p2 (n + 1) t x3 = t from (if_neg c5).trans ((if_neg c6).trans ((if_neg c7).trans ((if_neg c8).trans rfl)))) hP) (show v_X4_readNumber_loop p1 p2 (n + 1) t x3 = x3 from (if_neg c5).trans ((if_neg c6).trans ((if_neg c7).trans ((if_neg c8).trans rfl)))).symm dX4_readNumber_66
      refine q_eqI (show v_X4_readNumber t p1 p2 = v_X4_readNumber_loop p1 p2 61 (up t 0 2 ((t 0 2) + (1 : Int32))) (v_X4_digitAtPlace t) from (if_neg c1).trans ((if_pos c2).trans rfl)) (show w_X4_readNumber t p1 p2 = w_X4_readNumber_loop p1 p2 61 (up t 0 2 ((t 0 2) + (1 : Int32))) (v_X4_digitAtPlace t) from (if_neg c1).trans ((if_pos c2).trans rfl)) ?_
      exact LP_loop 61  trivial _ _ _ _ hP hS (place_init c1 hle) ls (lv_sub hl [0, 1, 2, 3] rfl)
    · skip
      refine lv_iconst (v := -1) hx hb dX4_readNumber_15 (by decide) ?_
      exact e_int S hr hlk rfl hK hS (gP_eq (show w_X4_readNumber t p1 p2 = t from (if_neg c1).trans ((if_neg c2).trans rfl)) hP) (show v_X4_readNumber t p1 p2 = (-1 : Int32) from (if_neg c1).trans ((if_neg c2).trans rfl)).symm dX4_readNumber_16

def v_X4_readCustomerAndAmount (t : Nat → Nat → Int32) (p1 : Int32) : Int32 := if v_X4_readNumber t (0 : Int32) (7 : Int32) = (-1 : Int32) then (0 : Int32) else if v_X4_skip (up (w_X4_readNumber t (0 : Int32) (7 : Int32)) 0 4 (v_X4_readNumber t (0 : Int32) (7 : Int32))) (58 : Int32) = 0 then (0 : Int32) else if v_X4_readNumber (w_X4_skip (up (w_X4_readNumber t (0 : Int32) (7 : Int32)) 0 4 (v_X4_readNumber t (0 : Int32) (7 : Int32))) (58 : Int32)) (1 : Int32) p1 = (-1 : Int32) then (0 : Int32) else (1 : Int32)
def w_X4_readCustomerAndAmount (t : Nat → Nat → Int32) (p1 : Int32) : Nat → Nat → Int32 := if v_X4_readNumber t (0 : Int32) (7 : Int32) = (-1 : Int32) then (up (w_X4_readNumber t (0 : Int32) (7 : Int32)) 0 4 (v_X4_readNumber t (0 : Int32) (7 : Int32))) else if v_X4_skip (up (w_X4_readNumber t (0 : Int32) (7 : Int32)) 0 4 (v_X4_readNumber t (0 : Int32) (7 : Int32))) (58 : Int32) = 0 then (w_X4_skip (up (w_X4_readNumber t (0 : Int32) (7 : Int32)) 0 4 (v_X4_readNumber t (0 : Int32) (7 : Int32))) (58 : Int32)) else if v_X4_readNumber (w_X4_skip (up (w_X4_readNumber t (0 : Int32) (7 : Int32)) 0 4 (v_X4_readNumber t (0 : Int32) (7 : Int32))) (58 : Int32)) (1 : Int32) p1 = (-1 : Int32) then (up (w_X4_readNumber (w_X4_skip (up (w_X4_readNumber t (0 : Int32) (7 : Int32)) 0 4 (v_X4_readNumber t (0 : Int32) (7 : Int32))) (58 : Int32)) (1 : Int32) p1) 0 5 (v_X4_readNumber (w_X4_skip (up (w_X4_readNumber t (0 : Int32) (7 : Int32)) 0 4 (v_X4_readNumber t (0 : Int32) (7 : Int32))) (58 : Int32)) (1 : Int32) p1)) else up (w_X4_readNumber (w_X4_skip (up (w_X4_readNumber t (0 : Int32) (7 : Int32)) 0 4 (v_X4_readNumber t (0 : Int32) (7 : Int32))) (58 : Int32)) (1 : Int32) p1) 0 5 (v_X4_readNumber (w_X4_skip (up (w_X4_readNumber t (0 : Int32) (7 : Int32)) 0 4 (v_X4_readNumber t (0 : Int32) (7 : Int32))) (58 : Int32)) (1 : Int32) p1)
theorem q_X4_readCustomerAndAmount : yX4_readCustomerAndAmount.cls ≠ "java/lang/invoke/MethodHandle" ∧ yX4_readCustomerAndAmount.cls ≠ "java/lang/invoke/VarHandle" ∧ (parseMethodDescriptor yX4_readCustomerAndAmount.desc).map (fun d => d.parameters.length) = some 1 := ⟨by decide, by decide, by decide +kernel⟩
theorem z_X4_readCustomerAndAmount (t : Nat → Nat → Int32) (p1 : Int32) : narrow .boolean (.int (v_X4_readCustomerAndAmount t p1)) = .int (v_X4_readCustomerAndAmount t p1) := by
  unfold v_X4_readCustomerAndAmount
  exact z_ite z_0 (z_ite z_0 (z_ite z_0 z_1))
set_option maxHeartbeats 4000000 in
set_option maxRecDepth 100000 in
theorem c_X4_readCustomerAndAmount (l : Launch) (G : kG) (a : Nat → Nat) (hI : gI 2 a) (t : Nat → Nat → Int32) (p1 : Int32) : Met l yX4_readCustomerAndAmount (Cond.code yX4_readCustomerAndAmount cX4_readCustomerAndAmount 2 (some .boolean) :: BIG) (rmK 2) (pcG G (tP G a t) [.ref (a 0), .int p1]) (qcI G (gA 2 a) (tP G a (w_X4_readCustomerAndAmount t p1)) (v_X4_readCustomerAndAmount t p1)) 0 0 (gA 2 a) := by
  refine m_start (by decide) (Nat.le_of_ble_eq_true rfl) ?_
  intro p e s m args below meth c S hr hlk hnm hP hK ls hl
  have hx := S.1
  have hb := S.2.1
  have hown := S.2.2.2.1
  have hS : va_S (gA 2 a) s.heap s.heap [] := va_S.rf
  have hl : lv_has ls 2 [(0, .ref (a 0)), (1, .int p1)] := hl
  refine lv_aload_n hx hb dX4_readCustomerAndAmount_0 rfl (lv_at hl 0 rfl) ?_
  refine lv_aload_n hx hb dX4_readCustomerAndAmount_1 rfl (lv_at hl 0 rfl) ?_
  refine lv_iconst (v := 0) hx hb dX4_readCustomerAndAmount_2 (by decide) ?_
  refine lv_bipush (v := 7) hx hb dX4_readCustomerAndAmount_3 (by decide) ?_
  refine r_callI S hK hP (c_X4_readNumber l G a hI t _ _ (by decide)) (r_cw S k_548 k_545 k_546 k_547 k_24 q_X4_readNumber ⟨Nat.le_of_ble_eq_true rfl, Nat.le_of_ble_eq_true rfl⟩ rfl rfl) (g_recv hK hP (i := 0) (by omega) tC0 rfl) rfl hl.1 rfl (Nat.le_of_ble_eq_true rfl) dX4_readCustomerAndAmount_5 ⟨Nat.zero_le _, Nat.zero_le _⟩ hS (fun _ h => h) (fun H locs hP _ _ hS => ?_)
  have hP : tP G a (w_X4_readNumber t (0 : Int32) (7 : Int32)) H := hP
  refine g_put S hK hP hI hS (i := 0) (by omega) tC0 rfl inlX4 tyX4 tyX4_ok nmX4 tF_n 4 (by decide) k_543 rfl pI rfl rfl (fun _ => rfl) dX4_readCustomerAndAmount_8 (fun H locs hP hS => ?_)
  have hP : tP G a (up (w_X4_readNumber t (0 : Int32) (7 : Int32)) 0 4 (v_X4_readNumber t (0 : Int32) (7 : Int32))) H := hP
  refine lv_aload_n hx hb dX4_readCustomerAndAmount_11 rfl (lv_at hl 0 rfl) ?_
  refine g_get S hK hP (i := 0) (by omega) tC0 rfl inlX4 4 (by decide) k_543 (v := .int (v_X4_readNumber t (0 : Int32) (7 : Int32))) (congrArg Value.int (up_same)) dX4_readCustomerAndAmount_12 ?_
  refine lv_iconst (v := -1) hx hb dX4_readCustomerAndAmount_15 (by decide) ?_
  refine lv_icmp_eq (tgt := 28) hx hb dX4_readCustomerAndAmount_16 (by decide) (fun c1 => ?_) (fun c1 => ?_)
  · skip
    refine lv_iconst (v := 0) hx hb dX4_readCustomerAndAmount_28 (by decide) ?_
    exact e_int S hr hlk rfl hK hS (gP_eq (show w_X4_readCustomerAndAmount t p1 = up (w_X4_readNumber t (0 : Int32) (7 : Int32)) 0 4 (v_X4_readNumber t (0 : Int32) (7 : Int32)) from (if_pos c1).trans rfl) hP) (show v_X4_readCustomerAndAmount t p1 = (0 : Int32) from (if_pos c1).trans rfl).symm dX4_readCustomerAndAmount_29
  · skip
    refine lv_aload_n hx hb dX4_readCustomerAndAmount_19 rfl (lv_at hl 0 rfl) ?_
    refine lv_bipush (v := 58) hx hb dX4_readCustomerAndAmount_20 (by decide) ?_
    refine r_callI S hK hP (c_X4_skip l G a hI (up (w_X4_readNumber t (0 : Int32) (7 : Int32)) 0 4 (v_X4_readNumber t (0 : Int32) (7 : Int32))) _ ) (r_cw S k_533 k_530 k_531 k_532 k_24 q_X4_skip ⟨Nat.le_of_ble_eq_true rfl, Nat.le_of_ble_eq_true rfl⟩ rfl rfl) (g_recv hK hP (i := 0) (by omega) tC0 rfl) rfl hl.1 rfl (Nat.le_of_ble_eq_true rfl) dX4_readCustomerAndAmount_22 ⟨Nat.zero_le _, Nat.zero_le _⟩ hS (fun _ h => h) (fun H locs hP _ _ hS => ?_)
    have hP : tP G a (w_X4_skip (up (w_X4_readNumber t (0 : Int32) (7 : Int32)) 0 4 (v_X4_readNumber t (0 : Int32) (7 : Int32))) (58 : Int32)) H := hP
    refine lv_if_ne (tgt := 30) hx hb dX4_readCustomerAndAmount_25 (by decide) (fun c2 => ?_) (fun c2 => ?_)
    · skip
      refine lv_aload_n hx hb dX4_readCustomerAndAmount_30 rfl (lv_at hl 0 rfl) ?_
      refine lv_aload_n hx hb dX4_readCustomerAndAmount_31 rfl (lv_at hl 0 rfl) ?_
      refine lv_iconst (v := 1) hx hb dX4_readCustomerAndAmount_32 (by decide) ?_
      refine lv_iload_n hx hb dX4_readCustomerAndAmount_33 rfl (lv_at hl 1 rfl) ?_
      refine r_callI S hK hP (c_X4_readNumber l G a hI (w_X4_skip (up (w_X4_readNumber t (0 : Int32) (7 : Int32)) 0 4 (v_X4_readNumber t (0 : Int32) (7 : Int32))) (58 : Int32)) _ _ (by decide)) (r_cw S k_548 k_545 k_546 k_547 k_24 q_X4_readNumber ⟨Nat.le_of_ble_eq_true rfl, Nat.le_of_ble_eq_true rfl⟩ rfl rfl) (g_recv hK hP (i := 0) (by omega) tC0 rfl) rfl hl.1 rfl (Nat.le_of_ble_eq_true rfl) dX4_readCustomerAndAmount_34 ⟨Nat.zero_le _, Nat.zero_le _⟩ hS (fun _ h => h) (fun H locs hP _ _ hS => ?_)
      have hP : tP G a (w_X4_readNumber (w_X4_skip (up (w_X4_readNumber t (0 : Int32) (7 : Int32)) 0 4 (v_X4_readNumber t (0 : Int32) (7 : Int32))) (58 : Int32)) (1 : Int32) p1) H := hP
      refine g_put S hK hP hI hS (i := 0) (by omega) tC0 rfl inlX4 tyX4 tyX4_ok nmX4 tF_n 5 (by decide) k_544 rfl pI rfl rfl (fun _ => rfl) dX4_readCustomerAndAmount_37 (fun H locs hP hS => ?_)
      have hP : tP G a (up (w_X4_readNumber (w_X4_skip (up (w_X4_readNumber t (0 : Int32) (7 : Int32)) 0 4 (v_X4_readNumber t (0 : Int32) (7 : Int32))) (58 : Int32)) (1 : Int32) p1) 0 5 (v_X4_readNumber (w_X4_skip (up (w_X4_readNumber t (0 : Int32) (7 : Int32)) 0 4 (v_X4_readNumber t (0 : Int32) (7 : Int32))) (58 : Int32)) (1 : Int32) p1)) H := hP
      refine lv_aload_n hx hb dX4_readCustomerAndAmount_40 rfl (lv_at hl 0 rfl) ?_
      refine g_get S hK hP (i := 0) (by omega) tC0 rfl inlX4 5 (by decide) k_544 (v := .int (v_X4_readNumber (w_X4_skip (up (w_X4_readNumber t (0 : Int32) (7 : Int32)) 0 4 (v_X4_readNumber t (0 : Int32) (7 : Int32))) (58 : Int32)) (1 : Int32) p1)) (congrArg Value.int (up_same)) dX4_readCustomerAndAmount_41 ?_
      refine lv_iconst (v := -1) hx hb dX4_readCustomerAndAmount_44 (by decide) ?_
      refine lv_icmp_eq (tgt := 52) hx hb dX4_readCustomerAndAmount_45 (by decide) (fun c3 => ?_) (fun c3 => ?_)
      · skip
        refine lv_iconst (v := 0) hx hb dX4_readCustomerAndAmount_52 (by decide) ?_
        exact e_int S hr hlk rfl hK hS (gP_eq (show w_X4_readCustomerAndAmount t p1 = up (w_X4_readNumber (w_X4_skip (up (w_X4_readNumber t (0 : Int32) (7 : Int32)) 0 4 (v_X4_readNumber t (0 : Int32) (7 : Int32))) (58 : Int32)) (1 : Int32) p1) 0 5 (v_X4_readNumber (w_X4_skip (up (w_X4_readNumber t (0 : Int32) (7 : Int32)) 0 4 (v_X4_readNumber t (0 : Int32) (7 : Int32))) (58 : Int32)) (1 : Int32) p1) from (if_neg c1).trans ((if_neg c2).trans ((if_pos c3).trans rfl))) hP) (show v_X4_readCustomerAndAmount t p1 = (0 : Int32) from (if_neg c1).trans ((if_neg c2).trans ((if_pos c3).trans rfl))).symm dX4_readCustomerAndAmount_53
      · skip
        refine lv_iconst (v := 1) hx hb dX4_readCustomerAndAmount_48 (by decide) ?_
        refine lv_goto (tgt := 53) hx hb dX4_readCustomerAndAmount_49 (by decide) ?_
        exact e_int S hr hlk rfl hK hS (gP_eq (show w_X4_readCustomerAndAmount t p1 = up (w_X4_readNumber (w_X4_skip (up (w_X4_readNumber t (0 : Int32) (7 : Int32)) 0 4 (v_X4_readNumber t (0 : Int32) (7 : Int32))) (58 : Int32)) (1 : Int32) p1) 0 5 (v_X4_readNumber (w_X4_skip (up (w_X4_readNumber t (0 : Int32) (7 : Int32)) 0 4 (v_X4_readNumber t (0 : Int32) (7 : Int32))) (58 : Int32)) (1 : Int32) p1) from (if_neg c1).trans ((if_neg c2).trans ((if_neg c3).trans rfl))) hP) (show v_X4_readCustomerAndAmount t p1 = (1 : Int32) from (if_neg c1).trans ((if_neg c2).trans ((if_neg c3).trans rfl))).symm dX4_readCustomerAndAmount_53
    · skip
      refine lv_iconst (v := 0) hx hb dX4_readCustomerAndAmount_28 (by decide) ?_
      exact e_int S hr hlk rfl hK hS (gP_eq (show w_X4_readCustomerAndAmount t p1 = w_X4_skip (up (w_X4_readNumber t (0 : Int32) (7 : Int32)) 0 4 (v_X4_readNumber t (0 : Int32) (7 : Int32))) (58 : Int32) from (if_neg c1).trans ((if_pos c2).trans rfl)) hP) (show v_X4_readCustomerAndAmount t p1 = (0 : Int32) from (if_neg c1).trans ((if_pos c2).trans rfl)).symm dX4_readCustomerAndAmount_29

def v_X4_readPayment (t : Nat → Nat → Int32) : Int32 := if v_X4_readCustomerAndAmount t (99999 : Int32) = 0 then (0 : Int32) else if v_X4_skip (w_X4_readCustomerAndAmount t (99999 : Int32)) (35 : Int32) = 0 then (1 : Int32) else if v_X4_readNumber (up (w_X4_skip (w_X4_readCustomerAndAmount t (99999 : Int32)) (35 : Int32)) 0 3 (2 : Int32)) (0 : Int32) (39 : Int32) = (-1 : Int32) then (0 : Int32) else (1 : Int32)
def w_X4_readPayment (t : Nat → Nat → Int32) : Nat → Nat → Int32 := if v_X4_readCustomerAndAmount t (99999 : Int32) = 0 then (w_X4_readCustomerAndAmount t (99999 : Int32)) else if v_X4_skip (w_X4_readCustomerAndAmount t (99999 : Int32)) (35 : Int32) = 0 then (w_X4_skip (w_X4_readCustomerAndAmount t (99999 : Int32)) (35 : Int32)) else if v_X4_readNumber (up (w_X4_skip (w_X4_readCustomerAndAmount t (99999 : Int32)) (35 : Int32)) 0 3 (2 : Int32)) (0 : Int32) (39 : Int32) = (-1 : Int32) then (up (w_X4_readNumber (up (w_X4_skip (w_X4_readCustomerAndAmount t (99999 : Int32)) (35 : Int32)) 0 3 (2 : Int32)) (0 : Int32) (39 : Int32)) 0 8 (v_X4_readNumber (up (w_X4_skip (w_X4_readCustomerAndAmount t (99999 : Int32)) (35 : Int32)) 0 3 (2 : Int32)) (0 : Int32) (39 : Int32))) else up (w_X4_readNumber (up (w_X4_skip (w_X4_readCustomerAndAmount t (99999 : Int32)) (35 : Int32)) 0 3 (2 : Int32)) (0 : Int32) (39 : Int32)) 0 8 (v_X4_readNumber (up (w_X4_skip (w_X4_readCustomerAndAmount t (99999 : Int32)) (35 : Int32)) 0 3 (2 : Int32)) (0 : Int32) (39 : Int32))
theorem q_X4_readPayment : yX4_readPayment.cls ≠ "java/lang/invoke/MethodHandle" ∧ yX4_readPayment.cls ≠ "java/lang/invoke/VarHandle" ∧ (parseMethodDescriptor yX4_readPayment.desc).map (fun d => d.parameters.length) = some 0 := ⟨by decide, by decide, by decide +kernel⟩
theorem z_X4_readPayment (t : Nat → Nat → Int32) : narrow .boolean (.int (v_X4_readPayment t )) = .int (v_X4_readPayment t ) := by
  unfold v_X4_readPayment
  exact z_ite z_0 (z_ite z_1 (z_ite z_0 z_1))
set_option maxHeartbeats 4000000 in
set_option maxRecDepth 100000 in
theorem c_X4_readPayment (l : Launch) (G : kG) (a : Nat → Nat) (hI : gI 2 a) (t : Nat → Nat → Int32) : Met l yX4_readPayment (Cond.code yX4_readPayment cX4_readPayment 1 (some .boolean) :: BIG) (rmK 3) (pcG G (tP G a t) [.ref (a 0)]) (qcI G (gA 2 a) (tP G a (w_X4_readPayment t)) (v_X4_readPayment t)) 0 0 (gA 2 a) := by
  refine m_start (by decide) (Nat.le_of_ble_eq_true rfl) ?_
  intro p e s m args below meth c S hr hlk hnm hP hK ls hl
  have hx := S.1
  have hb := S.2.1
  have hown := S.2.2.2.1
  have hS : va_S (gA 2 a) s.heap s.heap [] := va_S.rf
  have hl : lv_has ls 1 [(0, .ref (a 0))] := hl
  refine lv_aload_n hx hb dX4_readPayment_0 rfl (lv_at hl 0 rfl) ?_
  refine lv_ldc hx hb hown (S.2.2.2.2 _ k_557) dX4_readPayment_1 ?_
  refine r_callI S hK hP (c_X4_readCustomerAndAmount l G a hI t _ ) (r_cw S k_542 k_539 k_540 k_541 k_24 q_X4_readCustomerAndAmount ⟨Nat.le_of_ble_eq_true rfl, Nat.le_of_ble_eq_true rfl⟩ rfl rfl) (g_recv hK hP (i := 0) (by omega) tC0 rfl) rfl hl.1 rfl (Nat.le_of_ble_eq_true rfl) dX4_readPayment_3 ⟨Nat.zero_le _, Nat.zero_le _⟩ hS (fun _ h => h) (fun H locs hP _ _ hS => ?_)
  have hP : tP G a (w_X4_readCustomerAndAmount t (99999 : Int32)) H := hP
  refine lv_if_ne (tgt := 11) hx hb dX4_readPayment_6 (by decide) (fun c1 => ?_) (fun c1 => ?_)
  · skip
    refine lv_aload_n hx hb dX4_readPayment_11 rfl (lv_at hl 0 rfl) ?_
    refine lv_bipush (v := 35) hx hb dX4_readPayment_12 (by decide) ?_
    refine r_callI S hK hP (c_X4_skip l G a hI (w_X4_readCustomerAndAmount t (99999 : Int32)) _ ) (r_cw S k_533 k_530 k_531 k_532 k_24 q_X4_skip ⟨Nat.le_of_ble_eq_true rfl, Nat.le_of_ble_eq_true rfl⟩ rfl rfl) (g_recv hK hP (i := 0) (by omega) tC0 rfl) rfl hl.1 rfl (Nat.le_of_ble_eq_true rfl) dX4_readPayment_14 ⟨Nat.zero_le _, Nat.zero_le _⟩ hS (fun _ h => h) (fun H locs hP _ _ hS => ?_)
    have hP : tP G a (w_X4_skip (w_X4_readCustomerAndAmount t (99999 : Int32)) (35 : Int32)) H := hP
    refine lv_if_ne (tgt := 22) hx hb dX4_readPayment_17 (by decide) (fun c2 => ?_) (fun c2 => ?_)
    · skip
      refine lv_aload_n hx hb dX4_readPayment_22 rfl (lv_at hl 0 rfl) ?_
      refine lv_iconst (v := 2) hx hb dX4_readPayment_23 (by decide) ?_
      refine g_put S hK hP hI hS (i := 0) (by omega) tC0 rfl inlX4 tyX4 tyX4_ok nmX4 tF_n 3 (by decide) k_528 rfl pI rfl rfl (fun _ => rfl) dX4_readPayment_24 (fun H locs hP hS => ?_)
      have hP : tP G a (up (w_X4_skip (w_X4_readCustomerAndAmount t (99999 : Int32)) (35 : Int32)) 0 3 (2 : Int32)) H := hP
      refine lv_aload_n hx hb dX4_readPayment_27 rfl (lv_at hl 0 rfl) ?_
      refine lv_aload_n hx hb dX4_readPayment_28 rfl (lv_at hl 0 rfl) ?_
      refine lv_iconst (v := 0) hx hb dX4_readPayment_29 (by decide) ?_
      refine lv_bipush (v := 39) hx hb dX4_readPayment_30 (by decide) ?_
      refine r_callI S hK hP (c_X4_readNumber l G a hI (up (w_X4_skip (w_X4_readCustomerAndAmount t (99999 : Int32)) (35 : Int32)) 0 3 (2 : Int32)) _ _ (by decide)) (r_cw S k_548 k_545 k_546 k_547 k_24 q_X4_readNumber ⟨Nat.le_of_ble_eq_true rfl, Nat.le_of_ble_eq_true rfl⟩ rfl rfl) (g_recv hK hP (i := 0) (by omega) tC0 rfl) rfl hl.1 rfl (Nat.le_of_ble_eq_true rfl) dX4_readPayment_32 ⟨Nat.zero_le _, Nat.zero_le _⟩ hS (fun _ h => h) (fun H locs hP _ _ hS => ?_)
      have hP : tP G a (w_X4_readNumber (up (w_X4_skip (w_X4_readCustomerAndAmount t (99999 : Int32)) (35 : Int32)) 0 3 (2 : Int32)) (0 : Int32) (39 : Int32)) H := hP
      refine g_put S hK hP hI hS (i := 0) (by omega) tC0 rfl inlX4 tyX4 tyX4_ok nmX4 tF_n 8 (by decide) k_558 rfl pI rfl rfl (fun _ => rfl) dX4_readPayment_35 (fun H locs hP hS => ?_)
      have hP : tP G a (up (w_X4_readNumber (up (w_X4_skip (w_X4_readCustomerAndAmount t (99999 : Int32)) (35 : Int32)) 0 3 (2 : Int32)) (0 : Int32) (39 : Int32)) 0 8 (v_X4_readNumber (up (w_X4_skip (w_X4_readCustomerAndAmount t (99999 : Int32)) (35 : Int32)) 0 3 (2 : Int32)) (0 : Int32) (39 : Int32))) H := hP
      refine lv_aload_n hx hb dX4_readPayment_38 rfl (lv_at hl 0 rfl) ?_
      refine g_get S hK hP (i := 0) (by omega) tC0 rfl inlX4 8 (by decide) k_558 (v := .int (v_X4_readNumber (up (w_X4_skip (w_X4_readCustomerAndAmount t (99999 : Int32)) (35 : Int32)) 0 3 (2 : Int32)) (0 : Int32) (39 : Int32))) (congrArg Value.int (up_same)) dX4_readPayment_39 ?_
      refine lv_iconst (v := -1) hx hb dX4_readPayment_42 (by decide) ?_
      refine lv_icmp_eq (tgt := 50) hx hb dX4_readPayment_43 (by decide) (fun c3 => ?_) (fun c3 => ?_)
      · skip
        refine lv_iconst (v := 0) hx hb dX4_readPayment_50 (by decide) ?_
        exact e_int S hr hlk rfl hK hS (gP_eq (show w_X4_readPayment t  = up (w_X4_readNumber (up (w_X4_skip (w_X4_readCustomerAndAmount t (99999 : Int32)) (35 : Int32)) 0 3 (2 : Int32)) (0 : Int32) (39 : Int32)) 0 8 (v_X4_readNumber (up (w_X4_skip (w_X4_readCustomerAndAmount t (99999 : Int32)) (35 : Int32)) 0 3 (2 : Int32)) (0 : Int32) (39 : Int32)) from (if_neg c1).trans ((if_neg c2).trans ((if_pos c3).trans rfl))) hP) (show v_X4_readPayment t  = (0 : Int32) from (if_neg c1).trans ((if_neg c2).trans ((if_pos c3).trans rfl))).symm dX4_readPayment_51
      · skip
        refine lv_iconst (v := 1) hx hb dX4_readPayment_46 (by decide) ?_
        refine lv_goto (tgt := 51) hx hb dX4_readPayment_47 (by decide) ?_
        exact e_int S hr hlk rfl hK hS (gP_eq (show w_X4_readPayment t  = up (w_X4_readNumber (up (w_X4_skip (w_X4_readCustomerAndAmount t (99999 : Int32)) (35 : Int32)) 0 3 (2 : Int32)) (0 : Int32) (39 : Int32)) 0 8 (v_X4_readNumber (up (w_X4_skip (w_X4_readCustomerAndAmount t (99999 : Int32)) (35 : Int32)) 0 3 (2 : Int32)) (0 : Int32) (39 : Int32)) from (if_neg c1).trans ((if_neg c2).trans ((if_neg c3).trans rfl))) hP) (show v_X4_readPayment t  = (1 : Int32) from (if_neg c1).trans ((if_neg c2).trans ((if_neg c3).trans rfl))).symm dX4_readPayment_51
    · skip
      refine lv_iconst (v := 1) hx hb dX4_readPayment_20 (by decide) ?_
      exact e_int S hr hlk rfl hK hS (gP_eq (show w_X4_readPayment t  = w_X4_skip (w_X4_readCustomerAndAmount t (99999 : Int32)) (35 : Int32) from (if_neg c1).trans ((if_pos c2).trans rfl)) hP) (show v_X4_readPayment t  = (1 : Int32) from (if_neg c1).trans ((if_pos c2).trans rfl)).symm dX4_readPayment_21
  · skip
    refine lv_iconst (v := 0) hx hb dX4_readPayment_9 (by decide) ?_
    exact e_int S hr hlk rfl hK hS (gP_eq (show w_X4_readPayment t  = w_X4_readCustomerAndAmount t (99999 : Int32) from (if_pos c1).trans rfl) hP) (show v_X4_readPayment t  = (0 : Int32) from (if_pos c1).trans rfl).symm dX4_readPayment_10

def v_X4_readBill (t : Nat → Nat → Int32) : Int32 := if v_X4_readCustomerAndAmount t (9999 : Int32) = 0 then (0 : Int32) else if v_X4_skip (w_X4_readCustomerAndAmount t (9999 : Int32)) (64 : Int32) = 0 then (if v_X4_skip (up (w_X4_skip (w_X4_readCustomerAndAmount t (9999 : Int32)) (64 : Int32)) 0 6 (20 : Int32)) (43 : Int32) = 0 then (1 : Int32) else if v_X4_readNumber (w_X4_skip (up (w_X4_skip (w_X4_readCustomerAndAmount t (9999 : Int32)) (64 : Int32)) 0 6 (20 : Int32)) (43 : Int32)) (0 : Int32) (99 : Int32) = (-1 : Int32) then (0 : Int32) else (1 : Int32)) else if v_X4_readNumber (w_X4_skip (w_X4_readCustomerAndAmount t (9999 : Int32)) (64 : Int32)) (0 : Int32) (40 : Int32) = (-1 : Int32) then (0 : Int32) else if v_X4_skip (up (w_X4_readNumber (w_X4_skip (w_X4_readCustomerAndAmount t (9999 : Int32)) (64 : Int32)) (0 : Int32) (40 : Int32)) 0 6 (v_X4_readNumber (w_X4_skip (w_X4_readCustomerAndAmount t (9999 : Int32)) (64 : Int32)) (0 : Int32) (40 : Int32))) (43 : Int32) = 0 then (1 : Int32) else if v_X4_readNumber (w_X4_skip (up (w_X4_readNumber (w_X4_skip (w_X4_readCustomerAndAmount t (9999 : Int32)) (64 : Int32)) (0 : Int32) (40 : Int32)) 0 6 (v_X4_readNumber (w_X4_skip (w_X4_readCustomerAndAmount t (9999 : Int32)) (64 : Int32)) (0 : Int32) (40 : Int32))) (43 : Int32)) (0 : Int32) (99 : Int32) = (-1 : Int32) then (0 : Int32) else (1 : Int32)
def w_X4_readBill (t : Nat → Nat → Int32) : Nat → Nat → Int32 := if v_X4_readCustomerAndAmount t (9999 : Int32) = 0 then (w_X4_readCustomerAndAmount t (9999 : Int32)) else if v_X4_skip (w_X4_readCustomerAndAmount t (9999 : Int32)) (64 : Int32) = 0 then (if v_X4_skip (up (w_X4_skip (w_X4_readCustomerAndAmount t (9999 : Int32)) (64 : Int32)) 0 6 (20 : Int32)) (43 : Int32) = 0 then (up (w_X4_skip (up (w_X4_skip (w_X4_readCustomerAndAmount t (9999 : Int32)) (64 : Int32)) 0 6 (20 : Int32)) (43 : Int32)) 0 7 (14 : Int32)) else if v_X4_readNumber (w_X4_skip (up (w_X4_skip (w_X4_readCustomerAndAmount t (9999 : Int32)) (64 : Int32)) 0 6 (20 : Int32)) (43 : Int32)) (0 : Int32) (99 : Int32) = (-1 : Int32) then (up (w_X4_readNumber (w_X4_skip (up (w_X4_skip (w_X4_readCustomerAndAmount t (9999 : Int32)) (64 : Int32)) 0 6 (20 : Int32)) (43 : Int32)) (0 : Int32) (99 : Int32)) 0 7 (v_X4_readNumber (w_X4_skip (up (w_X4_skip (w_X4_readCustomerAndAmount t (9999 : Int32)) (64 : Int32)) 0 6 (20 : Int32)) (43 : Int32)) (0 : Int32) (99 : Int32))) else up (w_X4_readNumber (w_X4_skip (up (w_X4_skip (w_X4_readCustomerAndAmount t (9999 : Int32)) (64 : Int32)) 0 6 (20 : Int32)) (43 : Int32)) (0 : Int32) (99 : Int32)) 0 7 (v_X4_readNumber (w_X4_skip (up (w_X4_skip (w_X4_readCustomerAndAmount t (9999 : Int32)) (64 : Int32)) 0 6 (20 : Int32)) (43 : Int32)) (0 : Int32) (99 : Int32))) else if v_X4_readNumber (w_X4_skip (w_X4_readCustomerAndAmount t (9999 : Int32)) (64 : Int32)) (0 : Int32) (40 : Int32) = (-1 : Int32) then (up (w_X4_readNumber (w_X4_skip (w_X4_readCustomerAndAmount t (9999 : Int32)) (64 : Int32)) (0 : Int32) (40 : Int32)) 0 6 (v_X4_readNumber (w_X4_skip (w_X4_readCustomerAndAmount t (9999 : Int32)) (64 : Int32)) (0 : Int32) (40 : Int32))) else if v_X4_skip (up (w_X4_readNumber (w_X4_skip (w_X4_readCustomerAndAmount t (9999 : Int32)) (64 : Int32)) (0 : Int32) (40 : Int32)) 0 6 (v_X4_readNumber (w_X4_skip (w_X4_readCustomerAndAmount t (9999 : Int32)) (64 : Int32)) (0 : Int32) (40 : Int32))) (43 : Int32) = 0 then (up (w_X4_skip (up (w_X4_readNumber (w_X4_skip (w_X4_readCustomerAndAmount t (9999 : Int32)) (64 : Int32)) (0 : Int32) (40 : Int32)) 0 6 (v_X4_readNumber (w_X4_skip (w_X4_readCustomerAndAmount t (9999 : Int32)) (64 : Int32)) (0 : Int32) (40 : Int32))) (43 : Int32)) 0 7 (14 : Int32)) else if v_X4_readNumber (w_X4_skip (up (w_X4_readNumber (w_X4_skip (w_X4_readCustomerAndAmount t (9999 : Int32)) (64 : Int32)) (0 : Int32) (40 : Int32)) 0 6 (v_X4_readNumber (w_X4_skip (w_X4_readCustomerAndAmount t (9999 : Int32)) (64 : Int32)) (0 : Int32) (40 : Int32))) (43 : Int32)) (0 : Int32) (99 : Int32) = (-1 : Int32) then (up (w_X4_readNumber (w_X4_skip (up (w_X4_readNumber (w_X4_skip (w_X4_readCustomerAndAmount t (9999 : Int32)) (64 : Int32)) (0 : Int32) (40 : Int32)) 0 6 (v_X4_readNumber (w_X4_skip (w_X4_readCustomerAndAmount t (9999 : Int32)) (64 : Int32)) (0 : Int32) (40 : Int32))) (43 : Int32)) (0 : Int32) (99 : Int32)) 0 7 (v_X4_readNumber (w_X4_skip (up (w_X4_readNumber (w_X4_skip (w_X4_readCustomerAndAmount t (9999 : Int32)) (64 : Int32)) (0 : Int32) (40 : Int32)) 0 6 (v_X4_readNumber (w_X4_skip (w_X4_readCustomerAndAmount t (9999 : Int32)) (64 : Int32)) (0 : Int32) (40 : Int32))) (43 : Int32)) (0 : Int32) (99 : Int32))) else up (w_X4_readNumber (w_X4_skip (up (w_X4_readNumber (w_X4_skip (w_X4_readCustomerAndAmount t (9999 : Int32)) (64 : Int32)) (0 : Int32) (40 : Int32)) 0 6 (v_X4_readNumber (w_X4_skip (w_X4_readCustomerAndAmount t (9999 : Int32)) (64 : Int32)) (0 : Int32) (40 : Int32))) (43 : Int32)) (0 : Int32) (99 : Int32)) 0 7 (v_X4_readNumber (w_X4_skip (up (w_X4_readNumber (w_X4_skip (w_X4_readCustomerAndAmount t (9999 : Int32)) (64 : Int32)) (0 : Int32) (40 : Int32)) 0 6 (v_X4_readNumber (w_X4_skip (w_X4_readCustomerAndAmount t (9999 : Int32)) (64 : Int32)) (0 : Int32) (40 : Int32))) (43 : Int32)) (0 : Int32) (99 : Int32))
theorem q_X4_readBill : yX4_readBill.cls ≠ "java/lang/invoke/MethodHandle" ∧ yX4_readBill.cls ≠ "java/lang/invoke/VarHandle" ∧ (parseMethodDescriptor yX4_readBill.desc).map (fun d => d.parameters.length) = some 0 := ⟨by decide, by decide, by decide +kernel⟩
theorem z_X4_readBill (t : Nat → Nat → Int32) : narrow .boolean (.int (v_X4_readBill t )) = .int (v_X4_readBill t ) := by
  unfold v_X4_readBill
  exact z_ite z_0 (z_ite (z_ite z_1 (z_ite z_0 z_1)) (z_ite z_0 (z_ite z_1 (z_ite z_0 z_1))))
set_option maxHeartbeats 4000000 in
set_option maxRecDepth 100000 in
theorem c_X4_readBill (l : Launch) (G : kG) (a : Nat → Nat) (hI : gI 2 a) (t : Nat → Nat → Int32) : Met l yX4_readBill (Cond.code yX4_readBill cX4_readBill 1 (some .boolean) :: BIG) (rmK 3) (pcG G (tP G a t) [.ref (a 0)]) (qcI G (gA 2 a) (tP G a (w_X4_readBill t)) (v_X4_readBill t)) 0 0 (gA 2 a) := by
  refine m_start (by decide) (Nat.le_of_ble_eq_true rfl) ?_
  intro p e s m args below meth c S hr hlk hnm hP hK ls hl
  have hx := S.1
  have hb := S.2.1
  have hown := S.2.2.2.1
  have hS : va_S (gA 2 a) s.heap s.heap [] := va_S.rf
  have hl : lv_has ls 1 [(0, .ref (a 0))] := hl
  refine lv_aload_n hx hb dX4_readBill_0 rfl (lv_at hl 0 rfl) ?_
  refine lv_sipush (v := 9999) hx hb dX4_readBill_1 (by decide) ?_
  refine r_callI S hK hP (c_X4_readCustomerAndAmount l G a hI t _ ) (r_cw S k_542 k_539 k_540 k_541 k_24 q_X4_readCustomerAndAmount ⟨Nat.le_of_ble_eq_true rfl, Nat.le_of_ble_eq_true rfl⟩ rfl rfl) (g_recv hK hP (i := 0) (by omega) tC0 rfl) rfl hl.1 rfl (Nat.le_of_ble_eq_true rfl) dX4_readBill_4 ⟨Nat.zero_le _, Nat.zero_le _⟩ hS (fun _ h => h) (fun H locs hP _ _ hS => ?_)
  have hP : tP G a (w_X4_readCustomerAndAmount t (9999 : Int32)) H := hP
  refine lv_if_ne (tgt := 12) hx hb dX4_readBill_7 (by decide) (fun c1 => ?_) (fun c1 => ?_)
  · skip
    refine lv_aload_n hx hb dX4_readBill_12 rfl (lv_at hl 0 rfl) ?_
    refine lv_aload_n hx hb dX4_readBill_13 rfl (lv_at hl 0 rfl) ?_
    refine lv_bipush (v := 64) hx hb dX4_readBill_14 (by decide) ?_
    refine r_callI S hK hP (c_X4_skip l G a hI (w_X4_readCustomerAndAmount t (9999 : Int32)) _ ) (r_cw S k_533 k_530 k_531 k_532 k_24 q_X4_skip ⟨Nat.le_of_ble_eq_true rfl, Nat.le_of_ble_eq_true rfl⟩ rfl rfl) (g_recv hK hP (i := 0) (by omega) tC0 rfl) rfl hl.1 rfl (Nat.le_of_ble_eq_true rfl) dX4_readBill_16 ⟨Nat.zero_le _, Nat.zero_le _⟩ hS (fun _ h => h) (fun H locs hP _ _ hS => ?_)
    have hP : tP G a (w_X4_skip (w_X4_readCustomerAndAmount t (9999 : Int32)) (64 : Int32)) H := hP
    refine lv_if_eq (tgt := 32) hx hb dX4_readBill_19 (by decide) (fun c2 => ?_) (fun c2 => ?_)
    · skip
      refine lv_bipush (v := 20) hx hb dX4_readBill_32 (by decide) ?_
      refine g_put S hK hP hI hS (i := 0) (by omega) tC0 rfl inlX4 tyX4 tyX4_ok nmX4 tF_n 6 (by decide) k_538 rfl pI rfl rfl (fun _ => rfl) dX4_readBill_34 (fun H locs hP hS => ?_)
      have hP : tP G a (up (w_X4_skip (w_X4_readCustomerAndAmount t (9999 : Int32)) (64 : Int32)) 0 6 (20 : Int32)) H := hP
      refine lv_aload_n hx hb dX4_readBill_37 rfl (lv_at hl 0 rfl) ?_
      refine g_get S hK hP (i := 0) (by omega) tC0 rfl inlX4 6 (by decide) k_538 (v := .int (20 : Int32)) (congrArg Value.int (up_same)) dX4_readBill_38 ?_
      refine lv_iconst (v := -1) hx hb dX4_readBill_41 (by decide) ?_
      refine lv_icmp_ne (tgt := 47) hx hb dX4_readBill_42 (by decide) (fun _ => ?_) (fun c => absurd c (by decide))
      refine lv_aload_n hx hb dX4_readBill_47 rfl (lv_at hl 0 rfl) ?_
      refine lv_aload_n hx hb dX4_readBill_48 rfl (lv_at hl 0 rfl) ?_
      refine lv_bipush (v := 43) hx hb dX4_readBill_49 (by decide) ?_
      refine r_callI S hK hP (c_X4_skip l G a hI (up (w_X4_skip (w_X4_readCustomerAndAmount t (9999 : Int32)) (64 : Int32)) 0 6 (20 : Int32)) _ ) (r_cw S k_533 k_530 k_531 k_532 k_24 q_X4_skip ⟨Nat.le_of_ble_eq_true rfl, Nat.le_of_ble_eq_true rfl⟩ rfl rfl) (g_recv hK hP (i := 0) (by omega) tC0 rfl) rfl hl.1 rfl (Nat.le_of_ble_eq_true rfl) dX4_readBill_51 ⟨Nat.zero_le _, Nat.zero_le _⟩ hS (fun _ h => h) (fun H locs hP _ _ hS => ?_)
      have hP : tP G a (w_X4_skip (up (w_X4_skip (w_X4_readCustomerAndAmount t (9999 : Int32)) (64 : Int32)) 0 6 (20 : Int32)) (43 : Int32)) H := hP
      refine lv_if_eq (tgt := 67) hx hb dX4_readBill_54 (by decide) (fun c3 => ?_) (fun c3 => ?_)
      · skip
        refine lv_bipush (v := 14) hx hb dX4_readBill_67 (by decide) ?_
        refine g_put S hK hP hI hS (i := 0) (by omega) tC0 rfl inlX4 tyX4 tyX4_ok nmX4 tF_n 7 (by decide) k_529 rfl pI rfl rfl (fun _ => rfl) dX4_readBill_69 (fun H locs hP hS => ?_)
        have hP : tP G a (up (w_X4_skip (up (w_X4_skip (w_X4_readCustomerAndAmount t (9999 : Int32)) (64 : Int32)) 0 6 (20 : Int32)) (43 : Int32)) 0 7 (14 : Int32)) H := hP
        refine lv_aload_n hx hb dX4_readBill_72 rfl (lv_at hl 0 rfl) ?_
        refine g_get S hK hP (i := 0) (by omega) tC0 rfl inlX4 7 (by decide) k_529 (v := .int (14 : Int32)) (congrArg Value.int (up_same)) dX4_readBill_73 ?_
        refine lv_iconst (v := -1) hx hb dX4_readBill_76 (by decide) ?_
        refine lv_icmp_eq (tgt := 84) hx hb dX4_readBill_77 (by decide) (fun c => absurd c (by decide)) (fun _ => ?_)
        refine lv_iconst (v := 1) hx hb dX4_readBill_80 (by decide) ?_
        refine lv_goto (tgt := 85) hx hb dX4_readBill_81 (by decide) ?_
        exact e_int S hr hlk rfl hK hS (gP_eq (show w_X4_readBill t  = up (w_X4_skip (up (w_X4_skip (w_X4_readCustomerAndAmount t (9999 : Int32)) (64 : Int32)) 0 6 (20 : Int32)) (43 : Int32)) 0 7 (14 : Int32) from (if_neg c1).trans ((if_pos c2).trans ((if_pos c3).trans rfl))) hP) (show v_X4_readBill t  = (1 : Int32) from (if_neg c1).trans ((if_pos c2).trans ((if_pos c3).trans rfl))).symm dX4_readBill_85
      · skip
        refine lv_aload_n hx hb dX4_readBill_57 rfl (lv_at hl 0 rfl) ?_
        refine lv_iconst (v := 0) hx hb dX4_readBill_58 (by decide) ?_
        refine lv_bipush (v := 99) hx hb dX4_readBill_59 (by decide) ?_
        refine r_callI S hK hP (c_X4_readNumber l G a hI (w_X4_skip (up (w_X4_skip (w_X4_readCustomerAndAmount t (9999 : Int32)) (64 : Int32)) 0 6 (20 : Int32)) (43 : Int32)) _ _ (by decide)) (r_cw S k_548 k_545 k_546 k_547 k_24 q_X4_readNumber ⟨Nat.le_of_ble_eq_true rfl, Nat.le_of_ble_eq_true rfl⟩ rfl rfl) (g_recv hK hP (i := 0) (by omega) tC0 rfl) rfl hl.1 rfl (Nat.le_of_ble_eq_true rfl) dX4_readBill_61 ⟨Nat.zero_le _, Nat.zero_le _⟩ hS (fun _ h => h) (fun H locs hP _ _ hS => ?_)
        have hP : tP G a (w_X4_readNumber (w_X4_skip (up (w_X4_skip (w_X4_readCustomerAndAmount t (9999 : Int32)) (64 : Int32)) 0 6 (20 : Int32)) (43 : Int32)) (0 : Int32) (99 : Int32)) H := hP
        refine lv_goto (tgt := 69) hx hb dX4_readBill_64 (by decide) ?_
        refine g_put S hK hP hI hS (i := 0) (by omega) tC0 rfl inlX4 tyX4 tyX4_ok nmX4 tF_n 7 (by decide) k_529 rfl pI rfl rfl (fun _ => rfl) dX4_readBill_69 (fun H locs hP hS => ?_)
        have hP : tP G a (up (w_X4_readNumber (w_X4_skip (up (w_X4_skip (w_X4_readCustomerAndAmount t (9999 : Int32)) (64 : Int32)) 0 6 (20 : Int32)) (43 : Int32)) (0 : Int32) (99 : Int32)) 0 7 (v_X4_readNumber (w_X4_skip (up (w_X4_skip (w_X4_readCustomerAndAmount t (9999 : Int32)) (64 : Int32)) 0 6 (20 : Int32)) (43 : Int32)) (0 : Int32) (99 : Int32))) H := hP
        refine lv_aload_n hx hb dX4_readBill_72 rfl (lv_at hl 0 rfl) ?_
        refine g_get S hK hP (i := 0) (by omega) tC0 rfl inlX4 7 (by decide) k_529 (v := .int (v_X4_readNumber (w_X4_skip (up (w_X4_skip (w_X4_readCustomerAndAmount t (9999 : Int32)) (64 : Int32)) 0 6 (20 : Int32)) (43 : Int32)) (0 : Int32) (99 : Int32))) (congrArg Value.int (up_same)) dX4_readBill_73 ?_
        refine lv_iconst (v := -1) hx hb dX4_readBill_76 (by decide) ?_
        refine lv_icmp_eq (tgt := 84) hx hb dX4_readBill_77 (by decide) (fun c4 => ?_) (fun c4 => ?_)
        · skip
          refine lv_iconst (v := 0) hx hb dX4_readBill_84 (by decide) ?_
          exact e_int S hr hlk rfl hK hS (gP_eq (show w_X4_readBill t  = up (w_X4_readNumber (w_X4_skip (up (w_X4_skip (w_X4_readCustomerAndAmount t (9999 : Int32)) (64 : Int32)) 0 6 (20 : Int32)) (43 : Int32)) (0 : Int32) (99 : Int32)) 0 7 (v_X4_readNumber (w_X4_skip (up (w_X4_skip (w_X4_readCustomerAndAmount t (9999 : Int32)) (64 : Int32)) 0 6 (20 : Int32)) (43 : Int32)) (0 : Int32) (99 : Int32)) from (if_neg c1).trans ((if_pos c2).trans ((if_neg c3).trans ((if_pos c4).trans rfl)))) hP) (show v_X4_readBill t  = (0 : Int32) from (if_neg c1).trans ((if_pos c2).trans ((if_neg c3).trans ((if_pos c4).trans rfl)))).symm dX4_readBill_85
        · skip
          refine lv_iconst (v := 1) hx hb dX4_readBill_80 (by decide) ?_
          refine lv_goto (tgt := 85) hx hb dX4_readBill_81 (by decide) ?_
          exact e_int S hr hlk rfl hK hS (gP_eq (show w_X4_readBill t  = up (w_X4_readNumber (w_X4_skip (up (w_X4_skip (w_X4_readCustomerAndAmount t (9999 : Int32)) (64 : Int32)) 0 6 (20 : Int32)) (43 : Int32)) (0 : Int32) (99 : Int32)) 0 7 (v_X4_readNumber (w_X4_skip (up (w_X4_skip (w_X4_readCustomerAndAmount t (9999 : Int32)) (64 : Int32)) 0 6 (20 : Int32)) (43 : Int32)) (0 : Int32) (99 : Int32)) from (if_neg c1).trans ((if_pos c2).trans ((if_neg c3).trans ((if_neg c4).trans rfl)))) hP) (show v_X4_readBill t  = (1 : Int32) from (if_neg c1).trans ((if_pos c2).trans ((if_neg c3).trans ((if_neg c4).trans rfl)))).symm dX4_readBill_85
    · skip
      refine lv_aload_n hx hb dX4_readBill_22 rfl (lv_at hl 0 rfl) ?_
      refine lv_iconst (v := 0) hx hb dX4_readBill_23 (by decide) ?_
      refine lv_bipush (v := 40) hx hb dX4_readBill_24 (by decide) ?_
      refine r_callI S hK hP (c_X4_readNumber l G a hI (w_X4_skip (w_X4_readCustomerAndAmount t (9999 : Int32)) (64 : Int32)) _ _ (by decide)) (r_cw S k_548 k_545 k_546 k_547 k_24 q_X4_readNumber ⟨Nat.le_of_ble_eq_true rfl, Nat.le_of_ble_eq_true rfl⟩ rfl rfl) (g_recv hK hP (i := 0) (by omega) tC0 rfl) rfl hl.1 rfl (Nat.le_of_ble_eq_true rfl) dX4_readBill_26 ⟨Nat.zero_le _, Nat.zero_le _⟩ hS (fun _ h => h) (fun H locs hP _ _ hS => ?_)
      have hP : tP G a (w_X4_readNumber (w_X4_skip (w_X4_readCustomerAndAmount t (9999 : Int32)) (64 : Int32)) (0 : Int32) (40 : Int32)) H := hP
      refine lv_goto (tgt := 34) hx hb dX4_readBill_29 (by decide) ?_
      refine g_put S hK hP hI hS (i := 0) (by omega) tC0 rfl inlX4 tyX4 tyX4_ok nmX4 tF_n 6 (by decide) k_538 rfl pI rfl rfl (fun _ => rfl) dX4_readBill_34 (fun H locs hP hS => ?_)
      have hP : tP G a (up (w_X4_readNumber (w_X4_skip (w_X4_readCustomerAndAmount t (9999 : Int32)) (64 : Int32)) (0 : Int32) (40 : Int32)) 0 6 (v_X4_readNumber (w_X4_skip (w_X4_readCustomerAndAmount t (9999 : Int32)) (64 : Int32)) (0 : Int32) (40 : Int32))) H := hP
      refine lv_aload_n hx hb dX4_readBill_37 rfl (lv_at hl 0 rfl) ?_
      refine g_get S hK hP (i := 0) (by omega) tC0 rfl inlX4 6 (by decide) k_538 (v := .int (v_X4_readNumber (w_X4_skip (w_X4_readCustomerAndAmount t (9999 : Int32)) (64 : Int32)) (0 : Int32) (40 : Int32))) (congrArg Value.int (up_same)) dX4_readBill_38 ?_
      refine lv_iconst (v := -1) hx hb dX4_readBill_41 (by decide) ?_
      refine lv_icmp_ne (tgt := 47) hx hb dX4_readBill_42 (by decide) (fun c5 => ?_) (fun c5 => ?_)
      · skip
        refine lv_aload_n hx hb dX4_readBill_47 rfl (lv_at hl 0 rfl) ?_
        refine lv_aload_n hx hb dX4_readBill_48 rfl (lv_at hl 0 rfl) ?_
        refine lv_bipush (v := 43) hx hb dX4_readBill_49 (by decide) ?_
        refine r_callI S hK hP (c_X4_skip l G a hI (up (w_X4_readNumber (w_X4_skip (w_X4_readCustomerAndAmount t (9999 : Int32)) (64 : Int32)) (0 : Int32) (40 : Int32)) 0 6 (v_X4_readNumber (w_X4_skip (w_X4_readCustomerAndAmount t (9999 : Int32)) (64 : Int32)) (0 : Int32) (40 : Int32))) _ ) (r_cw S k_533 k_530 k_531 k_532 k_24 q_X4_skip ⟨Nat.le_of_ble_eq_true rfl, Nat.le_of_ble_eq_true rfl⟩ rfl rfl) (g_recv hK hP (i := 0) (by omega) tC0 rfl) rfl hl.1 rfl (Nat.le_of_ble_eq_true rfl) dX4_readBill_51 ⟨Nat.zero_le _, Nat.zero_le _⟩ hS (fun _ h => h) (fun H locs hP _ _ hS => ?_)
        have hP : tP G a (w_X4_skip (up (w_X4_readNumber (w_X4_skip (w_X4_readCustomerAndAmount t (9999 : Int32)) (64 : Int32)) (0 : Int32) (40 : Int32)) 0 6 (v_X4_readNumber (w_X4_skip (w_X4_readCustomerAndAmount t (9999 : Int32)) (64 : Int32)) (0 : Int32) (40 : Int32))) (43 : Int32)) H := hP
        refine lv_if_eq (tgt := 67) hx hb dX4_readBill_54 (by decide) (fun c6 => ?_) (fun c6 => ?_)
        · skip
          refine lv_bipush (v := 14) hx hb dX4_readBill_67 (by decide) ?_
          refine g_put S hK hP hI hS (i := 0) (by omega) tC0 rfl inlX4 tyX4 tyX4_ok nmX4 tF_n 7 (by decide) k_529 rfl pI rfl rfl (fun _ => rfl) dX4_readBill_69 (fun H locs hP hS => ?_)
          have hP : tP G a (up (w_X4_skip (up (w_X4_readNumber (w_X4_skip (w_X4_readCustomerAndAmount t (9999 : Int32)) (64 : Int32)) (0 : Int32) (40 : Int32)) 0 6 (v_X4_readNumber (w_X4_skip (w_X4_readCustomerAndAmount t (9999 : Int32)) (64 : Int32)) (0 : Int32) (40 : Int32))) (43 : Int32)) 0 7 (14 : Int32)) H := hP
          refine lv_aload_n hx hb dX4_readBill_72 rfl (lv_at hl 0 rfl) ?_
          refine g_get S hK hP (i := 0) (by omega) tC0 rfl inlX4 7 (by decide) k_529 (v := .int (14 : Int32)) (congrArg Value.int (up_same)) dX4_readBill_73 ?_
          refine lv_iconst (v := -1) hx hb dX4_readBill_76 (by decide) ?_
          refine lv_icmp_eq (tgt := 84) hx hb dX4_readBill_77 (by decide) (fun c => absurd c (by decide)) (fun _ => ?_)
          refine lv_iconst (v := 1) hx hb dX4_readBill_80 (by decide) ?_
          refine lv_goto (tgt := 85) hx hb dX4_readBill_81 (by decide) ?_
          exact e_int S hr hlk rfl hK hS (gP_eq (show w_X4_readBill t  = up (w_X4_skip (up (w_X4_readNumber (w_X4_skip (w_X4_readCustomerAndAmount t (9999 : Int32)) (64 : Int32)) (0 : Int32) (40 : Int32)) 0 6 (v_X4_readNumber (w_X4_skip (w_X4_readCustomerAndAmount t (9999 : Int32)) (64 : Int32)) (0 : Int32) (40 : Int32))) (43 : Int32)) 0 7 (14 : Int32) from (if_neg c1).trans ((if_neg c2).trans ((if_neg c5).trans ((if_pos c6).trans rfl)))) hP) (show v_X4_readBill t  = (1 : Int32) from (if_neg c1).trans ((if_neg c2).trans ((if_neg c5).trans ((if_pos c6).trans rfl)))).symm dX4_readBill_85
        · skip
          refine lv_aload_n hx hb dX4_readBill_57 rfl (lv_at hl 0 rfl) ?_
          refine lv_iconst (v := 0) hx hb dX4_readBill_58 (by decide) ?_
          refine lv_bipush (v := 99) hx hb dX4_readBill_59 (by decide) ?_
          refine r_callI S hK hP (c_X4_readNumber l G a hI (w_X4_skip (up (w_X4_readNumber (w_X4_skip (w_X4_readCustomerAndAmount t (9999 : Int32)) (64 : Int32)) (0 : Int32) (40 : Int32)) 0 6 (v_X4_readNumber (w_X4_skip (w_X4_readCustomerAndAmount t (9999 : Int32)) (64 : Int32)) (0 : Int32) (40 : Int32))) (43 : Int32)) _ _ (by decide)) (r_cw S k_548 k_545 k_546 k_547 k_24 q_X4_readNumber ⟨Nat.le_of_ble_eq_true rfl, Nat.le_of_ble_eq_true rfl⟩ rfl rfl) (g_recv hK hP (i := 0) (by omega) tC0 rfl) rfl hl.1 rfl (Nat.le_of_ble_eq_true rfl) dX4_readBill_61 ⟨Nat.zero_le _, Nat.zero_le _⟩ hS (fun _ h => h) (fun H locs hP _ _ hS => ?_)
          have hP : tP G a (w_X4_readNumber (w_X4_skip (up (w_X4_readNumber (w_X4_skip (w_X4_readCustomerAndAmount t (9999 : Int32)) (64 : Int32)) (0 : Int32) (40 : Int32)) 0 6 (v_X4_readNumber (w_X4_skip (w_X4_readCustomerAndAmount t (9999 : Int32)) (64 : Int32)) (0 : Int32) (40 : Int32))) (43 : Int32)) (0 : Int32) (99 : Int32)) H := hP
          refine lv_goto (tgt := 69) hx hb dX4_readBill_64 (by decide) ?_
          refine g_put S hK hP hI hS (i := 0) (by omega) tC0 rfl inlX4 tyX4 tyX4_ok nmX4 tF_n 7 (by decide) k_529 rfl pI rfl rfl (fun _ => rfl) dX4_readBill_69 (fun H locs hP hS => ?_)
          have hP : tP G a (up (w_X4_readNumber (w_X4_skip (up (w_X4_readNumber (w_X4_skip (w_X4_readCustomerAndAmount t (9999 : Int32)) (64 : Int32)) (0 : Int32) (40 : Int32)) 0 6 (v_X4_readNumber (w_X4_skip (w_X4_readCustomerAndAmount t (9999 : Int32)) (64 : Int32)) (0 : Int32) (40 : Int32))) (43 : Int32)) (0 : Int32) (99 : Int32)) 0 7 (v_X4_readNumber (w_X4_skip (up (w_X4_readNumber (w_X4_skip (w_X4_readCustomerAndAmount t (9999 : Int32)) (64 : Int32)) (0 : Int32) (40 : Int32)) 0 6 (v_X4_readNumber (w_X4_skip (w_X4_readCustomerAndAmount t (9999 : Int32)) (64 : Int32)) (0 : Int32) (40 : Int32))) (43 : Int32)) (0 : Int32) (99 : Int32))) H := hP
          refine lv_aload_n hx hb dX4_readBill_72 rfl (lv_at hl 0 rfl) ?_
          refine g_get S hK hP (i := 0) (by omega) tC0 rfl inlX4 7 (by decide) k_529 (v := .int (v_X4_readNumber (w_X4_skip (up (w_X4_readNumber (w_X4_skip (w_X4_readCustomerAndAmount t (9999 : Int32)) (64 : Int32)) (0 : Int32) (40 : Int32)) 0 6 (v_X4_readNumber (w_X4_skip (w_X4_readCustomerAndAmount t (9999 : Int32)) (64 : Int32)) (0 : Int32) (40 : Int32))) (43 : Int32)) (0 : Int32) (99 : Int32))) (congrArg Value.int (up_same)) dX4_readBill_73 ?_
          refine lv_iconst (v := -1) hx hb dX4_readBill_76 (by decide) ?_
          refine lv_icmp_eq (tgt := 84) hx hb dX4_readBill_77 (by decide) (fun c7 => ?_) (fun c7 => ?_)
          · skip
            refine lv_iconst (v := 0) hx hb dX4_readBill_84 (by decide) ?_
            exact e_int S hr hlk rfl hK hS (gP_eq (show w_X4_readBill t  = up (w_X4_readNumber (w_X4_skip (up (w_X4_readNumber (w_X4_skip (w_X4_readCustomerAndAmount t (9999 : Int32)) (64 : Int32)) (0 : Int32) (40 : Int32)) 0 6 (v_X4_readNumber (w_X4_skip (w_X4_readCustomerAndAmount t (9999 : Int32)) (64 : Int32)) (0 : Int32) (40 : Int32))) (43 : Int32)) (0 : Int32) (99 : Int32)) 0 7 (v_X4_readNumber (w_X4_skip (up (w_X4_readNumber (w_X4_skip (w_X4_readCustomerAndAmount t (9999 : Int32)) (64 : Int32)) (0 : Int32) (40 : Int32)) 0 6 (v_X4_readNumber (w_X4_skip (w_X4_readCustomerAndAmount t (9999 : Int32)) (64 : Int32)) (0 : Int32) (40 : Int32))) (43 : Int32)) (0 : Int32) (99 : Int32)) from (if_neg c1).trans ((if_neg c2).trans ((if_neg c5).trans ((if_neg c6).trans ((if_pos c7).trans rfl))))) hP) (show v_X4_readBill t  = (0 : Int32) from (if_neg c1).trans ((if_neg c2).trans ((if_neg c5).trans ((if_neg c6).trans ((if_pos c7).trans rfl))))).symm dX4_readBill_85
          · skip
            refine lv_iconst (v := 1) hx hb dX4_readBill_80 (by decide) ?_
            refine lv_goto (tgt := 85) hx hb dX4_readBill_81 (by decide) ?_
            exact e_int S hr hlk rfl hK hS (gP_eq (show w_X4_readBill t  = up (w_X4_readNumber (w_X4_skip (up (w_X4_readNumber (w_X4_skip (w_X4_readCustomerAndAmount t (9999 : Int32)) (64 : Int32)) (0 : Int32) (40 : Int32)) 0 6 (v_X4_readNumber (w_X4_skip (w_X4_readCustomerAndAmount t (9999 : Int32)) (64 : Int32)) (0 : Int32) (40 : Int32))) (43 : Int32)) (0 : Int32) (99 : Int32)) 0 7 (v_X4_readNumber (w_X4_skip (up (w_X4_readNumber (w_X4_skip (w_X4_readCustomerAndAmount t (9999 : Int32)) (64 : Int32)) (0 : Int32) (40 : Int32)) 0 6 (v_X4_readNumber (w_X4_skip (w_X4_readCustomerAndAmount t (9999 : Int32)) (64 : Int32)) (0 : Int32) (40 : Int32))) (43 : Int32)) (0 : Int32) (99 : Int32)) from (if_neg c1).trans ((if_neg c2).trans ((if_neg c5).trans ((if_neg c6).trans ((if_neg c7).trans rfl))))) hP) (show v_X4_readBill t  = (1 : Int32) from (if_neg c1).trans ((if_neg c2).trans ((if_neg c5).trans ((if_neg c6).trans ((if_neg c7).trans rfl))))).symm dX4_readBill_85
      · skip
        refine lv_iconst (v := 0) hx hb dX4_readBill_45 (by decide) ?_
        exact e_int S hr hlk rfl hK hS (gP_eq (show w_X4_readBill t  = up (w_X4_readNumber (w_X4_skip (w_X4_readCustomerAndAmount t (9999 : Int32)) (64 : Int32)) (0 : Int32) (40 : Int32)) 0 6 (v_X4_readNumber (w_X4_skip (w_X4_readCustomerAndAmount t (9999 : Int32)) (64 : Int32)) (0 : Int32) (40 : Int32)) from (if_neg c1).trans ((if_neg c2).trans ((if_pos c5).trans rfl))) hP) (show v_X4_readBill t  = (0 : Int32) from (if_neg c1).trans ((if_neg c2).trans ((if_pos c5).trans rfl))).symm dX4_readBill_46
  · skip
    refine lv_iconst (v := 0) hx hb dX4_readBill_10 (by decide) ?_
    exact e_int S hr hlk rfl hK hS (gP_eq (show w_X4_readBill t  = w_X4_readCustomerAndAmount t (9999 : Int32) from (if_pos c1).trans rfl) hP) (show v_X4_readBill t  = (0 : Int32) from (if_pos c1).trans rfl).symm dX4_readBill_11

def v_X4_readThing (t : Nat → Nat → Int32) : Int32 := if v_X4_skip t (98 : Int32) = 0 then (if v_X4_skip (w_X4_skip t (98 : Int32)) (112 : Int32) = 0 then (if v_X4_skip (w_X4_skip (w_X4_skip t (98 : Int32)) (112 : Int32)) (114 : Int32) = 0 then (if v_X4_skip (w_X4_skip (w_X4_skip (w_X4_skip t (98 : Int32)) (112 : Int32)) (114 : Int32)) (46 : Int32) = 0 then (0 : Int32) else if v_X4_readNumber (up (w_X4_skip (w_X4_skip (w_X4_skip (w_X4_skip t (98 : Int32)) (112 : Int32)) (114 : Int32)) (46 : Int32)) 0 3 (4 : Int32)) (1 : Int32) (99 : Int32) = (-1 : Int32) then (0 : Int32) else (1 : Int32)) else (1 : Int32)) else v_X4_readPayment (up (w_X4_skip (w_X4_skip t (98 : Int32)) (112 : Int32)) 0 3 (1 : Int32))) else v_X4_readBill (up (w_X4_skip t (98 : Int32)) 0 3 (0 : Int32))
def w_X4_readThing (t : Nat → Nat → Int32) : Nat → Nat → Int32 := if v_X4_skip t (98 : Int32) = 0 then (if v_X4_skip (w_X4_skip t (98 : Int32)) (112 : Int32) = 0 then (if v_X4_skip (w_X4_skip (w_X4_skip t (98 : Int32)) (112 : Int32)) (114 : Int32) = 0 then (if v_X4_skip (w_X4_skip (w_X4_skip (w_X4_skip t (98 : Int32)) (112 : Int32)) (114 : Int32)) (46 : Int32) = 0 then (w_X4_skip (w_X4_skip (w_X4_skip (w_X4_skip t (98 : Int32)) (112 : Int32)) (114 : Int32)) (46 : Int32)) else if v_X4_readNumber (up (w_X4_skip (w_X4_skip (w_X4_skip (w_X4_skip t (98 : Int32)) (112 : Int32)) (114 : Int32)) (46 : Int32)) 0 3 (4 : Int32)) (1 : Int32) (99 : Int32) = (-1 : Int32) then (up (w_X4_readNumber (up (w_X4_skip (w_X4_skip (w_X4_skip (w_X4_skip t (98 : Int32)) (112 : Int32)) (114 : Int32)) (46 : Int32)) 0 3 (4 : Int32)) (1 : Int32) (99 : Int32)) 0 7 (v_X4_readNumber (up (w_X4_skip (w_X4_skip (w_X4_skip (w_X4_skip t (98 : Int32)) (112 : Int32)) (114 : Int32)) (46 : Int32)) 0 3 (4 : Int32)) (1 : Int32) (99 : Int32))) else up (w_X4_readNumber (up (w_X4_skip (w_X4_skip (w_X4_skip (w_X4_skip t (98 : Int32)) (112 : Int32)) (114 : Int32)) (46 : Int32)) 0 3 (4 : Int32)) (1 : Int32) (99 : Int32)) 0 7 (v_X4_readNumber (up (w_X4_skip (w_X4_skip (w_X4_skip (w_X4_skip t (98 : Int32)) (112 : Int32)) (114 : Int32)) (46 : Int32)) 0 3 (4 : Int32)) (1 : Int32) (99 : Int32))) else up (w_X4_skip (w_X4_skip (w_X4_skip t (98 : Int32)) (112 : Int32)) (114 : Int32)) 0 3 (3 : Int32)) else w_X4_readPayment (up (w_X4_skip (w_X4_skip t (98 : Int32)) (112 : Int32)) 0 3 (1 : Int32))) else w_X4_readBill (up (w_X4_skip t (98 : Int32)) 0 3 (0 : Int32))
theorem q_X4_readThing : yX4_readThing.cls ≠ "java/lang/invoke/MethodHandle" ∧ yX4_readThing.cls ≠ "java/lang/invoke/VarHandle" ∧ (parseMethodDescriptor yX4_readThing.desc).map (fun d => d.parameters.length) = some 0 := ⟨by decide, by decide, by decide +kernel⟩
theorem z_X4_readThing (t : Nat → Nat → Int32) : narrow .boolean (.int (v_X4_readThing t )) = .int (v_X4_readThing t ) := by
  unfold v_X4_readThing
  exact z_ite (z_ite (z_ite (z_ite z_0 (z_ite z_0 z_1)) z_1) (z_X4_readPayment _)) (z_X4_readBill _)
set_option maxHeartbeats 4000000 in
set_option maxRecDepth 100000 in
theorem c_X4_readThing (l : Launch) (G : kG) (a : Nat → Nat) (hI : gI 2 a) (t : Nat → Nat → Int32) : Met l yX4_readThing (Cond.code yX4_readThing cX4_readThing 1 (some .boolean) :: BIG) (rmK 4) (pcG G (tP G a t) [.ref (a 0)]) (qcI G (gA 2 a) (tP G a (w_X4_readThing t)) (v_X4_readThing t)) 0 0 (gA 2 a) := by
  refine m_start (by decide) (Nat.le_of_ble_eq_true rfl) ?_
  intro p e s m args below meth c S hr hlk hnm hP hK ls hl
  have hx := S.1
  have hb := S.2.1
  have hown := S.2.2.2.1
  have hS : va_S (gA 2 a) s.heap s.heap [] := va_S.rf
  have hl : lv_has ls 1 [(0, .ref (a 0))] := hl
  refine lv_aload_n hx hb dX4_readThing_0 rfl (lv_at hl 0 rfl) ?_
  refine lv_bipush (v := 98) hx hb dX4_readThing_1 (by decide) ?_
  refine r_callI S hK hP (c_X4_skip l G a hI t _ ) (r_cw S k_533 k_530 k_531 k_532 k_24 q_X4_skip ⟨Nat.le_of_ble_eq_true rfl, Nat.le_of_ble_eq_true rfl⟩ rfl rfl) (g_recv hK hP (i := 0) (by omega) tC0 rfl) rfl hl.1 rfl (Nat.le_of_ble_eq_true rfl) dX4_readThing_3 ⟨Nat.zero_le _, Nat.zero_le _⟩ hS (fun _ h => h) (fun H locs hP _ _ hS => ?_)
  have hP : tP G a (w_X4_skip t (98 : Int32)) H := hP
  refine lv_if_eq (tgt := 19) hx hb dX4_readThing_6 (by decide) (fun c1 => ?_) (fun c1 => ?_)
  · skip
    refine lv_aload_n hx hb dX4_readThing_19 rfl (lv_at hl 0 rfl) ?_
    refine lv_bipush (v := 112) hx hb dX4_readThing_20 (by decide) ?_
    refine r_callI S hK hP (c_X4_skip l G a hI (w_X4_skip t (98 : Int32)) _ ) (r_cw S k_533 k_530 k_531 k_532 k_24 q_X4_skip ⟨Nat.le_of_ble_eq_true rfl, Nat.le_of_ble_eq_true rfl⟩ rfl rfl) (g_recv hK hP (i := 0) (by omega) tC0 rfl) rfl hl.1 rfl (Nat.le_of_ble_eq_true rfl) dX4_readThing_22 ⟨Nat.zero_le _, Nat.zero_le _⟩ hS (fun _ h => h) (fun H locs hP _ _ hS => ?_)
    have hP : tP G a (w_X4_skip (w_X4_skip t (98 : Int32)) (112 : Int32)) H := hP
    refine lv_if_eq (tgt := 38) hx hb dX4_readThing_25 (by decide) (fun c2 => ?_) (fun c2 => ?_)
    · skip
      refine lv_aload_n hx hb dX4_readThing_38 rfl (lv_at hl 0 rfl) ?_
      refine lv_bipush (v := 114) hx hb dX4_readThing_39 (by decide) ?_
      refine r_callI S hK hP (c_X4_skip l G a hI (w_X4_skip (w_X4_skip t (98 : Int32)) (112 : Int32)) _ ) (r_cw S k_533 k_530 k_531 k_532 k_24 q_X4_skip ⟨Nat.le_of_ble_eq_true rfl, Nat.le_of_ble_eq_true rfl⟩ rfl rfl) (g_recv hK hP (i := 0) (by omega) tC0 rfl) rfl hl.1 rfl (Nat.le_of_ble_eq_true rfl) dX4_readThing_41 ⟨Nat.zero_le _, Nat.zero_le _⟩ hS (fun _ h => h) (fun H locs hP _ _ hS => ?_)
      have hP : tP G a (w_X4_skip (w_X4_skip (w_X4_skip t (98 : Int32)) (112 : Int32)) (114 : Int32)) H := hP
      refine lv_if_eq (tgt := 54) hx hb dX4_readThing_44 (by decide) (fun c3 => ?_) (fun c3 => ?_)
      · skip
        refine lv_aload_n hx hb dX4_readThing_54 rfl (lv_at hl 0 rfl) ?_
        refine lv_bipush (v := 46) hx hb dX4_readThing_55 (by decide) ?_
        refine r_callI S hK hP (c_X4_skip l G a hI (w_X4_skip (w_X4_skip (w_X4_skip t (98 : Int32)) (112 : Int32)) (114 : Int32)) _ ) (r_cw S k_533 k_530 k_531 k_532 k_24 q_X4_skip ⟨Nat.le_of_ble_eq_true rfl, Nat.le_of_ble_eq_true rfl⟩ rfl rfl) (g_recv hK hP (i := 0) (by omega) tC0 rfl) rfl hl.1 rfl (Nat.le_of_ble_eq_true rfl) dX4_readThing_57 ⟨Nat.zero_le _, Nat.zero_le _⟩ hS (fun _ h => h) (fun H locs hP _ _ hS => ?_)
        have hP : tP G a (w_X4_skip (w_X4_skip (w_X4_skip (w_X4_skip t (98 : Int32)) (112 : Int32)) (114 : Int32)) (46 : Int32)) H := hP
        refine lv_if_eq (tgt := 93) hx hb dX4_readThing_60 (by decide) (fun c4 => ?_) (fun c4 => ?_)
        · skip
          refine lv_iconst (v := 0) hx hb dX4_readThing_93 (by decide) ?_
          exact e_int S hr hlk rfl hK hS (gP_eq (show w_X4_readThing t  = w_X4_skip (w_X4_skip (w_X4_skip (w_X4_skip t (98 : Int32)) (112 : Int32)) (114 : Int32)) (46 : Int32) from (if_pos c1).trans ((if_pos c2).trans ((if_pos c3).trans ((if_pos c4).trans rfl)))) hP) (show v_X4_readThing t  = (0 : Int32) from (if_pos c1).trans ((if_pos c2).trans ((if_pos c3).trans ((if_pos c4).trans rfl)))).symm dX4_readThing_94
        · skip
          refine lv_aload_n hx hb dX4_readThing_63 rfl (lv_at hl 0 rfl) ?_
          refine lv_iconst (v := 4) hx hb dX4_readThing_64 (by decide) ?_
          refine g_put S hK hP hI hS (i := 0) (by omega) tC0 rfl inlX4 tyX4 tyX4_ok nmX4 tF_n 3 (by decide) k_528 rfl pI rfl rfl (fun _ => rfl) dX4_readThing_65 (fun H locs hP hS => ?_)
          have hP : tP G a (up (w_X4_skip (w_X4_skip (w_X4_skip (w_X4_skip t (98 : Int32)) (112 : Int32)) (114 : Int32)) (46 : Int32)) 0 3 (4 : Int32)) H := hP
          refine lv_aload_n hx hb dX4_readThing_68 rfl (lv_at hl 0 rfl) ?_
          refine lv_aload_n hx hb dX4_readThing_69 rfl (lv_at hl 0 rfl) ?_
          refine lv_iconst (v := 1) hx hb dX4_readThing_70 (by decide) ?_
          refine lv_bipush (v := 99) hx hb dX4_readThing_71 (by decide) ?_
          refine r_callI S hK hP (c_X4_readNumber l G a hI (up (w_X4_skip (w_X4_skip (w_X4_skip (w_X4_skip t (98 : Int32)) (112 : Int32)) (114 : Int32)) (46 : Int32)) 0 3 (4 : Int32)) _ _ (by decide)) (r_cw S k_548 k_545 k_546 k_547 k_24 q_X4_readNumber ⟨Nat.le_of_ble_eq_true rfl, Nat.le_of_ble_eq_true rfl⟩ rfl rfl) (g_recv hK hP (i := 0) (by omega) tC0 rfl) rfl hl.1 rfl (Nat.le_of_ble_eq_true rfl) dX4_readThing_73 ⟨Nat.zero_le _, Nat.zero_le _⟩ hS (fun _ h => h) (fun H locs hP _ _ hS => ?_)
          have hP : tP G a (w_X4_readNumber (up (w_X4_skip (w_X4_skip (w_X4_skip (w_X4_skip t (98 : Int32)) (112 : Int32)) (114 : Int32)) (46 : Int32)) 0 3 (4 : Int32)) (1 : Int32) (99 : Int32)) H := hP
          refine g_put S hK hP hI hS (i := 0) (by omega) tC0 rfl inlX4 tyX4 tyX4_ok nmX4 tF_n 7 (by decide) k_529 rfl pI rfl rfl (fun _ => rfl) dX4_readThing_76 (fun H locs hP hS => ?_)
          have hP : tP G a (up (w_X4_readNumber (up (w_X4_skip (w_X4_skip (w_X4_skip (w_X4_skip t (98 : Int32)) (112 : Int32)) (114 : Int32)) (46 : Int32)) 0 3 (4 : Int32)) (1 : Int32) (99 : Int32)) 0 7 (v_X4_readNumber (up (w_X4_skip (w_X4_skip (w_X4_skip (w_X4_skip t (98 : Int32)) (112 : Int32)) (114 : Int32)) (46 : Int32)) 0 3 (4 : Int32)) (1 : Int32) (99 : Int32))) H := hP
          refine lv_aload_n hx hb dX4_readThing_79 rfl (lv_at hl 0 rfl) ?_
          refine g_get S hK hP (i := 0) (by omega) tC0 rfl inlX4 7 (by decide) k_529 (v := .int (v_X4_readNumber (up (w_X4_skip (w_X4_skip (w_X4_skip (w_X4_skip t (98 : Int32)) (112 : Int32)) (114 : Int32)) (46 : Int32)) 0 3 (4 : Int32)) (1 : Int32) (99 : Int32))) (congrArg Value.int (up_same)) dX4_readThing_80 ?_
          refine lv_iconst (v := -1) hx hb dX4_readThing_83 (by decide) ?_
          refine lv_icmp_eq (tgt := 91) hx hb dX4_readThing_84 (by decide) (fun c5 => ?_) (fun c5 => ?_)
          · skip
            refine lv_iconst (v := 0) hx hb dX4_readThing_91 (by decide) ?_
            exact e_int S hr hlk rfl hK hS (gP_eq (show w_X4_readThing t  = up (w_X4_readNumber (up (w_X4_skip (w_X4_skip (w_X4_skip (w_X4_skip t (98 : Int32)) (112 : Int32)) (114 : Int32)) (46 : Int32)) 0 3 (4 : Int32)) (1 : Int32) (99 : Int32)) 0 7 (v_X4_readNumber (up (w_X4_skip (w_X4_skip (w_X4_skip (w_X4_skip t (98 : Int32)) (112 : Int32)) (114 : Int32)) (46 : Int32)) 0 3 (4 : Int32)) (1 : Int32) (99 : Int32)) from (if_pos c1).trans ((if_pos c2).trans ((if_pos c3).trans ((if_neg c4).trans ((if_pos c5).trans rfl))))) hP) (show v_X4_readThing t  = (0 : Int32) from (if_pos c1).trans ((if_pos c2).trans ((if_pos c3).trans ((if_neg c4).trans ((if_pos c5).trans rfl))))).symm dX4_readThing_92
          · skip
            refine lv_iconst (v := 1) hx hb dX4_readThing_87 (by decide) ?_
            refine lv_goto (tgt := 92) hx hb dX4_readThing_88 (by decide) ?_
            exact e_int S hr hlk rfl hK hS (gP_eq (show w_X4_readThing t  = up (w_X4_readNumber (up (w_X4_skip (w_X4_skip (w_X4_skip (w_X4_skip t (98 : Int32)) (112 : Int32)) (114 : Int32)) (46 : Int32)) 0 3 (4 : Int32)) (1 : Int32) (99 : Int32)) 0 7 (v_X4_readNumber (up (w_X4_skip (w_X4_skip (w_X4_skip (w_X4_skip t (98 : Int32)) (112 : Int32)) (114 : Int32)) (46 : Int32)) 0 3 (4 : Int32)) (1 : Int32) (99 : Int32)) from (if_pos c1).trans ((if_pos c2).trans ((if_pos c3).trans ((if_neg c4).trans ((if_neg c5).trans rfl))))) hP) (show v_X4_readThing t  = (1 : Int32) from (if_pos c1).trans ((if_pos c2).trans ((if_pos c3).trans ((if_neg c4).trans ((if_neg c5).trans rfl))))).symm dX4_readThing_92
      · skip
        refine lv_aload_n hx hb dX4_readThing_47 rfl (lv_at hl 0 rfl) ?_
        refine lv_iconst (v := 3) hx hb dX4_readThing_48 (by decide) ?_
        refine g_put S hK hP hI hS (i := 0) (by omega) tC0 rfl inlX4 tyX4 tyX4_ok nmX4 tF_n 3 (by decide) k_528 rfl pI rfl rfl (fun _ => rfl) dX4_readThing_49 (fun H locs hP hS => ?_)
        have hP : tP G a (up (w_X4_skip (w_X4_skip (w_X4_skip t (98 : Int32)) (112 : Int32)) (114 : Int32)) 0 3 (3 : Int32)) H := hP
        refine lv_iconst (v := 1) hx hb dX4_readThing_52 (by decide) ?_
        exact e_int S hr hlk rfl hK hS (gP_eq (show w_X4_readThing t  = up (w_X4_skip (w_X4_skip (w_X4_skip t (98 : Int32)) (112 : Int32)) (114 : Int32)) 0 3 (3 : Int32) from (if_pos c1).trans ((if_pos c2).trans ((if_neg c3).trans rfl))) hP) (show v_X4_readThing t  = (1 : Int32) from (if_pos c1).trans ((if_pos c2).trans ((if_neg c3).trans rfl))).symm dX4_readThing_53
    · skip
      refine lv_aload_n hx hb dX4_readThing_28 rfl (lv_at hl 0 rfl) ?_
      refine lv_iconst (v := 1) hx hb dX4_readThing_29 (by decide) ?_
      refine g_put S hK hP hI hS (i := 0) (by omega) tC0 rfl inlX4 tyX4 tyX4_ok nmX4 tF_n 3 (by decide) k_528 rfl pI rfl rfl (fun _ => rfl) dX4_readThing_30 (fun H locs hP hS => ?_)
      have hP : tP G a (up (w_X4_skip (w_X4_skip t (98 : Int32)) (112 : Int32)) 0 3 (1 : Int32)) H := hP
      refine lv_aload_n hx hb dX4_readThing_33 rfl (lv_at hl 0 rfl) ?_
      refine r_callI S hK hP (c_X4_readPayment l G a hI (up (w_X4_skip (w_X4_skip t (98 : Int32)) (112 : Int32)) 0 3 (1 : Int32)) ) (r_cw S k_556 k_553 k_554 k_555 k_24 q_X4_readPayment ⟨Nat.le_of_ble_eq_true rfl, Nat.le_of_ble_eq_true rfl⟩ rfl rfl) (g_recv hK hP (i := 0) (by omega) tC0 rfl) rfl hl.1 rfl (Nat.le_of_ble_eq_true rfl) dX4_readThing_34 ⟨Nat.zero_le _, Nat.zero_le _⟩ hS (fun _ h => h) (fun H locs hP _ _ hS => ?_)
      have hP : tP G a (w_X4_readPayment (up (w_X4_skip (w_X4_skip t (98 : Int32)) (112 : Int32)) 0 3 (1 : Int32))) H := hP
      exact e_int S hr hlk (z_X4_readPayment _) hK hS (gP_eq (show w_X4_readThing t  = w_X4_readPayment (up (w_X4_skip (w_X4_skip t (98 : Int32)) (112 : Int32)) 0 3 (1 : Int32)) from (if_pos c1).trans ((if_neg c2).trans rfl)) hP) (show v_X4_readThing t  = v_X4_readPayment (up (w_X4_skip (w_X4_skip t (98 : Int32)) (112 : Int32)) 0 3 (1 : Int32)) from (if_pos c1).trans ((if_neg c2).trans rfl)).symm dX4_readThing_37
  · skip
    refine lv_aload_n hx hb dX4_readThing_9 rfl (lv_at hl 0 rfl) ?_
    refine lv_iconst (v := 0) hx hb dX4_readThing_10 (by decide) ?_
    refine g_put S hK hP hI hS (i := 0) (by omega) tC0 rfl inlX4 tyX4 tyX4_ok nmX4 tF_n 3 (by decide) k_528 rfl pI rfl rfl (fun _ => rfl) dX4_readThing_11 (fun H locs hP hS => ?_)
    have hP : tP G a (up (w_X4_skip t (98 : Int32)) 0 3 (0 : Int32)) H := hP
    refine lv_aload_n hx hb dX4_readThing_14 rfl (lv_at hl 0 rfl) ?_
    refine r_callI S hK hP (c_X4_readBill l G a hI (up (w_X4_skip t (98 : Int32)) 0 3 (0 : Int32)) ) (r_cw S k_537 k_534 k_535 k_536 k_24 q_X4_readBill ⟨Nat.le_of_ble_eq_true rfl, Nat.le_of_ble_eq_true rfl⟩ rfl rfl) (g_recv hK hP (i := 0) (by omega) tC0 rfl) rfl hl.1 rfl (Nat.le_of_ble_eq_true rfl) dX4_readThing_15 ⟨Nat.zero_le _, Nat.zero_le _⟩ hS (fun _ h => h) (fun H locs hP _ _ hS => ?_)
    have hP : tP G a (w_X4_readBill (up (w_X4_skip t (98 : Int32)) 0 3 (0 : Int32))) H := hP
    exact e_int S hr hlk (z_X4_readBill _) hK hS (gP_eq (show w_X4_readThing t  = w_X4_readBill (up (w_X4_skip t (98 : Int32)) 0 3 (0 : Int32)) from (if_neg c1).trans rfl) hP) (show v_X4_readThing t  = v_X4_readBill (up (w_X4_skip t (98 : Int32)) 0 3 (0 : Int32)) from (if_neg c1).trans rfl).symm dX4_readThing_18

def v_X4_findFault_loop : Nat → Nat → (Nat → Nat → Int32) → Int32
  | 0, k, t => t 0 2
  | n + 1, k, t => if v_X4_readThing t = 0 then ((w_X4_readThing t) 0 2) else if (w_X4_readThing t) 0 2 < (w_X4_readThing t) 0 1 then (if v_X4_skip (w_X4_readThing t) (59 : Int32) = 0 then ((w_X4_skip (w_X4_readThing t) (59 : Int32)) 0 2) else v_X4_findFault_loop n (k + 1) (w_X4_skip (w_X4_readThing t) (59 : Int32))) else (-1 : Int32)
def w_X4_findFault_loop : Nat → Nat → (Nat → Nat → Int32) → (Nat → Nat → Int32)
  | 0, k, t => t
  | n + 1, k, t => if v_X4_readThing t = 0 then (w_X4_readThing t) else if (w_X4_readThing t) 0 2 < (w_X4_readThing t) 0 1 then (if v_X4_skip (w_X4_readThing t) (59 : Int32) = 0 then (w_X4_skip (w_X4_readThing t) (59 : Int32)) else w_X4_findFault_loop n (k + 1) (w_X4_skip (w_X4_readThing t) (59 : Int32))) else w_X4_readThing t
def v_X4_findFault (t : Nat → Nat → Int32) : Int32 := v_X4_findFault_loop 60 0 (w_X4_goToStart t)
def w_X4_findFault (t : Nat → Nat → Int32) : Nat → Nat → Int32 := w_X4_findFault_loop 60 0 (w_X4_goToStart t)
theorem q_X4_findFault : yX4_findFault.cls ≠ "java/lang/invoke/MethodHandle" ∧ yX4_findFault.cls ≠ "java/lang/invoke/VarHandle" ∧ (parseMethodDescriptor yX4_findFault.desc).map (fun d => d.parameters.length) = some 0 := ⟨by decide, by decide, by decide +kernel⟩
set_option maxHeartbeats 4000000 in
set_option maxRecDepth 100000 in
theorem c_X4_findFault (l : Launch) (G : kG) (a : Nat → Nat) (hI : gI 2 a) (t : Nat → Nat → Int32) : Met l yX4_findFault (Cond.code yX4_findFault cX4_findFault 2 (some .int) :: BIG) (rmK 5) (pcG G (tP G a t) [.ref (a 0)]) (qcI G (gA 2 a) (tP G a (w_X4_findFault t)) (v_X4_findFault t)) 0 0 (gA 2 a) := by
  refine m_start (by decide) (Nat.le_of_ble_eq_true rfl) ?_
  intro p e s m args below meth c S hr hlk hnm hP hK ls hl
  have hx := S.1
  have hb := S.2.1
  have hown := S.2.2.2.1
  have hS : va_S (gA 2 a) s.heap s.heap [] := va_S.rf
  have hl : lv_has ls 2 [(0, .ref (a 0))] := hl
  refine lv_aload_n hx hb dX4_findFault_0 rfl (lv_at hl 0 rfl) ?_
  refine r_callV S hK hP (c_X4_goToStart l G a hI t ) (r_cw S k_523 k_520 k_521 k_522 k_24 q_X4_goToStart ⟨Nat.le_of_ble_eq_true rfl, Nat.le_of_ble_eq_true rfl⟩ rfl rfl) (g_recv hK hP (i := 0) (by omega) tC0 rfl) rfl hl.1 rfl (Nat.le_of_ble_eq_true rfl) dX4_findFault_1 ⟨Nat.zero_le _, Nat.zero_le _⟩ hS (fun _ h => h) (fun H locs hP _ _ hS => ?_)
  have hP : tP G a (w_X4_goToStart t) H := hP
  refine lv_iconst (v := 0) hx hb dX4_findFault_4 (by decide) ?_
  refine lv_istore_n (lv' := [(1, .int (0 : Int32)), (0, .ref (a 0))]) hx hb dX4_findFault_5 rfl hl (by decide) rfl (fun ls hl => ?_)
  have LP_loop : ∀ (n : Nat) (k : Nat), k + n = 60 → ∀ (t : Nat → Nat → Int32) (H : Heap) (locs : List Loc), tP G a t H → va_S (gA 2 a) s.heap H locs → ∀ ls : Array Slot, lv_has ls 2 [(1, .int (nI k)), (0, .ref (a 0))] → W p l e (rmK 5) s m args below meth c H locs 0 0 (MQ below (qcI G (gA 2 a) (tP G a (w_X4_findFault_loop n k t)) (v_X4_findFault_loop n k t)) args s 0 0 (gA 2 a)) (F0 m 6 ls []) := by
    intro n
    induction n with
    | zero =>
      intro k hk_LP_loop t H locs hP hS ls hl
      refine lv_iload_n hx hb dX4_findFault_6 rfl (lv_at hl 0 rfl) ?_
      refine lv_bipush (v := 60) hx hb dX4_findFault_7 (by decide) ?_
      refine lv_icmp_ge (tgt := 57) hx hb dX4_findFault_9 (by decide) (fun _ => ?_) (fun c => absurd ((nI_leI (a := 60) (b := k) (by omega) (by omega)).mpr (by omega)) c)
      refine lv_aload_n hx hb dX4_findFault_57 rfl (lv_at hl 1 rfl) ?_
      refine g_get S hK hP (i := 0) (by omega) tC0 rfl inlX4 2 (by decide) k_519 (v := .int (t 0 2)) rfl dX4_findFault_58 ?_
      exact e_int S hr hlk rfl hK hS (gP_eq (show w_X4_findFault_loop 0 k t = t from rfl) hP) (show v_X4_findFault_loop 0 k t = t 0 2 from rfl).symm dX4_findFault_61
    | succ n ih_LP_loop =>
      intro k hk_LP_loop t H locs hP hS ls hl
      refine lv_iload_n hx hb dX4_findFault_6 rfl (lv_at hl 0 rfl) ?_
      refine lv_bipush (v := 60) hx hb dX4_findFault_7 (by decide) ?_
      refine lv_icmp_ge (tgt := 57) hx hb dX4_findFault_9 (by decide) (fun c => absurd c (fun z => absurd ((nI_leI (a := 60) (b := k) (by omega) (by omega)).mp z) (by omega))) (fun _ => ?_)
      refine lv_aload_n hx hb dX4_findFault_12 rfl (lv_at hl 1 rfl) ?_
      refine r_callI S hK hP (c_X4_readThing l G a hI t ) (r_cw S k_527 k_524 k_525 k_526 k_24 q_X4_readThing ⟨Nat.le_of_ble_eq_true rfl, Nat.le_of_ble_eq_true rfl⟩ rfl rfl) (g_recv hK hP (i := 0) (by omega) tC0 rfl) rfl hl.1 rfl (Nat.le_of_ble_eq_true rfl) dX4_findFault_13 ⟨Nat.zero_le _, Nat.zero_le _⟩ hS (fun _ h => h) (fun H locs hP _ _ hS => ?_)
      have hP : tP G a (w_X4_readThing t) H := hP
      refine lv_if_ne (tgt := 24) hx hb dX4_findFault_16 (by decide) (fun c1 => ?_) (fun c1 => ?_)
      · skip
        refine lv_aload_n hx hb dX4_findFault_24 rfl (lv_at hl 1 rfl) ?_
        refine g_get S hK hP (i := 0) (by omega) tC0 rfl inlX4 2 (by decide) k_519 (v := .int ((w_X4_readThing t) 0 2)) rfl dX4_findFault_25 ?_
        refine lv_aload_n hx hb dX4_findFault_28 rfl (lv_at hl 1 rfl) ?_
        refine g_get S hK hP (i := 0) (by omega) tC0 rfl inlX4 1 (by decide) k_497 (v := .int ((w_X4_readThing t) 0 1)) rfl dX4_findFault_29 ?_
        refine lv_icmp_lt (tgt := 37) hx hb dX4_findFault_32 (by decide) (fun c2 => ?_) (fun c2 => ?_)
        · skip
          refine lv_aload_n hx hb dX4_findFault_37 rfl (lv_at hl 1 rfl) ?_
          refine lv_bipush (v := 59) hx hb dX4_findFault_38 (by decide) ?_
          refine r_callI S hK hP (c_X4_skip l G a hI (w_X4_readThing t) _ ) (r_cw S k_533 k_530 k_531 k_532 k_24 q_X4_skip ⟨Nat.le_of_ble_eq_true rfl, Nat.le_of_ble_eq_true rfl⟩ rfl rfl) (g_recv hK hP (i := 0) (by omega) tC0 rfl) rfl hl.1 rfl (Nat.le_of_ble_eq_true rfl) dX4_findFault_40 ⟨Nat.zero_le _, Nat.zero_le _⟩ hS (fun _ h => h) (fun H locs hP _ _ hS => ?_)
          have hP : tP G a (w_X4_skip (w_X4_readThing t) (59 : Int32)) H := hP
          refine lv_if_ne (tgt := 51) hx hb dX4_findFault_43 (by decide) (fun c3 => ?_) (fun c3 => ?_)
          · skip
            refine lv_iinc (v := nI (k + 1)) (lv' := [(1, .int (nI (k + 1))), (0, .ref (a 0))]) hx hb dX4_findFault_51 hl (k := 0) rfl (nI_1 _) (by decide) rfl (fun ls hl => ?_)
            refine lv_goto (tgt := 6) hx hb dX4_findFault_54 (by decide) ?_
            refine q_eqI (show v_X4_findFault_loop (n + 1) k t = v_X4_findFault_loop n (k + 1) (w_X4_skip (w_X4_readThing t) (59 : Int32)) from (if_neg c1).trans ((if_pos c2).trans ((if_neg c3).trans rfl))) (show w_X4_findFault_loop (n + 1) k t = w_X4_findFault_loop n (k + 1) (w_X4_skip (w_X4_readThing t) (59 : Int32)) from (if_neg c1).trans ((if_pos c2).trans ((if_neg c3).trans rfl))) ?_
            exact ih_LP_loop (k + 1) (by omega) _ _ _ hP hS ls (lv_sub hl [0, 1] rfl)
          · skip
            refine lv_aload_n hx hb dX4_findFault_46 rfl (lv_at hl 1 rfl) ?_
            refine g_get S hK hP (i := 0) (by omega) tC0 rfl inlX4 2 (by decide) k_519 (v := .int ((w_X4_skip (w_X4_readThing t) (59 : Int32)) 0 2)) rfl dX4_findFault_47 ?_
            exact e_int S hr hlk rfl hK hS (gP_eq (show w_X4_findFault_loop (n + 1) k t = w_X4_skip (w_X4_readThing t) (59 : Int32) from (if_neg c1).trans ((if_pos c2).trans ((if_pos c3).trans rfl))) hP) (show v_X4_findFault_loop (n + 1) k t = (w_X4_skip (w_X4_readThing t) (59 : Int32)) 0 2 from (if_neg c1).trans ((if_pos c2).trans ((if_pos c3).trans rfl))).symm dX4_findFault_50
        · skip
          refine lv_iconst (v := -1) hx hb dX4_findFault_35 (by decide) ?_
          exact e_int S hr hlk rfl hK hS (gP_eq (show w_X4_findFault_loop (n + 1) k t = w_X4_readThing t from (if_neg c1).trans ((if_neg c2).trans rfl)) hP) (show v_X4_findFault_loop (n + 1) k t = (-1 : Int32) from (if_neg c1).trans ((if_neg c2).trans rfl)).symm dX4_findFault_36
      · skip
        refine lv_aload_n hx hb dX4_findFault_19 rfl (lv_at hl 1 rfl) ?_
        refine g_get S hK hP (i := 0) (by omega) tC0 rfl inlX4 2 (by decide) k_519 (v := .int ((w_X4_readThing t) 0 2)) rfl dX4_findFault_20 ?_
        exact e_int S hr hlk rfl hK hS (gP_eq (show w_X4_findFault_loop (n + 1) k t = w_X4_readThing t from (if_pos c1).trans rfl) hP) (show v_X4_findFault_loop (n + 1) k t = (w_X4_readThing t) 0 2 from (if_pos c1).trans rfl).symm dX4_findFault_23
  refine q_eqI (show v_X4_findFault t  = v_X4_findFault_loop 60 0 (w_X4_goToStart t) from rfl) (show w_X4_findFault t  = w_X4_findFault_loop 60 0 (w_X4_goToStart t) from rfl) ?_
  exact LP_loop 60 0 (by omega) _ _ _ hP hS ls (lv_sub hl [0, 1] rfl)
