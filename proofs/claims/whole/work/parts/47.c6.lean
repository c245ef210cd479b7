def v_X5_doAllThings_loop : Nat → Nat → (CS) → Int32
  | 0, k, z => nI k
  | n + 1, k, z => if v_X4_readThing (z.2 8) = 0 then (nI k) else if 0 ≤ v_X5_doThing (zB z 8 (w_X4_readThing (z.2 8))) then (v_X5_doAllThings_loop n (k + 1) (zB (w_X5_doThing (zB z 8 (w_X4_readThing (z.2 8)))) 8 (w_X4_skip ((w_X5_doThing (zB z 8 (w_X4_readThing (z.2 8)))).2 8) (59 : Int32)))) else if v_X5_doThing (zB z 8 (w_X4_readThing (z.2 8))) = (-5 : Int32) then (v_X5_doAllThings_loop n (k + 1) (zB (w_X5_doThing (zB z 8 (w_X4_readThing (z.2 8)))) 8 (w_X4_skip ((w_X5_doThing (zB z 8 (w_X4_readThing (z.2 8)))).2 8) (59 : Int32)))) else (-4 : Int32)
def w_X5_doAllThings_loop : Nat → Nat → (CS) → (CS)
  | 0, k, z => z
  | n + 1, k, z => if v_X4_readThing (z.2 8) = 0 then (zB z 8 (w_X4_readThing (z.2 8))) else if 0 ≤ v_X5_doThing (zB z 8 (w_X4_readThing (z.2 8))) then (w_X5_doAllThings_loop n (k + 1) (zB (w_X5_doThing (zB z 8 (w_X4_readThing (z.2 8)))) 8 (w_X4_skip ((w_X5_doThing (zB z 8 (w_X4_readThing (z.2 8)))).2 8) (59 : Int32)))) else if v_X5_doThing (zB z 8 (w_X4_readThing (z.2 8))) = (-5 : Int32) then (w_X5_doAllThings_loop n (k + 1) (zB (w_X5_doThing (zB z 8 (w_X4_readThing (z.2 8)))) 8 (w_X4_skip ((w_X5_doThing (zB z 8 (w_X4_readThing (z.2 8)))).2 8) (59 : Int32)))) else w7 (w7 (w7 (w_X5_doThing (zB z 8 (w_X4_readThing (z.2 8)))) 0 6 (1 : Int32)) 0 7 (nI k)) 0 8 (v_X5_doThing (zB z 8 (w_X4_readThing (z.2 8))))
def v_X5_doAllThings (z : CS) : Int32 := v_X5_doAllThings_loop 60 0 (zB z 8 (w_X4_goToStart (z.2 8)))
def w_X5_doAllThings (z : CS) : CS := w_X5_doAllThings_loop 60 0 (zB z 8 (w_X4_goToStart (z.2 8)))
theorem q_X5_doAllThings : yX5_doAllThings.cls ≠ "java/lang/invoke/MethodHandle" ∧ yX5_doAllThings.cls ≠ "java/lang/invoke/VarHandle" ∧ (parseMethodDescriptor yX5_doAllThings.desc).map (fun d => d.parameters.length) = some 0 := ⟨by decide, by decide, by decide +kernel⟩
set_option maxHeartbeats 4000000 in
set_option maxRecDepth 100000 in
theorem c_X5_doAllThings (l : Launch) (G : kG) (a : Nat → Nat) (hI : gI 334 a) (z : CS) (hR : RI z.1) (hJ : RJ z.1) : Met l yX5_doAllThings (Cond.code yX5_doAllThings cX5_doAllThings 3 (some .int) :: BIG) (rmK 5) (pcG G (cP G a z) [.ref (a 329)]) (qcI G (gA 334 a) (cP G a (w_X5_doAllThings z)) (v_X5_doAllThings z)) 0 0 (gA 334 a) := by
  refine m_start (by decide) (Nat.le_of_ble_eq_true rfl) ?_
  intro p e s m args below meth c S hr hlk hnm hP hK ls hl
  have hx := S.1
  have hb := S.2.1
  have hown := S.2.2.2.1
  have hS : va_S (gA 334 a) s.heap s.heap [] := va_S.rf
  have hl : lv_has ls 3 [(0, .ref (a 329))] := hl
  refine lv_iconst (v := 0) hx hb dX5_doAllThings_0 (by decide) ?_
  refine lv_istore_n (lv' := [(1, .int (0 : Int32)), (0, .ref (a 329))]) hx hb dX5_doAllThings_1 rfl hl (by decide) rfl (fun ls hl => ?_)
  refine lv_aload_n hx hb dX5_doAllThings_2 rfl (lv_at hl 1 rfl) ?_
  refine g_get S hK hP (i := 329) (by omega) cC0 rfl inlX5 5 (by decide) k_25 (v := .ref (a 332)) rfl dX5_doAllThings_3 ?_
  have hB := cP_text hP
  refine r_callV S hK hB (c_X4_goToStart l G (fun t => a (332 + t)) (gI_text hI) (z.2 8) ) (r_cw S k_523 k_566 k_521 k_522 k_24 q_X4_goToStart ⟨Nat.le_of_ble_eq_true rfl, Nat.le_of_ble_eq_true rfl⟩ rfl rfl) (g_recv hK hB (i := 0) (by omega) tC0 rfl) rfl hl.1 rfl (Nat.le_of_ble_eq_true rfl) dX5_doAllThings_6 ⟨Nat.zero_le _, Nat.zero_le _⟩ hS (fun _ h => gA_text h) (fun H locs hB hk1 hz1 hS => ?_)
  have hP := cP_joinT hI hP hB hk1
  have hP : cP G a (zB z 8 (w_X4_goToStart (z.2 8))) H := hP
  have LP_loop : ∀ (n : Nat) (k : Nat), k + n = 60 → ∀ (z : CS) (H : Heap) (locs : List Loc), cP G a z H → va_S (gA 334 a) s.heap H locs → RI z.1 → RJ z.1 → ∀ ls : Array Slot, lv_has ls 3 [(1, .int (nI k)), (0, .ref (a 329))] → W p l e (rmK 5) s m args below meth c H locs 0 0 (MQ below (qcI G (gA 334 a) (cP G a (w_X5_doAllThings_loop n k z)) (v_X5_doAllThings_loop n k z)) args s 0 0 (gA 334 a)) (F0 m 9 ls []) := by
    intro n
    induction n with
    | zero =>
      intro k hk_LP_loop z H locs hP hS hR hJ ls hl
      refine lv_iload_n hx hb dX5_doAllThings_9 rfl (lv_at hl 0 rfl) ?_
      refine lv_bipush (v := 60) hx hb dX5_doAllThings_10 (by decide) ?_
      refine lv_icmp_ge (tgt := 74) hx hb dX5_doAllThings_12 (by decide) (fun _ => ?_) (fun c => absurd ((nI_leI (a := 60) (b := k) (by omega) (by omega)).mpr (by omega)) c)
      refine lv_iload_n hx hb dX5_doAllThings_74 rfl (lv_at hl 0 rfl) ?_
      exact e_int S hr hlk rfl hK hS (cP_eq (show w_X5_doAllThings_loop 0 k z = z from rfl) hP) (show v_X5_doAllThings_loop 0 k z = nI k from rfl).symm dX5_doAllThings_75
    | succ n ih_LP_loop =>
      intro k hk_LP_loop z H locs hP hS hR hJ ls hl
      refine lv_iload_n hx hb dX5_doAllThings_9 rfl (lv_at hl 0 rfl) ?_
      refine lv_bipush (v := 60) hx hb dX5_doAllThings_10 (by decide) ?_
      refine lv_icmp_ge (tgt := 74) hx hb dX5_doAllThings_12 (by decide) (fun c => absurd c (fun z => absurd ((nI_leI (a := 60) (b := k) (by omega) (by omega)).mp z) (by omega))) (fun _ => ?_)
      refine lv_aload_n hx hb dX5_doAllThings_15 rfl (lv_at hl 1 rfl) ?_
      refine g_get S hK hP (i := 329) (by omega) cC0 rfl inlX5 5 (by decide) k_25 (v := .ref (a 332)) rfl dX5_doAllThings_16 ?_
      have hB := cP_text hP
      refine r_callI S hK hB (c_X4_readThing l G (fun t => a (332 + t)) (gI_text hI) (z.2 8) ) (r_cw S k_527 k_567 k_525 k_526 k_24 q_X4_readThing ⟨Nat.le_of_ble_eq_true rfl, Nat.le_of_ble_eq_true rfl⟩ rfl rfl) (g_recv hK hB (i := 0) (by omega) tC0 rfl) rfl hl.1 rfl (Nat.le_of_ble_eq_true rfl) dX5_doAllThings_19 ⟨Nat.zero_le _, Nat.zero_le _⟩ hS (fun _ h => gA_text h) (fun H locs hB hk1 hz1 hS => ?_)
      have hP := cP_joinT hI hP hB hk1
      have hP : cP G a (zB z 8 (w_X4_readThing (z.2 8))) H := hP
      refine lv_if_eq (tgt := 74) hx hb dX5_doAllThings_22 (by decide) (fun c1 => ?_) (fun c1 => ?_)
      · skip
        refine lv_iload_n hx hb dX5_doAllThings_74 rfl (lv_at hl 0 rfl) ?_
        exact e_int S hr hlk rfl hK hS (cP_eq (show w_X5_doAllThings_loop (n + 1) k z = zB z 8 (w_X4_readThing (z.2 8)) from (if_pos c1).trans rfl) hP) (show v_X5_doAllThings_loop (n + 1) k z = nI k from (if_pos c1).trans rfl).symm dX5_doAllThings_75
      · skip
        refine lv_aload_n hx hb dX5_doAllThings_25 rfl (lv_at hl 1 rfl) ?_
        refine r_callI S hK hP (c_X5_doThing l G a hI (zB z 8 (w_X4_readThing (z.2 8))) (RI_eq (fst_zB) hR) (RJ_eq (fst_zB) hJ)) (r_cw S k_571 k_568 k_569 k_570 k_2 q_X5_doThing ⟨Nat.le_of_ble_eq_true rfl, Nat.le_of_ble_eq_true rfl⟩ rfl rfl) (g_recv hK hP (i := 329) (by omega) cC0 rfl) rfl hl.1 rfl (Nat.le_of_ble_eq_true rfl) dX5_doAllThings_26 ⟨Nat.zero_le _, Nat.zero_le _⟩ hS (fun _ h => h) (fun H locs hP _ _ hS => ?_)
        have hP : cP G a (w_X5_doThing (zB z 8 (w_X4_readThing (z.2 8)))) H := hP
        refine lv_istore_n (lv' := [(2, .int (v_X5_doThing (zB z 8 (w_X4_readThing (z.2 8))))), (1, .int (nI k)), (0, .ref (a 329))]) hx hb dX5_doAllThings_29 rfl hl (by decide) rfl (fun ls hl => ?_)
        refine lv_iload_n hx hb dX5_doAllThings_30 rfl (lv_at hl 0 rfl) ?_
        refine lv_if_ge (tgt := 58) hx hb dX5_doAllThings_31 (by decide) (fun c2 => ?_) (fun c2 => ?_)
        · skip
          refine lv_iinc (v := nI (k + 1)) (lv' := [(1, .int (nI (k + 1))), (2, .int (v_X5_doThing (zB z 8 (w_X4_readThing (z.2 8))))), (0, .ref (a 329))]) hx hb dX5_doAllThings_58 hl (k := 1) rfl (nI_1 _) (by decide) rfl (fun ls hl => ?_)
          refine lv_aload_n hx hb dX5_doAllThings_61 rfl (lv_at hl 2 rfl) ?_
          refine g_get S hK hP (i := 329) (by omega) cC0 rfl inlX5 5 (by decide) k_25 (v := .ref (a 332)) rfl dX5_doAllThings_62 ?_
          refine lv_bipush (v := 59) hx hb dX5_doAllThings_65 (by decide) ?_
          have hB := cP_text hP
          refine r_callI S hK hB (c_X4_skip l G (fun t => a (332 + t)) (gI_text hI) ((w_X5_doThing (zB z 8 (w_X4_readThing (z.2 8)))).2 8) _ ) (r_cw S k_533 k_582 k_531 k_532 k_24 q_X4_skip ⟨Nat.le_of_ble_eq_true rfl, Nat.le_of_ble_eq_true rfl⟩ rfl rfl) (g_recv hK hB (i := 0) (by omega) tC0 rfl) rfl hl.1 rfl (Nat.le_of_ble_eq_true rfl) dX5_doAllThings_67 ⟨Nat.zero_le _, Nat.zero_le _⟩ hS (fun _ h => gA_text h) (fun H locs hB hk1 hz1 hS => ?_)
          have hP := cP_joinT hI hP hB hk1
          have hP : cP G a (zB (w_X5_doThing (zB z 8 (w_X4_readThing (z.2 8)))) 8 (w_X4_skip ((w_X5_doThing (zB z 8 (w_X4_readThing (z.2 8)))).2 8) (59 : Int32))) H := hP
          refine lv_pop hx hb dX5_doAllThings_70 rfl ?_
          refine lv_goto (tgt := 9) hx hb dX5_doAllThings_71 (by decide) ?_
          refine q_eqIz (show v_X5_doAllThings_loop (n + 1) k z = v_X5_doAllThings_loop n (k + 1) (zB (w_X5_doThing (zB z 8 (w_X4_readThing (z.2 8)))) 8 (w_X4_skip ((w_X5_doThing (zB z 8 (w_X4_readThing (z.2 8)))).2 8) (59 : Int32))) from (if_neg c1).trans ((if_pos c2).trans rfl)) (show w_X5_doAllThings_loop (n + 1) k z = w_X5_doAllThings_loop n (k + 1) (zB (w_X5_doThing (zB z 8 (w_X4_readThing (z.2 8)))) 8 (w_X4_skip ((w_X5_doThing (zB z 8 (w_X4_readThing (z.2 8)))).2 8) (59 : Int32))) from (if_neg c1).trans ((if_pos c2).trans rfl)) ?_
          exact ih_LP_loop (k + 1) (by omega) _ _ _ hP hS (RI_eq (fst_zB.trans (doThing_R.trans (fst_zB))) hR) (RJ_eq (fst_zB.trans (doThing_R.trans (fst_zB))) hJ) ls (lv_sub hl [0, 2] rfl)
        · skip
          refine lv_iload_n hx hb dX5_doAllThings_34 rfl (lv_at hl 0 rfl) ?_
          refine lv_bipush (v := -5) hx hb dX5_doAllThings_35 (by decide) ?_
          refine lv_icmp_eq (tgt := 58) hx hb dX5_doAllThings_37 (by decide) (fun c3 => ?_) (fun c3 => ?_)
          · skip
            refine lv_iinc (v := nI (k + 1)) (lv' := [(1, .int (nI (k + 1))), (2, .int (v_X5_doThing (zB z 8 (w_X4_readThing (z.2 8))))), (0, .ref (a 329))]) hx hb dX5_doAllThings_58 hl (k := 1) rfl (nI_1 _) (by decide) rfl (fun ls hl => ?_)
            refine lv_aload_n hx hb dX5_doAllThings_61 rfl (lv_at hl 2 rfl) ?_
            refine g_get S hK hP (i := 329) (by omega) cC0 rfl inlX5 5 (by decide) k_25 (v := .ref (a 332)) rfl dX5_doAllThings_62 ?_
            refine lv_bipush (v := 59) hx hb dX5_doAllThings_65 (by decide) ?_
            have hB := cP_text hP
            refine r_callI S hK hB (c_X4_skip l G (fun t => a (332 + t)) (gI_text hI) ((w_X5_doThing (zB z 8 (w_X4_readThing (z.2 8)))).2 8) _ ) (r_cw S k_533 k_582 k_531 k_532 k_24 q_X4_skip ⟨Nat.le_of_ble_eq_true rfl, Nat.le_of_ble_eq_true rfl⟩ rfl rfl) (g_recv hK hB (i := 0) (by omega) tC0 rfl) rfl hl.1 rfl (Nat.le_of_ble_eq_true rfl) dX5_doAllThings_67 ⟨Nat.zero_le _, Nat.zero_le _⟩ hS (fun _ h => gA_text h) (fun H locs hB hk1 hz1 hS => ?_)
            have hP := cP_joinT hI hP hB hk1
            have hP : cP G a (zB (w_X5_doThing (zB z 8 (w_X4_readThing (z.2 8)))) 8 (w_X4_skip ((w_X5_doThing (zB z 8 (w_X4_readThing (z.2 8)))).2 8) (59 : Int32))) H := hP
            refine lv_pop hx hb dX5_doAllThings_70 rfl ?_
            refine lv_goto (tgt := 9) hx hb dX5_doAllThings_71 (by decide) ?_
            refine q_eqIz (show v_X5_doAllThings_loop (n + 1) k z = v_X5_doAllThings_loop n (k + 1) (zB (w_X5_doThing (zB z 8 (w_X4_readThing (z.2 8)))) 8 (w_X4_skip ((w_X5_doThing (zB z 8 (w_X4_readThing (z.2 8)))).2 8) (59 : Int32))) from (if_neg c1).trans ((if_neg c2).trans ((if_pos c3).trans rfl))) (show w_X5_doAllThings_loop (n + 1) k z = w_X5_doAllThings_loop n (k + 1) (zB (w_X5_doThing (zB z 8 (w_X4_readThing (z.2 8)))) 8 (w_X4_skip ((w_X5_doThing (zB z 8 (w_X4_readThing (z.2 8)))).2 8) (59 : Int32))) from (if_neg c1).trans ((if_neg c2).trans ((if_pos c3).trans rfl))) ?_
            exact ih_LP_loop (k + 1) (by omega) _ _ _ hP hS (RI_eq (fst_zB.trans (doThing_R.trans (fst_zB))) hR) (RJ_eq (fst_zB.trans (doThing_R.trans (fst_zB))) hJ) ls (lv_sub hl [0, 2] rfl)
          · skip
            refine lv_aload_n hx hb dX5_doAllThings_40 rfl (lv_at hl 2 rfl) ?_
            refine lv_iconst (v := 1) hx hb dX5_doAllThings_41 (by decide) ?_
            refine c_put7 (t := 0) (by decide) S hK hP hI hS cC0 rfl inlX5 tyX5 tyX5_ok nmX5 cF0_n 6 (by decide) k_563 rfl pZ rfl rfl (fun _ => rfl) dX5_doAllThings_42 (fun H locs hP hS => ?_)
            have hP : cP G a (w7 (w_X5_doThing (zB z 8 (w_X4_readThing (z.2 8)))) 0 6 (1 : Int32)) H := hP
            refine lv_aload_n hx hb dX5_doAllThings_45 rfl (lv_at hl 2 rfl) ?_
            refine lv_iload_n hx hb dX5_doAllThings_46 rfl (lv_at hl 1 rfl) ?_
            refine c_put7 (t := 0) (by decide) S hK hP hI hS cC0 rfl inlX5 tyX5 tyX5_ok nmX5 cF0_n 7 (by decide) k_564 rfl pI rfl rfl (fun _ => rfl) dX5_doAllThings_47 (fun H locs hP hS => ?_)
            have hP : cP G a (w7 (w7 (w_X5_doThing (zB z 8 (w_X4_readThing (z.2 8)))) 0 6 (1 : Int32)) 0 7 (nI k)) H := hP
            refine lv_aload_n hx hb dX5_doAllThings_50 rfl (lv_at hl 2 rfl) ?_
            refine lv_iload_n hx hb dX5_doAllThings_51 rfl (lv_at hl 0 rfl) ?_
            refine c_put7 (t := 0) (by decide) S hK hP hI hS cC0 rfl inlX5 tyX5 tyX5_ok nmX5 cF0_n 8 (by decide) k_565 rfl pI rfl rfl (fun _ => rfl) dX5_doAllThings_52 (fun H locs hP hS => ?_)
            have hP : cP G a (w7 (w7 (w7 (w_X5_doThing (zB z 8 (w_X4_readThing (z.2 8)))) 0 6 (1 : Int32)) 0 7 (nI k)) 0 8 (v_X5_doThing (zB z 8 (w_X4_readThing (z.2 8))))) H := hP
            refine lv_bipush (v := -4) hx hb dX5_doAllThings_55 (by decide) ?_
            exact e_int S hr hlk rfl hK hS (cP_eq (show w_X5_doAllThings_loop (n + 1) k z = w7 (w7 (w7 (w_X5_doThing (zB z 8 (w_X4_readThing (z.2 8)))) 0 6 (1 : Int32)) 0 7 (nI k)) 0 8 (v_X5_doThing (zB z 8 (w_X4_readThing (z.2 8)))) from (if_neg c1).trans ((if_neg c2).trans ((if_neg c3).trans rfl))) hP) (show v_X5_doAllThings_loop (n + 1) k z = (-4 : Int32) from (if_neg c1).trans ((if_neg c2).trans ((if_neg c3).trans rfl))).symm dX5_doAllThings_57
  refine q_eqIz (show v_X5_doAllThings z  = v_X5_doAllThings_loop 60 0 (zB z 8 (w_X4_goToStart (z.2 8))) from rfl) (show w_X5_doAllThings z  = w_X5_doAllThings_loop 60 0 (zB z 8 (w_X4_goToStart (z.2 8))) from rfl) ?_
  exact LP_loop 60 0 (by omega) _ _ _ hP hS hR hJ ls (lv_sub hl [0, 1] rfl)

theorem doAllThings_loop_R : ∀ (n k : Nat) (z : CS), (w_X5_doAllThings_loop n k z).1 = z.1 := by
  intro n
  induction n with
  | zero => intro k z; exact rfl
  | succ n ih =>
    intro k z
    unfold w_X5_doAllThings_loop
    repeat' split
    all_goals first | rfl | exact doThing_R | exact (ih _ _).trans doThing_R
theorem doAllThings_R {z : CS} : (w_X5_doAllThings z).1 = z.1 := doAllThings_loop_R _ _ _

def v_X5_perform (z : CS) : Int32 := if v_X4_findFault (z.2 8) = (-1 : Int32) then (v_X5_endAct (w_X5_doAllThings (w_X5_startAct (zB z 8 (w_X4_findFault (z.2 8))))) (v_X5_doAllThings (w_X5_startAct (zB z 8 (w_X4_findFault (z.2 8)))))) else (-100 : Int32) - (v_X4_findFault (z.2 8))
def w_X5_perform (z : CS) : CS := if v_X4_findFault (z.2 8) = (-1 : Int32) then (w_X5_endAct (w_X5_doAllThings (w_X5_startAct (zB z 8 (w_X4_findFault (z.2 8))))) (v_X5_doAllThings (w_X5_startAct (zB z 8 (w_X4_findFault (z.2 8)))))) else zB z 8 (w_X4_findFault (z.2 8))
theorem q_X5_perform : yX5_perform.cls ≠ "java/lang/invoke/MethodHandle" ∧ yX5_perform.cls ≠ "java/lang/invoke/VarHandle" ∧ (parseMethodDescriptor yX5_perform.desc).map (fun d => d.parameters.length) = some 0 := ⟨by decide, by decide, by decide +kernel⟩
set_option maxHeartbeats 4000000 in
set_option maxRecDepth 100000 in
theorem c_X5_perform (l : Launch) (G : kG) (a : Nat → Nat) (hI : gI 334 a) (z : CS) (hR : RI z.1) (hJ : RJ z.1) : Met l yX5_perform (Cond.code yX5_perform cX5_perform 2 (some .int) :: BIG) (rmK 6) (pcG G (cP G a z) [.ref (a 329)]) (qcI G (gA 334 a) (cP G a (w_X5_perform z)) (v_X5_perform z)) 0 0 (gA 334 a) := by
  refine m_start (by decide) (Nat.le_of_ble_eq_true rfl) ?_
  intro p e s m args below meth c S hr hlk hnm hP hK ls hl
  have hx := S.1
  have hb := S.2.1
  have hown := S.2.2.2.1
  have hS : va_S (gA 334 a) s.heap s.heap [] := va_S.rf
  have hl : lv_has ls 2 [(0, .ref (a 329))] := hl
  refine lv_aload_n hx hb dX5_perform_0 rfl (lv_at hl 0 rfl) ?_
  refine g_get S hK hP (i := 329) (by omega) cC0 rfl inlX5 5 (by decide) k_25 (v := .ref (a 332)) rfl dX5_perform_1 ?_
  have hB := cP_text hP
  refine r_callI S hK hB (c_X4_findFault l G (fun t => a (332 + t)) (gI_text hI) (z.2 8) ) (r_cw S k_518 k_515 k_516 k_517 k_24 q_X4_findFault ⟨Nat.le_of_ble_eq_true rfl, Nat.le_of_ble_eq_true rfl⟩ rfl rfl) (g_recv hK hB (i := 0) (by omega) tC0 rfl) rfl hl.1 rfl (Nat.le_of_ble_eq_true rfl) dX5_perform_4 ⟨Nat.zero_le _, Nat.zero_le _⟩ hS (fun _ h => gA_text h) (fun H locs hB hk1 hz1 hS => ?_)
  have hP := cP_joinT hI hP hB hk1
  have hP : cP G a (zB z 8 (w_X4_findFault (z.2 8))) H := hP
  refine lv_istore_n (lv' := [(1, .int (v_X4_findFault (z.2 8))), (0, .ref (a 329))]) hx hb dX5_perform_7 rfl hl (by decide) rfl (fun ls hl => ?_)
  refine lv_iload_n hx hb dX5_perform_8 rfl (lv_at hl 0 rfl) ?_
  refine lv_iconst (v := -1) hx hb dX5_perform_9 (by decide) ?_
  refine lv_icmp_eq (tgt := 18) hx hb dX5_perform_10 (by decide) (fun c1 => ?_) (fun c1 => ?_)
  · skip
    refine lv_aload_n hx hb dX5_perform_18 rfl (lv_at hl 1 rfl) ?_
    refine r_callV S hK hP (c_X5_startAct l G a hI (zB z 8 (w_X4_findFault (z.2 8))) (RI_eq (fst_zB) hR) (RJ_eq (fst_zB) hJ)) (r_cw S k_83 k_80 k_81 k_82 k_2 q_X5_startAct ⟨Nat.le_of_ble_eq_true rfl, Nat.le_of_ble_eq_true rfl⟩ rfl rfl) (g_recv hK hP (i := 329) (by omega) cC0 rfl) rfl hl.1 rfl (Nat.le_of_ble_eq_true rfl) dX5_perform_19 ⟨Nat.zero_le _, Nat.zero_le _⟩ hS (fun _ h => h) (fun H locs hP _ _ hS => ?_)
    have hP : cP G a (w_X5_startAct (zB z 8 (w_X4_findFault (z.2 8)))) H := hP
    refine lv_aload_n hx hb dX5_perform_22 rfl (lv_at hl 1 rfl) ?_
    refine lv_aload_n hx hb dX5_perform_23 rfl (lv_at hl 1 rfl) ?_
    refine r_callI S hK hP (c_X5_doAllThings l G a hI (w_X5_startAct (zB z 8 (w_X4_findFault (z.2 8)))) (RI_eq (startAct_R.trans (fst_zB)) hR) (RJ_eq (startAct_R.trans (fst_zB)) hJ)) (r_cw S k_562 k_559 k_560 k_561 k_2 q_X5_doAllThings ⟨Nat.le_of_ble_eq_true rfl, Nat.le_of_ble_eq_true rfl⟩ rfl rfl) (g_recv hK hP (i := 329) (by omega) cC0 rfl) rfl hl.1 rfl (Nat.le_of_ble_eq_true rfl) dX5_perform_24 ⟨Nat.zero_le _, Nat.zero_le _⟩ hS (fun _ h => h) (fun H locs hP _ _ hS => ?_)
    have hP : cP G a (w_X5_doAllThings (w_X5_startAct (zB z 8 (w_X4_findFault (z.2 8))))) H := hP
    refine r_callI S hK hP (c_X5_endAct l G a hI (w_X5_doAllThings (w_X5_startAct (zB z 8 (w_X4_findFault (z.2 8))))) _ (RI_eq (doAllThings_R.trans (startAct_R.trans (fst_zB))) hR) (RJ_eq (doAllThings_R.trans (startAct_R.trans (fst_zB))) hJ)) (r_cw S k_183 k_180 k_181 k_182 k_2 q_X5_endAct ⟨Nat.le_of_ble_eq_true rfl, Nat.le_of_ble_eq_true rfl⟩ rfl rfl) (g_recv hK hP (i := 329) (by omega) cC0 rfl) rfl hl.1 rfl (Nat.le_of_ble_eq_true rfl) dX5_perform_27 ⟨Nat.zero_le _, Nat.zero_le _⟩ hS (fun _ h => h) (fun H locs hP _ _ hS => ?_)
    have hP : cP G a (w_X5_endAct (w_X5_doAllThings (w_X5_startAct (zB z 8 (w_X4_findFault (z.2 8))))) (v_X5_doAllThings (w_X5_startAct (zB z 8 (w_X4_findFault (z.2 8)))))) H := hP
    exact e_int S hr hlk rfl hK hS (cP_eq (show w_X5_perform z  = w_X5_endAct (w_X5_doAllThings (w_X5_startAct (zB z 8 (w_X4_findFault (z.2 8))))) (v_X5_doAllThings (w_X5_startAct (zB z 8 (w_X4_findFault (z.2 8))))) from (if_pos c1).trans rfl) hP) (show v_X5_perform z  = v_X5_endAct (w_X5_doAllThings (w_X5_startAct (zB z 8 (w_X4_findFault (z.2 8))))) (v_X5_doAllThings (w_X5_startAct (zB z 8 (w_X4_findFault (z.2 8))))) from (if_pos c1).trans rfl).symm dX5_perform_30
  · skip
    refine lv_bipush (v := -100) hx hb dX5_perform_13 (by decide) ?_
    refine lv_iload_n hx hb dX5_perform_15 rfl (lv_at hl 0 rfl) ?_
    refine lv_isub hx hb dX5_perform_16 ?_
    exact e_int S hr hlk rfl hK hS (cP_eq (show w_X5_perform z  = zB z 8 (w_X4_findFault (z.2 8)) from (if_neg c1).trans rfl) hP) (show v_X5_perform z  = (-100 : Int32) - (v_X4_findFault (z.2 8)) from (if_neg c1).trans rfl).symm dX5_perform_17
