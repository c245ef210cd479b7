def v_X4_add (t : Nat → Nat → Int32) (p1 : Int32) : Int32 := if t 0 1 < 0 then (0 : Int32) else if t 0 1 < (60 : Int32) then (1 : Int32) else (0 : Int32)
def w_X4_add (t : Nat → Nat → Int32) (p1 : Int32) : Nat → Nat → Int32 := if t 0 1 < 0 then t else if t 0 1 < (60 : Int32) then (up (up t 1 ((t 0 1).toNatClampNeg) p1) 0 1 ((t 0 1) + (1 : Int32))) else t
theorem q_X4_add : yX4_add.cls ≠ "java/lang/invoke/MethodHandle" ∧ yX4_add.cls ≠ "java/lang/invoke/VarHandle" ∧ (parseMethodDescriptor yX4_add.desc).map (fun d => d.parameters.length) = some 1 := ⟨by decide, by decide, by decide +kernel⟩
theorem z_X4_add (t : Nat → Nat → Int32) (p1 : Int32) : narrow .boolean (.int (v_X4_add t p1)) = .int (v_X4_add t p1) := by
  unfold v_X4_add
  exact z_ite z_0 (z_ite z_1 z_0)
set_option maxHeartbeats 4000000 in
set_option maxRecDepth 100000 in
theorem c_X4_add (l : Launch) (G : kG) (a : Nat → Nat) (hI : gI 2 a) (t : Nat → Nat → Int32) (p1 : Int32) (hc1 : vp_nar .char p1 = p1) : Met l yX4_add (Cond.code yX4_add cX4_add 2 (some .boolean) :: BIG) (rmK 0) (pcG G (tP G a t) [.ref (a 0), .int p1]) (qcI G (gA 2 a) (tP G a (w_X4_add t p1)) (v_X4_add t p1)) 0 0 (gA 2 a) := by
  refine m_start (by decide) (Nat.le_of_ble_eq_true rfl) ?_
  intro p e s m args below meth c S hr hlk hnm hP hK ls hl
  have hx := S.1
  have hb := S.2.1
  have hown := S.2.2.2.1
  have hS : va_S (gA 2 a) s.heap s.heap [] := va_S.rf
  have hl : lv_has ls 2 [(0, .ref (a 0)), (1, .int p1)] := hl
  refine lv_aload_n hx hb dX4_add_0 rfl (lv_at hl 0 rfl) ?_
  refine g_get S hK hP (i := 0) (by omega) tC0 rfl inlX4 1 (by decide) k_497 (v := .int (t 0 1)) rfl dX4_add_1 ?_
  refine lv_if_lt (tgt := 19) hx hb dX4_add_4 (by decide) (fun c1 => ?_) (fun c1 => ?_)
  · skip
    refine lv_iconst (v := 0) hx hb dX4_add_19 (by decide) ?_
    exact e_int S hr hlk rfl hK hS (gP_eq (show w_X4_add t p1 = t from (if_pos c1).trans rfl) hP) (show v_X4_add t p1 = (0 : Int32) from (if_pos c1).trans rfl).symm dX4_add_20
  · skip
    refine lv_aload_n hx hb dX4_add_7 rfl (lv_at hl 0 rfl) ?_
    refine g_get S hK hP (i := 0) (by omega) tC0 rfl inlX4 1 (by decide) k_497 (v := .int (t 0 1)) rfl dX4_add_8 ?_
    refine lv_aload_n hx hb dX4_add_11 rfl (lv_at hl 0 rfl) ?_
    refine g_get S hK hP (i := 0) (by omega) tC0 rfl inlX4 0 (by decide) k_62 (v := .ref (a 1)) rfl dX4_add_12 ?_
    refine g_alen S hK hP (i := 1) (by omega) (tC1 _) 1 rfl (v := 60) rfl dX4_add_15 ?_
    refine lv_icmp_lt (tgt := 21) hx hb dX4_add_16 (by decide) (fun c2 => ?_) (fun c2 => ?_)
    · skip
      refine lv_aload_n hx hb dX4_add_21 rfl (lv_at hl 0 rfl) ?_
      refine g_get S hK hP (i := 0) (by omega) tC0 rfl inlX4 0 (by decide) k_62 (v := .ref (a 1)) rfl dX4_add_22 ?_
      refine lv_aload_n hx hb dX4_add_25 rfl (lv_at hl 0 rfl) ?_
      refine g_get S hK hP (i := 0) (by omega) tC0 rfl inlX4 1 (by decide) k_497 (v := .int (t 0 1)) rfl dX4_add_26 ?_
      refine lv_iload_n hx hb dX4_add_29 rfl (lv_at hl 1 rfl) ?_
      refine g_cast S hK hP hI hS (i := 1) (by omega) tC1 (vp_of (vp_lo1 c1) (vp_hi2 (n := 60) c2 rfl (by decide))) hc1 dX4_add_30 (fun H locs hP hS => ?_)
      have hP : tP G a (up t 1 ((t 0 1).toNatClampNeg) p1) H := hP
      refine lv_aload_n hx hb dX4_add_31 rfl (lv_at hl 0 rfl) ?_
      refine lv_dup hx hb dX4_add_32 rfl ?_
      refine g_get S hK hP (i := 0) (by omega) tC0 rfl inlX4 1 (by decide) k_497 (v := .int (t 0 1)) (congrArg Value.int ((up_ni (by omega)).trans rfl)) dX4_add_33 ?_
      refine lv_iconst (v := 1) hx hb dX4_add_36 (by decide) ?_
      refine lv_iadd hx hb dX4_add_37 ?_
      refine g_put S hK hP hI hS (i := 0) (by omega) tC0 rfl inlX4 tyX4 tyX4_ok nmX4 tF_n 1 (by decide) k_497 rfl pI rfl rfl (fun _ => rfl) dX4_add_38 (fun H locs hP hS => ?_)
      have hP : tP G a (up (up t 1 ((t 0 1).toNatClampNeg) p1) 0 1 ((t 0 1) + (1 : Int32))) H := hP
      refine lv_iconst (v := 1) hx hb dX4_add_41 (by decide) ?_
      exact e_int S hr hlk rfl hK hS (gP_eq (show w_X4_add t p1 = up (up t 1 ((t 0 1).toNatClampNeg) p1) 0 1 ((t 0 1) + (1 : Int32)) from (if_neg c1).trans ((if_pos c2).trans rfl)) hP) (show v_X4_add t p1 = (1 : Int32) from (if_neg c1).trans ((if_pos c2).trans rfl)).symm dX4_add_42
    · skip
      refine lv_iconst (v := 0) hx hb dX4_add_19 (by decide) ?_
      exact e_int S hr hlk rfl hK hS (gP_eq (show w_X4_add t p1 = t from (if_neg c1).trans ((if_neg c2).trans rfl)) hP) (show v_X4_add t p1 = (0 : Int32) from (if_neg c1).trans ((if_neg c2).trans rfl)).symm dX4_add_20

def w_X4_goToStart (t : Nat → Nat → Int32) : Nat → Nat → Int32 := up t 0 2 (0 : Int32)
theorem q_X4_goToStart : yX4_goToStart.cls ≠ "java/lang/invoke/MethodHandle" ∧ yX4_goToStart.cls ≠ "java/lang/invoke/VarHandle" ∧ (parseMethodDescriptor yX4_goToStart.desc).map (fun d => d.parameters.length) = some 0 := ⟨by decide, by decide, by decide +kernel⟩
set_option maxHeartbeats 4000000 in
set_option maxRecDepth 100000 in
theorem c_X4_goToStart (l : Launch) (G : kG) (a : Nat → Nat) (hI : gI 2 a) (t : Nat → Nat → Int32) : Met l yX4_goToStart (Cond.code yX4_goToStart cX4_goToStart 1 none :: BIG) (rmK 0) (pcG G (tP G a t) [.ref (a 0)]) (qcV G (gA 2 a) (tP G a (w_X4_goToStart t))) 0 0 (gA 2 a) := by
  refine m_start (by decide) (Nat.le_of_ble_eq_true rfl) ?_
  intro p e s m args below meth c S hr hlk hnm hP hK ls hl
  have hx := S.1
  have hb := S.2.1
  have hown := S.2.2.2.1
  have hS : va_S (gA 2 a) s.heap s.heap [] := va_S.rf
  have hl : lv_has ls 1 [(0, .ref (a 0))] := hl
  refine lv_aload_n hx hb dX4_goToStart_0 rfl (lv_at hl 0 rfl) ?_
  refine lv_iconst (v := 0) hx hb dX4_goToStart_1 (by decide) ?_
  refine g_put S hK hP hI hS (i := 0) (by omega) tC0 rfl inlX4 tyX4 tyX4_ok nmX4 tF_n 2 (by decide) k_519 rfl pI rfl rfl (fun _ => rfl) dX4_goToStart_2 (fun H locs hP hS => ?_)
  have hP : tP G a (up t 0 2 (0 : Int32)) H := hP
  exact e_void S hr hlk hK hS (gP_eq (show w_X4_goToStart t  = up t 0 2 (0 : Int32) from rfl) hP) dX4_goToStart_5

def v_X4_digitAtPlace (t : Nat → Nat → Int32) : Int32 := if t 0 2 < 0 then (-1 : Int32) else if t 0 1 ≤ t 0 2 then (-1 : Int32) else if t 0 2 < (60 : Int32) then (if t 1 ((t 0 2).toNatClampNeg) < (48 : Int32) then (-1 : Int32) else if (57 : Int32) < t 1 ((t 0 2).toNatClampNeg) then (-1 : Int32) else (t 1 ((t 0 2).toNatClampNeg)) - (48 : Int32)) else (-1 : Int32)
theorem q_X4_digitAtPlace : yX4_digitAtPlace.cls ≠ "java/lang/invoke/MethodHandle" ∧ yX4_digitAtPlace.cls ≠ "java/lang/invoke/VarHandle" ∧ (parseMethodDescriptor yX4_digitAtPlace.desc).map (fun d => d.parameters.length) = some 0 := ⟨by decide, by decide, by decide +kernel⟩
set_option maxHeartbeats 4000000 in
set_option maxRecDepth 100000 in
theorem c_X4_digitAtPlace (l : Launch) (G : kG) (a : Nat → Nat) (hI : gI 2 a) (t : Nat → Nat → Int32) : Met l yX4_digitAtPlace (Cond.code yX4_digitAtPlace cX4_digitAtPlace 2 (some .int) :: BIG) (rmK 0) (pcG G (tP G a t) [.ref (a 0)]) (qcI G (gA 2 a) (tP G a t) (v_X4_digitAtPlace t)) 0 0 (gA 2 a) := by
  refine m_start (by decide) (Nat.le_of_ble_eq_true rfl) ?_
  intro p e s m args below meth c S hr hlk hnm hP hK ls hl
  have hx := S.1
  have hb := S.2.1
  have hown := S.2.2.2.1
  have hS : va_S (gA 2 a) s.heap s.heap [] := va_S.rf
  have hl : lv_has ls 2 [(0, .ref (a 0))] := hl
  refine lv_aload_n hx hb dX4_digitAtPlace_0 rfl (lv_at hl 0 rfl) ?_
  refine g_get S hK hP (i := 0) (by omega) tC0 rfl inlX4 2 (by decide) k_519 (v := .int (t 0 2)) rfl dX4_digitAtPlace_1 ?_
  refine lv_if_lt (tgt := 30) hx hb dX4_digitAtPlace_4 (by decide) (fun c1 => ?_) (fun c1 => ?_)
  · skip
    refine lv_iconst (v := -1) hx hb dX4_digitAtPlace_30 (by decide) ?_
    exact e_int S hr hlk rfl hK hS hP (show v_X4_digitAtPlace t  = (-1 : Int32) from (if_pos c1).trans rfl).symm dX4_digitAtPlace_31
  · skip
    refine lv_aload_n hx hb dX4_digitAtPlace_7 rfl (lv_at hl 0 rfl) ?_
    refine g_get S hK hP (i := 0) (by omega) tC0 rfl inlX4 2 (by decide) k_519 (v := .int (t 0 2)) rfl dX4_digitAtPlace_8 ?_
    refine lv_aload_n hx hb dX4_digitAtPlace_11 rfl (lv_at hl 0 rfl) ?_
    refine g_get S hK hP (i := 0) (by omega) tC0 rfl inlX4 1 (by decide) k_497 (v := .int (t 0 1)) rfl dX4_digitAtPlace_12 ?_
    refine lv_icmp_ge (tgt := 30) hx hb dX4_digitAtPlace_15 (by decide) (fun c2 => ?_) (fun c2 => ?_)
    · skip
      refine lv_iconst (v := -1) hx hb dX4_digitAtPlace_30 (by decide) ?_
      exact e_int S hr hlk rfl hK hS hP (show v_X4_digitAtPlace t  = (-1 : Int32) from (if_neg c1).trans ((if_pos c2).trans rfl)).symm dX4_digitAtPlace_31
    · skip
      refine lv_aload_n hx hb dX4_digitAtPlace_18 rfl (lv_at hl 0 rfl) ?_
      refine g_get S hK hP (i := 0) (by omega) tC0 rfl inlX4 2 (by decide) k_519 (v := .int (t 0 2)) rfl dX4_digitAtPlace_19 ?_
      refine lv_aload_n hx hb dX4_digitAtPlace_22 rfl (lv_at hl 0 rfl) ?_
      refine g_get S hK hP (i := 0) (by omega) tC0 rfl inlX4 0 (by decide) k_62 (v := .ref (a 1)) rfl dX4_digitAtPlace_23 ?_
      refine g_alen S hK hP (i := 1) (by omega) (tC1 _) 1 rfl (v := 60) rfl dX4_digitAtPlace_26 ?_
      refine lv_icmp_lt (tgt := 32) hx hb dX4_digitAtPlace_27 (by decide) (fun c3 => ?_) (fun c3 => ?_)
      · skip
        refine lv_aload_n hx hb dX4_digitAtPlace_32 rfl (lv_at hl 0 rfl) ?_
        refine g_get S hK hP (i := 0) (by omega) tC0 rfl inlX4 0 (by decide) k_62 (v := .ref (a 1)) rfl dX4_digitAtPlace_33 ?_
        refine lv_aload_n hx hb dX4_digitAtPlace_36 rfl (lv_at hl 0 rfl) ?_
        refine g_get S hK hP (i := 0) (by omega) tC0 rfl inlX4 2 (by decide) k_519 (v := .int (t 0 2)) rfl dX4_digitAtPlace_37 ?_
        refine g_cald S hK hP (i := 1) (by omega) tC1 (vp_of (vp_lo1 c1) (vp_hi2 (n := 60) c3 rfl (by decide))) (v := t 1 ((t 0 2).toNatClampNeg)) (rfl) dX4_digitAtPlace_40 ?_
        refine lv_istore_n (lv' := [(1, .int (t 1 ((t 0 2).toNatClampNeg))), (0, .ref (a 0))]) hx hb dX4_digitAtPlace_41 rfl hl (by decide) rfl (fun ls hl => ?_)
        refine lv_iload_n hx hb dX4_digitAtPlace_42 rfl (lv_at hl 0 rfl) ?_
        refine lv_bipush (v := 48) hx hb dX4_digitAtPlace_43 (by decide) ?_
        refine lv_icmp_lt (tgt := 61) hx hb dX4_digitAtPlace_45 (by decide) (fun c4 => ?_) (fun c4 => ?_)
        · skip
          refine lv_iconst (v := -1) hx hb dX4_digitAtPlace_61 (by decide) ?_
          exact e_int S hr hlk rfl hK hS hP (show v_X4_digitAtPlace t  = (-1 : Int32) from (if_neg c1).trans ((if_neg c2).trans ((if_pos c3).trans ((if_pos c4).trans rfl)))).symm dX4_digitAtPlace_62
        · skip
          refine lv_iload_n hx hb dX4_digitAtPlace_48 rfl (lv_at hl 0 rfl) ?_
          refine lv_bipush (v := 57) hx hb dX4_digitAtPlace_49 (by decide) ?_
          refine lv_icmp_gt (tgt := 61) hx hb dX4_digitAtPlace_51 (by decide) (fun c5 => ?_) (fun c5 => ?_)
          · skip
            refine lv_iconst (v := -1) hx hb dX4_digitAtPlace_61 (by decide) ?_
            exact e_int S hr hlk rfl hK hS hP (show v_X4_digitAtPlace t  = (-1 : Int32) from (if_neg c1).trans ((if_neg c2).trans ((if_pos c3).trans ((if_neg c4).trans ((if_pos c5).trans rfl))))).symm dX4_digitAtPlace_62
          · skip
            refine lv_iload_n hx hb dX4_digitAtPlace_54 rfl (lv_at hl 0 rfl) ?_
            refine lv_bipush (v := 48) hx hb dX4_digitAtPlace_55 (by decide) ?_
            refine lv_isub hx hb dX4_digitAtPlace_57 ?_
            refine lv_goto (tgt := 62) hx hb dX4_digitAtPlace_58 (by decide) ?_
            exact e_int S hr hlk rfl hK hS hP (show v_X4_digitAtPlace t  = (t 1 ((t 0 2).toNatClampNeg)) - (48 : Int32) from (if_neg c1).trans ((if_neg c2).trans ((if_pos c3).trans ((if_neg c4).trans ((if_neg c5).trans rfl))))).symm dX4_digitAtPlace_62
      · skip
        refine lv_iconst (v := -1) hx hb dX4_digitAtPlace_30 (by decide) ?_
        exact e_int S hr hlk rfl hK hS hP (show v_X4_digitAtPlace t  = (-1 : Int32) from (if_neg c1).trans ((if_neg c2).trans ((if_neg c3).trans rfl))).symm dX4_digitAtPlace_31

def v_X4_skip (t : Nat → Nat → Int32) (p1 : Int32) : Int32 := if t 0 2 < 0 then (0 : Int32) else if t 0 1 ≤ t 0 2 then (0 : Int32) else if (60 : Int32) ≤ t 0 2 then (0 : Int32) else if t 1 ((t 0 2).toNatClampNeg) = p1 then (1 : Int32) else (0 : Int32)
def w_X4_skip (t : Nat → Nat → Int32) (p1 : Int32) : Nat → Nat → Int32 := if t 0 2 < 0 then t else if t 0 1 ≤ t 0 2 then t else if (60 : Int32) ≤ t 0 2 then t else if t 1 ((t 0 2).toNatClampNeg) = p1 then (up t 0 2 ((t 0 2) + (1 : Int32))) else t
theorem q_X4_skip : yX4_skip.cls ≠ "java/lang/invoke/MethodHandle" ∧ yX4_skip.cls ≠ "java/lang/invoke/VarHandle" ∧ (parseMethodDescriptor yX4_skip.desc).map (fun d => d.parameters.length) = some 1 := ⟨by decide, by decide, by decide +kernel⟩
theorem z_X4_skip (t : Nat → Nat → Int32) (p1 : Int32) : narrow .boolean (.int (v_X4_skip t p1)) = .int (v_X4_skip t p1) := by
  unfold v_X4_skip
  exact z_ite z_0 (z_ite z_0 (z_ite z_0 (z_ite z_1 z_0)))
set_option maxHeartbeats 4000000 in
set_option maxRecDepth 100000 in
theorem c_X4_skip (l : Launch) (G : kG) (a : Nat → Nat) (hI : gI 2 a) (t : Nat → Nat → Int32) (p1 : Int32) : Met l yX4_skip (Cond.code yX4_skip cX4_skip 2 (some .boolean) :: BIG) (rmK 0) (pcG G (tP G a t) [.ref (a 0), .int p1]) (qcI G (gA 2 a) (tP G a (w_X4_skip t p1)) (v_X4_skip t p1)) 0 0 (gA 2 a) := by
  refine m_start (by decide) (Nat.le_of_ble_eq_true rfl) ?_
  intro p e s m args below meth c S hr hlk hnm hP hK ls hl
  have hx := S.1
  have hb := S.2.1
  have hown := S.2.2.2.1
  have hS : va_S (gA 2 a) s.heap s.heap [] := va_S.rf
  have hl : lv_has ls 2 [(0, .ref (a 0)), (1, .int p1)] := hl
  refine lv_aload_n hx hb dX4_skip_0 rfl (lv_at hl 0 rfl) ?_
  refine g_get S hK hP (i := 0) (by omega) tC0 rfl inlX4 2 (by decide) k_519 (v := .int (t 0 2)) rfl dX4_skip_1 ?_
  refine lv_if_lt (tgt := 43) hx hb dX4_skip_4 (by decide) (fun c1 => ?_) (fun c1 => ?_)
  · skip
    refine lv_iconst (v := 0) hx hb dX4_skip_43 (by decide) ?_
    exact e_int S hr hlk rfl hK hS (gP_eq (show w_X4_skip t p1 = t from (if_pos c1).trans rfl) hP) (show v_X4_skip t p1 = (0 : Int32) from (if_pos c1).trans rfl).symm dX4_skip_44
  · skip
    refine lv_aload_n hx hb dX4_skip_7 rfl (lv_at hl 0 rfl) ?_
    refine g_get S hK hP (i := 0) (by omega) tC0 rfl inlX4 2 (by decide) k_519 (v := .int (t 0 2)) rfl dX4_skip_8 ?_
    refine lv_aload_n hx hb dX4_skip_11 rfl (lv_at hl 0 rfl) ?_
    refine g_get S hK hP (i := 0) (by omega) tC0 rfl inlX4 1 (by decide) k_497 (v := .int (t 0 1)) rfl dX4_skip_12 ?_
    refine lv_icmp_ge (tgt := 43) hx hb dX4_skip_15 (by decide) (fun c2 => ?_) (fun c2 => ?_)
    · skip
      refine lv_iconst (v := 0) hx hb dX4_skip_43 (by decide) ?_
      exact e_int S hr hlk rfl hK hS (gP_eq (show w_X4_skip t p1 = t from (if_neg c1).trans ((if_pos c2).trans rfl)) hP) (show v_X4_skip t p1 = (0 : Int32) from (if_neg c1).trans ((if_pos c2).trans rfl)).symm dX4_skip_44
    · skip
      refine lv_aload_n hx hb dX4_skip_18 rfl (lv_at hl 0 rfl) ?_
      refine g_get S hK hP (i := 0) (by omega) tC0 rfl inlX4 2 (by decide) k_519 (v := .int (t 0 2)) rfl dX4_skip_19 ?_
      refine lv_aload_n hx hb dX4_skip_22 rfl (lv_at hl 0 rfl) ?_
      refine g_get S hK hP (i := 0) (by omega) tC0 rfl inlX4 0 (by decide) k_62 (v := .ref (a 1)) rfl dX4_skip_23 ?_
      refine g_alen S hK hP (i := 1) (by omega) (tC1 _) 1 rfl (v := 60) rfl dX4_skip_26 ?_
      refine lv_icmp_ge (tgt := 43) hx hb dX4_skip_27 (by decide) (fun c3 => ?_) (fun c3 => ?_)
      · skip
        refine lv_iconst (v := 0) hx hb dX4_skip_43 (by decide) ?_
        exact e_int S hr hlk rfl hK hS (gP_eq (show w_X4_skip t p1 = t from (if_neg c1).trans ((if_neg c2).trans ((if_pos c3).trans rfl))) hP) (show v_X4_skip t p1 = (0 : Int32) from (if_neg c1).trans ((if_neg c2).trans ((if_pos c3).trans rfl))).symm dX4_skip_44
      · skip
        refine lv_aload_n hx hb dX4_skip_30 rfl (lv_at hl 0 rfl) ?_
        refine g_get S hK hP (i := 0) (by omega) tC0 rfl inlX4 0 (by decide) k_62 (v := .ref (a 1)) rfl dX4_skip_31 ?_
        refine lv_aload_n hx hb dX4_skip_34 rfl (lv_at hl 0 rfl) ?_
        refine g_get S hK hP (i := 0) (by omega) tC0 rfl inlX4 2 (by decide) k_519 (v := .int (t 0 2)) rfl dX4_skip_35 ?_
        refine g_cald S hK hP (i := 1) (by omega) tC1 (vp_of (vp_lo1 c1) (vp_hi1 (n := 60) c3 rfl (by decide))) (v := t 1 ((t 0 2).toNatClampNeg)) (rfl) dX4_skip_38 ?_
        refine lv_iload_n hx hb dX4_skip_39 rfl (lv_at hl 1 rfl) ?_
        refine lv_icmp_eq (tgt := 45) hx hb dX4_skip_40 (by decide) (fun c4 => ?_) (fun c4 => ?_)
        · skip
          refine lv_aload_n hx hb dX4_skip_45 rfl (lv_at hl 0 rfl) ?_
          refine lv_dup hx hb dX4_skip_46 rfl ?_
          refine g_get S hK hP (i := 0) (by omega) tC0 rfl inlX4 2 (by decide) k_519 (v := .int (t 0 2)) rfl dX4_skip_47 ?_
          refine lv_iconst (v := 1) hx hb dX4_skip_50 (by decide) ?_
          refine lv_iadd hx hb dX4_skip_51 ?_
          refine g_put S hK hP hI hS (i := 0) (by omega) tC0 rfl inlX4 tyX4 tyX4_ok nmX4 tF_n 2 (by decide) k_519 rfl pI rfl rfl (fun _ => rfl) dX4_skip_52 (fun H locs hP hS => ?_)
          have hP : tP G a (up t 0 2 ((t 0 2) + (1 : Int32))) H := hP
          refine lv_iconst (v := 1) hx hb dX4_skip_55 (by decide) ?_
          exact e_int S hr hlk rfl hK hS (gP_eq (show w_X4_skip t p1 = up t 0 2 ((t 0 2) + (1 : Int32)) from (if_neg c1).trans ((if_neg c2).trans ((if_neg c3).trans ((if_pos c4).trans rfl)))) hP) (show v_X4_skip t p1 = (1 : Int32) from (if_neg c1).trans ((if_neg c2).trans ((if_neg c3).trans ((if_pos c4).trans rfl)))).symm dX4_skip_56
        · skip
          refine lv_iconst (v := 0) hx hb dX4_skip_43 (by decide) ?_
          exact e_int S hr hlk rfl hK hS (gP_eq (show w_X4_skip t p1 = t from (if_neg c1).trans ((if_neg c2).trans ((if_neg c3).trans ((if_neg c4).trans rfl)))) hP) (show v_X4_skip t p1 = (0 : Int32) from (if_neg c1).trans ((if_neg c2).trans ((if_neg c3).trans ((if_neg c4).trans rfl)))).symm dX4_skip_44
