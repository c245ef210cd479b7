/-- the text: how far it is read, how long it is -/
def TI (s : Nat → Int32) : Prop := ∃ p n : Nat, p ≤ n ∧ n ≤ 60 ∧ s 11 = nI p ∧ s 8 = nI n
theorem TI_p {s : Nat → Int32} (h : TI s) : s 11 = nI (sN s 11) := by
  obtain ⟨p, n, h1, h2, h3, h4⟩ := h
  exact (sN_of h3 (by omega)).1
theorem TI_n {s : Nat → Int32} (h : TI s) : s 8 = nI (sN s 8) := by
  obtain ⟨p, n, h1, h2, h3, h4⟩ := h
  exact (sN_of h4 (by omega)).1
theorem TI_le {s : Nat → Int32} (h : TI s) : sN s 11 ≤ sN s 8 := by
  obtain ⟨p, n, h1, h2, h3, h4⟩ := h
  rw [(sN_of h3 (by omega)).2, (sN_of h4 (by omega)).2]; exact h1
theorem TI_60 {s : Nat → Int32} (h : TI s) : sN s 8 ≤ 60 := by
  obtain ⟨p, n, h1, h2, h3, h4⟩ := h
  rw [(sN_of h4 (by omega)).2]; exact h2
theorem TI_lt {s : Nat → Int32} (h : TI s) (hc : ¬ s 8 ≤ s 11) : sN s 11 < sN s 8 := by
  have h60 := TI_60 h
  have hle := TI_le h
  rw [TI_n h, TI_p h] at hc
  rcases Nat.lt_or_ge (sN s 11) (sN s 8) with h1 | h1
  · exact h1
  · exact absurd ((nI_leI (by omega) (by omega)).mpr h1) hc
theorem TI_eq {s s' : Nat → Int32} (h : TI s) (h1 : s' 11 = s 11) (h2 : s' 8 = s 8) : TI s' := by
  obtain ⟨p, n, h3, h4, h5, h6⟩ := h
  exact ⟨p, n, h3, h4, h1.trans h5, h2.trans h6⟩
theorem TI_up7 {u : Nat → Nat → Int32} {i : Nat} {v : Int32} (h : TI (u 0)) : TI (up u 7 i v 0) := TI_eq h (up_ni (by decide)) (up_ni (by decide))
theorem TI_up12 {u : Nat → Nat → Int32} {v : Int32} (h : TI (u 0)) : TI (up u 0 12 v 0) := TI_eq h (up_nk (by decide)) (up_nk (by decide))
theorem TI_inc {u : Nat → Nat → Int32} (h : TI (u 0)) (hc : sN (u 0) 11 < sN (u 0) 8) : TI (up u 0 11 (u 0 11 + (1 : Int32)) 0) := by
  have h60 := TI_60 h
  refine ⟨sN (u 0) 11 + 1, sN (u 0) 8, hc, h60, ?_, (up_nk (by decide)).trans (TI_n h)⟩
  rw [up_same, TI_p h]
  exact nI_1 _
theorem TI_pos {u : Nat → Nat → Int32} (h : TI (u 0)) (hc : sN (u 0) 11 < sN (u 0) 8) : sN (up u 0 11 (u 0 11 + (1 : Int32)) 0) 11 = sN (u 0) 11 + 1 := by
  have h60 := TI_60 h
  have e : up u 0 11 (u 0 11 + (1 : Int32)) 0 11 = nI (sN (u 0) 11 + 1) := by
    rw [up_same, TI_p h]
    exact nI_1 _
  exact (sN_of e (by omega)).2

def v_X6_isNext (u : Nat → Nat → Int32) (p1 : Int32) (p2 : Int32) : Int32 := if u 0 12 = 0 then (if u 0 8 ≤ u 0 11 then (0 : Int32) else if v_X6_in (u 6 (sN (u 0) 11)) p1 p2 = 0 then (0 : Int32) else (1 : Int32)) else (0 : Int32)
theorem q_X6_isNext : yX6_isNext.cls ≠ "java/lang/invoke/MethodHandle" ∧ yX6_isNext.cls ≠ "java/lang/invoke/VarHandle" ∧ (parseMethodDescriptor yX6_isNext.desc).map (fun d => d.parameters.length) = some 2 := ⟨by decide, by decide, by decide +kernel⟩
theorem z_X6_isNext (u : Nat → Nat → Int32) (p1 : Int32) (p2 : Int32) : narrow .boolean (.int (v_X6_isNext u p1 p2)) = .int (v_X6_isNext u p1 p2) := by
  unfold v_X6_isNext
  exact z_ite (z_ite z_0 (z_ite z_0 z_1)) z_0
set_option maxHeartbeats 4000000 in
set_option maxRecDepth 100000 in
theorem c_X6_isNext (l : Launch) (G : kG) (a : Nat → Nat) (hI : gI 8 a) (u : Nat → Nat → Int32) (p1 : Int32) (p2 : Int32) (hT : TI (u 0)) : Met l yX6_isNext (Cond.code yX6_isNext cX6_isNext 3 (some .boolean) :: BIG) (rmK 1) (pcG G (mP G a u) [.ref (a 0), .int p1, .int p2]) (qcI G (gA 8 a) (mP G a u) (v_X6_isNext u p1 p2)) 0 0 (gA 8 a) := by
  refine m_start (by decide) (Nat.le_of_ble_eq_true rfl) ?_
  have h60 := TI_60 hT
  intro p e s m args below meth c S hr hlk hnm hP hK ls hl
  have hx := S.1
  have hb := S.2.1
  have hown := S.2.2.2.1
  have hS : va_S (gA 8 a) s.heap s.heap [] := va_S.rf
  have hl : lv_has ls 3 [(0, .ref (a 0)), (1, .int p1), (2, .int p2)] := hl
  refine lv_aload_n hx hb dX6_isNext_0 rfl (lv_at hl 0 rfl) ?_
  refine g_get S hK hP (i := 0) (by omega) mC0 rfl inlX6 12 (by decide) k_587 (v := .int (u 0 12)) rfl dX6_isNext_1 ?_
  refine lv_if_ne (tgt := 39) hx hb dX6_isNext_4 (by decide) (fun c1 => ?_) (fun c1 => ?_)
  · skip
    refine lv_iconst (v := 0) hx hb dX6_isNext_39 (by decide) ?_
    exact e_int S hr hlk rfl hK hS hP (show v_X6_isNext u p1 p2 = (0 : Int32) from (if_neg c1).trans rfl).symm dX6_isNext_40
  · skip
    refine lv_aload_n hx hb dX6_isNext_7 rfl (lv_at hl 0 rfl) ?_
    refine g_get S hK hP (i := 0) (by omega) mC0 rfl inlX6 11 (by decide) k_588 (v := .int (u 0 11)) rfl dX6_isNext_8 ?_
    refine lv_aload_n hx hb dX6_isNext_11 rfl (lv_at hl 0 rfl) ?_
    refine g_get S hK hP (i := 0) (by omega) mC0 rfl inlX6 8 (by decide) k_502 (v := .int (u 0 8)) rfl dX6_isNext_12 ?_
    refine lv_icmp_ge (tgt := 39) hx hb dX6_isNext_15 (by decide) (fun c2 => ?_) (fun c2 => ?_)
    · skip
      refine lv_iconst (v := 0) hx hb dX6_isNext_39 (by decide) ?_
      exact e_int S hr hlk rfl hK hS hP (show v_X6_isNext u p1 p2 = (0 : Int32) from (if_pos c1).trans ((if_pos c2).trans rfl)).symm dX6_isNext_40
    · skip
      refine lv_aload_n hx hb dX6_isNext_18 rfl (lv_at hl 0 rfl) ?_
      refine g_get S hK hP (i := 0) (by omega) mC0 rfl inlX6 7 (by decide) k_72 (v := .ref (a 6)) rfl dX6_isNext_19 ?_
      refine lv_aload_n hx hb dX6_isNext_22 rfl (lv_at hl 0 rfl) ?_
      refine g_get S hK hP (i := 0) (by omega) mC0 rfl inlX6 11 (by decide) k_588 (v := .int (u 0 11)) rfl dX6_isNext_23 ?_
      have hlt := TI_lt hT c2
      refine r_top (v := nI (sN (u 0) 11)) (TI_p hT) ?_
      refine g_aldN S hK hP (i := 6) (by omega) mC6 (k := sN (u 0) 11) (by omega) (by decide) (v := u 6 (sN (u 0) 11)) (rfl) dX6_isNext_26 ?_
      refine lv_iload_n hx hb dX6_isNext_27 rfl (lv_at hl 1 rfl) ?_
      refine lv_iload_n hx hb dX6_isNext_28 rfl (lv_at hl 2 rfl) ?_
      refine r_callS S hK hP (c_X6_in l G (mP G a u) (gA 8 a) _ _ _ ) (r_cs S k_198 k_196 k_197 k_5 q_X6_in ⟨Nat.le_of_ble_eq_true rfl, Nat.le_of_ble_eq_true rfl⟩ rfl rfl) rfl hl.1 rfl (Nat.le_of_ble_eq_true rfl) dX6_isNext_29 ⟨Nat.zero_le _, Nat.zero_le _⟩ hS (fun _ h => h) (fun H locs hP _ _ hS => ?_)
      have hP : mP G a u H := hP
      refine lv_if_eq (tgt := 39) hx hb dX6_isNext_32 (by decide) (fun c3 => ?_) (fun c3 => ?_)
      · skip
        refine lv_iconst (v := 0) hx hb dX6_isNext_39 (by decide) ?_
        exact e_int S hr hlk rfl hK hS hP (show v_X6_isNext u p1 p2 = (0 : Int32) from (if_pos c1).trans ((if_neg c2).trans ((if_pos c3).trans rfl))).symm dX6_isNext_40
      · skip
        refine lv_iconst (v := 1) hx hb dX6_isNext_35 (by decide) ?_
        refine lv_goto (tgt := 40) hx hb dX6_isNext_36 (by decide) ?_
        exact e_int S hr hlk rfl hK hS hP (show v_X6_isNext u p1 p2 = (1 : Int32) from (if_pos c1).trans ((if_neg c2).trans ((if_neg c3).trans rfl))).symm dX6_isNext_40

def v_X6_takes (u : Nat → Nat → Int32) (p1 : Int32) (p2 : Int32) : Int32 := if u 0 8 ≤ u 0 11 then (if u 0 12 = 0 then (if v_X6_in (0 : Int32) p1 p2 = 0 then ((0 : Int32) - p1) else (0 : Int32) - p1) else (0 : Int32) - p1) else if u 0 12 = 0 then (if v_X6_in (u 6 (sN (u 0) 11)) p1 p2 = 0 then ((u 6 (sN (u 0) 11)) - p1) else (u 6 (sN (u 0) 11)) - p1) else (u 6 (sN (u 0) 11)) - p1
def w_X6_takes (u : Nat → Nat → Int32) (p1 : Int32) (p2 : Int32) : Nat → Nat → Int32 := if u 0 8 ≤ u 0 11 then (if u 0 12 = 0 then (if v_X6_in (0 : Int32) p1 p2 = 0 then (up (up u 0 12 (1 : Int32)) 0 11 ((u 0 11) + (0 : Int32))) else up (up u 0 12 (0 : Int32)) 0 11 ((u 0 11) + (1 : Int32))) else up (up u 0 12 (1 : Int32)) 0 11 ((u 0 11) + (0 : Int32))) else if u 0 12 = 0 then (if v_X6_in (u 6 (sN (u 0) 11)) p1 p2 = 0 then (up (up u 0 12 (1 : Int32)) 0 11 ((u 0 11) + (0 : Int32))) else up (up u 0 12 (0 : Int32)) 0 11 ((u 0 11) + (1 : Int32))) else up (up u 0 12 (1 : Int32)) 0 11 ((u 0 11) + (0 : Int32))
theorem q_X6_takes : yX6_takes.cls ≠ "java/lang/invoke/MethodHandle" ∧ yX6_takes.cls ≠ "java/lang/invoke/VarHandle" ∧ (parseMethodDescriptor yX6_takes.desc).map (fun d => d.parameters.length) = some 2 := ⟨by decide, by decide, by decide +kernel⟩
set_option maxHeartbeats 4000000 in
set_option maxRecDepth 100000 in
theorem c_X6_takes (l : Launch) (G : kG) (a : Nat → Nat) (hI : gI 8 a) (u : Nat → Nat → Int32) (p1 : Int32) (p2 : Int32) (hT : TI (u 0)) : Met l yX6_takes (Cond.code yX6_takes cX6_takes 4 (some .int) :: BIG) (rmK 1) (pcG G (mP G a u) [.ref (a 0), .int p1, .int p2]) (qcI G (gA 8 a) (mP G a (w_X6_takes u p1 p2)) (v_X6_takes u p1 p2)) 0 0 (gA 8 a) := by
  refine m_start (by decide) (Nat.le_of_ble_eq_true rfl) ?_
  have h60 := TI_60 hT
  intro p e s m args below meth c S hr hlk hnm hP hK ls hl
  have hx := S.1
  have hb := S.2.1
  have hown := S.2.2.2.1
  have hS : va_S (gA 8 a) s.heap s.heap [] := va_S.rf
  have hl : lv_has ls 4 [(0, .ref (a 0)), (1, .int p1), (2, .int p2)] := hl
  refine lv_aload_n hx hb dX6_takes_0 rfl (lv_at hl 0 rfl) ?_
  refine g_get S hK hP (i := 0) (by omega) mC0 rfl inlX6 11 (by decide) k_588 (v := .int (u 0 11)) rfl dX6_takes_1 ?_
  refine lv_aload_n hx hb dX6_takes_4 rfl (lv_at hl 0 rfl) ?_
  refine g_get S hK hP (i := 0) (by omega) mC0 rfl inlX6 8 (by decide) k_502 (v := .int (u 0 8)) rfl dX6_takes_5 ?_
  refine lv_icmp_ge (tgt := 23) hx hb dX6_takes_8 (by decide) (fun c1 => ?_) (fun c1 => ?_)
  · skip
    refine lv_iconst (v := 0) hx hb dX6_takes_23 (by decide) ?_
    refine lv_istore_n (lv' := [(3, .int (0 : Int32)), (0, .ref (a 0)), (1, .int p1), (2, .int p2)]) hx hb dX6_takes_24 rfl hl (by decide) rfl (fun ls hl => ?_)
    refine lv_aload_n hx hb dX6_takes_25 rfl (lv_at hl 1 rfl) ?_
    refine lv_aload_n hx hb dX6_takes_26 rfl (lv_at hl 1 rfl) ?_
    refine g_get S hK hP (i := 0) (by omega) mC0 rfl inlX6 12 (by decide) k_587 (v := .int (u 0 12)) rfl dX6_takes_27 ?_
    refine lv_if_ne (tgt := 42) hx hb dX6_takes_30 (by decide) (fun c2 => ?_) (fun c2 => ?_)
    · skip
      refine lv_iconst (v := 1) hx hb dX6_takes_42 (by decide) ?_
      refine lv_goto (tgt := 47) hx hb dX6_takes_43 (by decide) ?_
      refine g_put S hK hP hI hS (i := 0) (by omega) mC0 rfl inlX6 tyX6 tyX6_ok nmX6 mF_n 12 (by decide) k_587 rfl pZ rfl rfl (fun _ => rfl) dX6_takes_47 (fun H locs hP hS => ?_)
      have hP : mP G a (up u 0 12 (1 : Int32)) H := hP
      refine lv_aload_n hx hb dX6_takes_50 rfl (lv_at hl 1 rfl) ?_
      refine lv_dup hx hb dX6_takes_51 rfl ?_
      refine g_get S hK hP (i := 0) (by omega) mC0 rfl inlX6 11 (by decide) k_588 (v := .int (u 0 11)) (congrArg Value.int ((up_nk (by omega)).trans rfl)) dX6_takes_52 ?_
      refine lv_aload_n hx hb dX6_takes_55 rfl (lv_at hl 1 rfl) ?_
      refine g_get S hK hP (i := 0) (by omega) mC0 rfl inlX6 12 (by decide) k_587 (v := .int (1 : Int32)) (congrArg Value.int (up_same)) dX6_takes_56 ?_
      refine lv_if_eq (tgt := 66) hx hb dX6_takes_59 (by decide) (fun c => absurd c (by decide)) (fun _ => ?_)
      refine lv_iconst (v := 0) hx hb dX6_takes_62 (by decide) ?_
      refine lv_goto (tgt := 67) hx hb dX6_takes_63 (by decide) ?_
      refine lv_iadd hx hb dX6_takes_67 ?_
      refine g_put S hK hP hI hS (i := 0) (by omega) mC0 rfl inlX6 tyX6 tyX6_ok nmX6 mF_n 11 (by decide) k_588 rfl pI rfl rfl (fun _ => rfl) dX6_takes_68 (fun H locs hP hS => ?_)
      have hP : mP G a (up (up u 0 12 (1 : Int32)) 0 11 ((u 0 11) + (0 : Int32))) H := hP
      refine lv_iload_n hx hb dX6_takes_71 rfl (lv_at hl 0 rfl) ?_
      refine lv_iload_n hx hb dX6_takes_72 rfl (lv_at hl 2 rfl) ?_
      refine lv_isub hx hb dX6_takes_73 ?_
      exact e_int S hr hlk rfl hK hS (gP_eq (show w_X6_takes u p1 p2 = up (up u 0 12 (1 : Int32)) 0 11 ((u 0 11) + (0 : Int32)) from (if_pos c1).trans ((if_neg c2).trans rfl)) hP) (show v_X6_takes u p1 p2 = (0 : Int32) - p1 from (if_pos c1).trans ((if_neg c2).trans rfl)).symm dX6_takes_74
    · skip
      refine lv_iload_n hx hb dX6_takes_33 rfl (lv_at hl 0 rfl) ?_
      refine lv_iload_n hx hb dX6_takes_34 rfl (lv_at hl 2 rfl) ?_
      refine lv_iload_n hx hb dX6_takes_35 rfl (lv_at hl 3 rfl) ?_
      refine r_callS S hK hP (c_X6_in l G (mP G a u) (gA 8 a) _ _ _ ) (r_cs S k_198 k_196 k_197 k_5 q_X6_in ⟨Nat.le_of_ble_eq_true rfl, Nat.le_of_ble_eq_true rfl⟩ rfl rfl) rfl hl.1 rfl (Nat.le_of_ble_eq_true rfl) dX6_takes_36 ⟨Nat.zero_le _, Nat.zero_le _⟩ hS (fun _ h => h) (fun H locs hP _ _ hS => ?_)
      have hP : mP G a u H := hP
      refine lv_if_ne (tgt := 46) hx hb dX6_takes_39 (by decide) (fun c3 => ?_) (fun c3 => ?_)
      · skip
        refine lv_iconst (v := 0) hx hb dX6_takes_46 (by decide) ?_
        refine g_put S hK hP hI hS (i := 0) (by omega) mC0 rfl inlX6 tyX6 tyX6_ok nmX6 mF_n 12 (by decide) k_587 rfl pZ rfl rfl (fun _ => rfl) dX6_takes_47 (fun H locs hP hS => ?_)
        have hP : mP G a (up u 0 12 (0 : Int32)) H := hP
        refine lv_aload_n hx hb dX6_takes_50 rfl (lv_at hl 1 rfl) ?_
        refine lv_dup hx hb dX6_takes_51 rfl ?_
        refine g_get S hK hP (i := 0) (by omega) mC0 rfl inlX6 11 (by decide) k_588 (v := .int (u 0 11)) (congrArg Value.int ((up_nk (by omega)).trans rfl)) dX6_takes_52 ?_
        refine lv_aload_n hx hb dX6_takes_55 rfl (lv_at hl 1 rfl) ?_
        refine g_get S hK hP (i := 0) (by omega) mC0 rfl inlX6 12 (by decide) k_587 (v := .int (0 : Int32)) (congrArg Value.int (up_same)) dX6_takes_56 ?_
        refine lv_if_eq (tgt := 66) hx hb dX6_takes_59 (by decide) (fun _ => ?_) (fun c => absurd (by decide) c)
        refine lv_iconst (v := 1) hx hb dX6_takes_66 (by decide) ?_
        refine lv_iadd hx hb dX6_takes_67 ?_
        refine g_put S hK hP hI hS (i := 0) (by omega) mC0 rfl inlX6 tyX6 tyX6_ok nmX6 mF_n 11 (by decide) k_588 rfl pI rfl rfl (fun _ => rfl) dX6_takes_68 (fun H locs hP hS => ?_)
        have hP : mP G a (up (up u 0 12 (0 : Int32)) 0 11 ((u 0 11) + (1 : Int32))) H := hP
        refine lv_iload_n hx hb dX6_takes_71 rfl (lv_at hl 0 rfl) ?_
        refine lv_iload_n hx hb dX6_takes_72 rfl (lv_at hl 2 rfl) ?_
        refine lv_isub hx hb dX6_takes_73 ?_
        exact e_int S hr hlk rfl hK hS (gP_eq (show w_X6_takes u p1 p2 = up (up u 0 12 (0 : Int32)) 0 11 ((u 0 11) + (1 : Int32)) from (if_pos c1).trans ((if_pos c2).trans ((if_neg c3).trans rfl))) hP) (show v_X6_takes u p1 p2 = (0 : Int32) - p1 from (if_pos c1).trans ((if_pos c2).trans ((if_neg c3).trans rfl))).symm dX6_takes_74
      · skip
        refine lv_iconst (v := 1) hx hb dX6_takes_42 (by decide) ?_
        refine lv_goto (tgt := 47) hx hb dX6_takes_43 (by decide) ?_
        refine g_put S hK hP hI hS (i := 0) (by omega) mC0 rfl inlX6 tyX6 tyX6_ok nmX6 mF_n 12 (by decide) k_587 rfl pZ rfl rfl (fun _ => rfl) dX6_takes_47 (fun H locs hP hS => ?_)
        have hP : mP G a (up u 0 12 (1 : Int32)) H := hP
        refine lv_aload_n hx hb dX6_takes_50 rfl (lv_at hl 1 rfl) ?_
        refine lv_dup hx hb dX6_takes_51 rfl ?_
        refine g_get S hK hP (i := 0) (by omega) mC0 rfl inlX6 11 (by decide) k_588 (v := .int (u 0 11)) (congrArg Value.int ((up_nk (by omega)).trans rfl)) dX6_takes_52 ?_
        refine lv_aload_n hx hb dX6_takes_55 rfl (lv_at hl 1 rfl) ?_
        refine g_get S hK hP (i := 0) (by omega) mC0 rfl inlX6 12 (by decide) k_587 (v := .int (1 : Int32)) (congrArg Value.int (up_same)) dX6_takes_56 ?_
        refine lv_if_eq (tgt := 66) hx hb dX6_takes_59 (by decide) (fun c => absurd c (by decide)) (fun _ => ?_)
        refine lv_iconst (v := 0) hx hb dX6_takes_62 (by decide) ?_
        refine lv_goto (tgt := 67) hx hb dX6_takes_63 (by decide) ?_
        refine lv_iadd hx hb dX6_takes_67 ?_
        refine g_put S hK hP hI hS (i := 0) (by omega) mC0 rfl inlX6 tyX6 tyX6_ok nmX6 mF_n 11 (by decide) k_588 rfl pI rfl rfl (fun _ => rfl) dX6_takes_68 (fun H locs hP hS => ?_)
        have hP : mP G a (up (up u 0 12 (1 : Int32)) 0 11 ((u 0 11) + (0 : Int32))) H := hP
        refine lv_iload_n hx hb dX6_takes_71 rfl (lv_at hl 0 rfl) ?_
        refine lv_iload_n hx hb dX6_takes_72 rfl (lv_at hl 2 rfl) ?_
        refine lv_isub hx hb dX6_takes_73 ?_
        exact e_int S hr hlk rfl hK hS (gP_eq (show w_X6_takes u p1 p2 = up (up u 0 12 (1 : Int32)) 0 11 ((u 0 11) + (0 : Int32)) from (if_pos c1).trans ((if_pos c2).trans ((if_pos c3).trans rfl))) hP) (show v_X6_takes u p1 p2 = (0 : Int32) - p1 from (if_pos c1).trans ((if_pos c2).trans ((if_pos c3).trans rfl))).symm dX6_takes_74
  · skip
    refine lv_aload_n hx hb dX6_takes_11 rfl (lv_at hl 0 rfl) ?_
    refine g_get S hK hP (i := 0) (by omega) mC0 rfl inlX6 7 (by decide) k_72 (v := .ref (a 6)) rfl dX6_takes_12 ?_
    refine lv_aload_n hx hb dX6_takes_15 rfl (lv_at hl 0 rfl) ?_
    refine g_get S hK hP (i := 0) (by omega) mC0 rfl inlX6 11 (by decide) k_588 (v := .int (u 0 11)) rfl dX6_takes_16 ?_
    have hlt := TI_lt hT c1
    refine r_top (v := nI (sN (u 0) 11)) (TI_p hT) ?_
    refine g_aldN S hK hP (i := 6) (by omega) mC6 (k := sN (u 0) 11) (by omega) (by decide) (v := u 6 (sN (u 0) 11)) (rfl) dX6_takes_19 ?_
    refine lv_goto (tgt := 24) hx hb dX6_takes_20 (by decide) ?_
    refine lv_istore_n (lv' := [(3, .int (u 6 (sN (u 0) 11))), (0, .ref (a 0)), (1, .int p1), (2, .int p2)]) hx hb dX6_takes_24 rfl hl (by decide) rfl (fun ls hl => ?_)
    refine lv_aload_n hx hb dX6_takes_25 rfl (lv_at hl 1 rfl) ?_
    refine lv_aload_n hx hb dX6_takes_26 rfl (lv_at hl 1 rfl) ?_
    refine g_get S hK hP (i := 0) (by omega) mC0 rfl inlX6 12 (by decide) k_587 (v := .int (u 0 12)) rfl dX6_takes_27 ?_
    refine lv_if_ne (tgt := 42) hx hb dX6_takes_30 (by decide) (fun c4 => ?_) (fun c4 => ?_)
    · skip
      refine lv_iconst (v := 1) hx hb dX6_takes_42 (by decide) ?_
      refine lv_goto (tgt := 47) hx hb dX6_takes_43 (by decide) ?_
      refine g_put S hK hP hI hS (i := 0) (by omega) mC0 rfl inlX6 tyX6 tyX6_ok nmX6 mF_n 12 (by decide) k_587 rfl pZ rfl rfl (fun _ => rfl) dX6_takes_47 (fun H locs hP hS => ?_)
      have hP : mP G a (up u 0 12 (1 : Int32)) H := hP
      refine lv_aload_n hx hb dX6_takes_50 rfl (lv_at hl 1 rfl) ?_
      refine lv_dup hx hb dX6_takes_51 rfl ?_
      refine g_get S hK hP (i := 0) (by omega) mC0 rfl inlX6 11 (by decide) k_588 (v := .int (u 0 11)) (congrArg Value.int ((up_nk (by omega)).trans rfl)) dX6_takes_52 ?_
      refine lv_aload_n hx hb dX6_takes_55 rfl (lv_at hl 1 rfl) ?_
      refine g_get S hK hP (i := 0) (by omega) mC0 rfl inlX6 12 (by decide) k_587 (v := .int (1 : Int32)) (congrArg Value.int (up_same)) dX6_takes_56 ?_
      refine lv_if_eq (tgt := 66) hx hb dX6_takes_59 (by decide) (fun c => absurd c (by decide)) (fun _ => ?_)
      refine lv_iconst (v := 0) hx hb dX6_takes_62 (by decide) ?_
      refine lv_goto (tgt := 67) hx hb dX6_takes_63 (by decide) ?_
      refine lv_iadd hx hb dX6_takes_67 ?_
      refine g_put S hK hP hI hS (i := 0) (by omega) mC0 rfl inlX6 tyX6 tyX6_ok nmX6 mF_n 11 (by decide) k_588 rfl pI rfl rfl (fun _ => rfl) dX6_takes_68 (fun H locs hP hS => ?_)
      have hP : mP G a (up (up u 0 12 (1 : Int32)) 0 11 ((u 0 11) + (0 : Int32))) H := hP
      refine lv_iload_n hx hb dX6_takes_71 rfl (lv_at hl 0 rfl) ?_
      refine lv_iload_n hx hb dX6_takes_72 rfl (lv_at hl 2 rfl) ?_
      refine lv_isub hx hb dX6_takes_73 ?_
      exact e_int S hr hlk rfl hK hS (gP_eq (show w_X6_takes u p1 p2 = up (up u 0 12 (1 : Int32)) 0 11 ((u 0 11) + (0 : Int32)) from (if_neg c1).trans ((if_neg c4).trans rfl)) hP) (show v_X6_takes u p1 p2 = (u 6 (sN (u 0) 11)) - p1 from (if_neg c1).trans ((if_neg c4).trans rfl)).symm dX6_takes_74
    · skip
      refine lv_iload_n hx hb dX6_takes_33 rfl (lv_at hl 0 rfl) ?_
      refine lv_iload_n hx hb dX6_takes_34 rfl (lv_at hl 2 rfl) ?_
      refine lv_iload_n hx hb dX6_takes_35 rfl (lv_at hl 3 rfl) ?_
      refine r_callS S hK hP (c_X6_in l G (mP G a u) (gA 8 a) _ _ _ ) (r_cs S k_198 k_196 k_197 k_5 q_X6_in ⟨Nat.le_of_ble_eq_true rfl, Nat.le_of_ble_eq_true rfl⟩ rfl rfl) rfl hl.1 rfl (Nat.le_of_ble_eq_true rfl) dX6_takes_36 ⟨Nat.zero_le _, Nat.zero_le _⟩ hS (fun _ h => h) (fun H locs hP _ _ hS => ?_)
      have hP : mP G a u H := hP
      refine lv_if_ne (tgt := 46) hx hb dX6_takes_39 (by decide) (fun c5 => ?_) (fun c5 => ?_)
      · skip
        refine lv_iconst (v := 0) hx hb dX6_takes_46 (by decide) ?_
        refine g_put S hK hP hI hS (i := 0) (by omega) mC0 rfl inlX6 tyX6 tyX6_ok nmX6 mF_n 12 (by decide) k_587 rfl pZ rfl rfl (fun _ => rfl) dX6_takes_47 (fun H locs hP hS => ?_)
        have hP : mP G a (up u 0 12 (0 : Int32)) H := hP
        refine lv_aload_n hx hb dX6_takes_50 rfl (lv_at hl 1 rfl) ?_
        refine lv_dup hx hb dX6_takes_51 rfl ?_
        refine g_get S hK hP (i := 0) (by omega) mC0 rfl inlX6 11 (by decide) k_588 (v := .int (u 0 11)) (congrArg Value.int ((up_nk (by omega)).trans rfl)) dX6_takes_52 ?_
        refine lv_aload_n hx hb dX6_takes_55 rfl (lv_at hl 1 rfl) ?_
        refine g_get S hK hP (i := 0) (by omega) mC0 rfl inlX6 12 (by decide) k_587 (v := .int (0 : Int32)) (congrArg Value.int (up_same)) dX6_takes_56 ?_
        refine lv_if_eq (tgt := 66) hx hb dX6_takes_59 (by decide) (fun _ => ?_) (fun c => absurd (by decide) c)
        refine lv_iconst (v := 1) hx hb dX6_takes_66 (by decide) ?_
        refine lv_iadd hx hb dX6_takes_67 ?_
        refine g_put S hK hP hI hS (i := 0) (by omega) mC0 rfl inlX6 tyX6 tyX6_ok nmX6 mF_n 11 (by decide) k_588 rfl pI rfl rfl (fun _ => rfl) dX6_takes_68 (fun H locs hP hS => ?_)
        have hP : mP G a (up (up u 0 12 (0 : Int32)) 0 11 ((u 0 11) + (1 : Int32))) H := hP
        refine lv_iload_n hx hb dX6_takes_71 rfl (lv_at hl 0 rfl) ?_
        refine lv_iload_n hx hb dX6_takes_72 rfl (lv_at hl 2 rfl) ?_
        refine lv_isub hx hb dX6_takes_73 ?_
        exact e_int S hr hlk rfl hK hS (gP_eq (show w_X6_takes u p1 p2 = up (up u 0 12 (0 : Int32)) 0 11 ((u 0 11) + (1 : Int32)) from (if_neg c1).trans ((if_pos c4).trans ((if_neg c5).trans rfl))) hP) (show v_X6_takes u p1 p2 = (u 6 (sN (u 0) 11)) - p1 from (if_neg c1).trans ((if_pos c4).trans ((if_neg c5).trans rfl))).symm dX6_takes_74
      · skip
        refine lv_iconst (v := 1) hx hb dX6_takes_42 (by decide) ?_
        refine lv_goto (tgt := 47) hx hb dX6_takes_43 (by decide) ?_
        refine g_put S hK hP hI hS (i := 0) (by omega) mC0 rfl inlX6 tyX6 tyX6_ok nmX6 mF_n 12 (by decide) k_587 rfl pZ rfl rfl (fun _ => rfl) dX6_takes_47 (fun H locs hP hS => ?_)
        have hP : mP G a (up u 0 12 (1 : Int32)) H := hP
        refine lv_aload_n hx hb dX6_takes_50 rfl (lv_at hl 1 rfl) ?_
        refine lv_dup hx hb dX6_takes_51 rfl ?_
        refine g_get S hK hP (i := 0) (by omega) mC0 rfl inlX6 11 (by decide) k_588 (v := .int (u 0 11)) (congrArg Value.int ((up_nk (by omega)).trans rfl)) dX6_takes_52 ?_
        refine lv_aload_n hx hb dX6_takes_55 rfl (lv_at hl 1 rfl) ?_
        refine g_get S hK hP (i := 0) (by omega) mC0 rfl inlX6 12 (by decide) k_587 (v := .int (1 : Int32)) (congrArg Value.int (up_same)) dX6_takes_56 ?_
        refine lv_if_eq (tgt := 66) hx hb dX6_takes_59 (by decide) (fun c => absurd c (by decide)) (fun _ => ?_)
        refine lv_iconst (v := 0) hx hb dX6_takes_62 (by decide) ?_
        refine lv_goto (tgt := 67) hx hb dX6_takes_63 (by decide) ?_
        refine lv_iadd hx hb dX6_takes_67 ?_
        refine g_put S hK hP hI hS (i := 0) (by omega) mC0 rfl inlX6 tyX6 tyX6_ok nmX6 mF_n 11 (by decide) k_588 rfl pI rfl rfl (fun _ => rfl) dX6_takes_68 (fun H locs hP hS => ?_)
        have hP : mP G a (up (up u 0 12 (1 : Int32)) 0 11 ((u 0 11) + (0 : Int32))) H := hP
        refine lv_iload_n hx hb dX6_takes_71 rfl (lv_at hl 0 rfl) ?_
        refine lv_iload_n hx hb dX6_takes_72 rfl (lv_at hl 2 rfl) ?_
        refine lv_isub hx hb dX6_takes_73 ?_
        exact e_int S hr hlk rfl hK hS (gP_eq (show w_X6_takes u p1 p2 = up (up u 0 12 (1 : Int32)) 0 11 ((u 0 11) + (0 : Int32)) from (if_neg c1).trans ((if_pos c4).trans ((if_pos c5).trans rfl))) hP) (show v_X6_takes u p1 p2 = (u 6 (sN (u 0) 11)) - p1 from (if_neg c1).trans ((if_pos c4).trans ((if_pos c5).trans rfl))).symm dX6_takes_74

def tBad (u : Nat → Nat → Int32) : Nat → Nat → Int32 := up (up u 0 12 (1 : Int32)) 0 11 (u 0 11 + (0 : Int32))
def tGood (u : Nat → Nat → Int32) : Nat → Nat → Int32 := up (up u 0 12 (0 : Int32)) 0 11 (u 0 11 + (1 : Int32))
theorem TI_b {u : Nat → Nat → Int32} {w : Int32} (h : TI (u 0)) : TI (up (up u 0 12 w) 0 11 (u 0 11 + (0 : Int32)) 0) := TI_eq h (up_same.trans (Int32.add_zero _)) ((up_nk (by decide)).trans (up_nk (by decide)))
theorem TI_g {u : Nat → Nat → Int32} {w : Int32} (h : TI (u 0)) (hc : sN (u 0) 11 < sN (u 0) 8) : TI (up (up u 0 12 w) 0 11 (u 0 11 + (1 : Int32)) 0) := TI_eq (TI_inc h hc) (up_same.trans up_same.symm) ((up_nk (by decide)).trans ((up_nk (by decide)).trans (up_nk (by decide)).symm))
theorem takes_cs {u : Nat → Nat → Int32} {p1 p2 : Int32} (hle : ¬ p1 ≤ 0) : w_X6_takes u p1 p2 = tBad u ∨ (u 0 12 = 0 ∧ ¬ u 0 8 ≤ u 0 11 ∧ ¬ v_X6_in (u 6 (sN (u 0) 11)) p1 p2 = 0 ∧ w_X6_takes u p1 p2 = tGood u) := by
  unfold w_X6_takes
  by_cases h1 : u 0 8 ≤ u 0 11
  · rw [if_pos h1]
    left
    by_cases h2 : u 0 12 = 0
    · rw [if_pos h2]
      by_cases h3 : v_X6_in (0 : Int32) p1 p2 = 0
      · rw [if_pos h3]; rfl
      · exact absurd (in6 h3).1 hle
    · rw [if_neg h2]; rfl
  · rw [if_neg h1]
    by_cases h2 : u 0 12 = 0
    · rw [if_pos h2]
      by_cases h3 : v_X6_in (u 6 (sN (u 0) 11)) p1 p2 = 0
      · left; rw [if_pos h3]; rfl
      · right; exact ⟨h2, h1, h3, by rw [if_neg h3]; rfl⟩
    · left; rw [if_neg h2]; rfl
theorem takes_TI {u : Nat → Nat → Int32} {p1 p2 : Int32} (h : TI (u 0)) (hle : ¬ p1 ≤ 0) : TI (w_X6_takes u p1 p2 0) := by
  rcases takes_cs (u := u) (p2 := p2) hle with e | ⟨-, h2, -, e⟩
  · rw [e]; exact TI_b h
  · rw [e]; exact TI_g h (TI_lt h h2)
theorem isNext_ok {u : Nat → Nat → Int32} {p1 p2 : Int32} (h : ¬ v_X6_isNext u p1 p2 = 0) : u 0 12 = 0 ∧ ¬ u 0 8 ≤ u 0 11 ∧ ¬ v_X6_in (u 6 (sN (u 0) 11)) p1 p2 = 0 := by
  unfold v_X6_isNext at h
  by_cases h1 : u 0 12 = 0
  · rw [if_pos h1] at h
    by_cases h2 : u 0 8 ≤ u 0 11
    · exact absurd (if_pos h2) h
    · rw [if_neg h2] at h
      by_cases h3 : v_X6_in (u 6 (sN (u 0) 11)) p1 p2 = 0
      · exact absurd (if_pos h3) h
      · exact ⟨h1, h2, h3⟩
  · exact absurd (if_neg h1) h
theorem takes_good {u : Nat → Nat → Int32} {p1 p2 : Int32} (h : ¬ v_X6_isNext u p1 p2 = 0) : w_X6_takes u p1 p2 = tGood u := by
  obtain ⟨h1, h2, h3⟩ := isNext_ok h
  unfold w_X6_takes
  rw [if_neg h2, if_pos h1, if_neg h3]
  rfl
theorem takes_next {u : Nat → Nat → Int32} {p1 p2 : Int32} (hT : TI (u 0)) (h : ¬ v_X6_isNext u p1 p2 = 0) : sN (w_X6_takes u p1 p2 0) 11 = sN (u 0) 11 + 1 := by
  rw [takes_good h]
  have h2 := TI_pos hT (TI_lt hT (isNext_ok h).2.1)
  unfold sN at h2 ⊢
  rw [← h2]
  unfold tGood
  rw [up_same, up_same]

def v_X6_takesNumber_loop (p1 : Int32) (p2 : Int32) : Nat → (Nat → Nat → Int32) → Int32 → Int32 → Int32
  | 0, u1, x3, x4 => x3
  | n + 1, u1, x3, x4 => if x4 = 0 then x3 else if v_X6_isNext u1 (48 : Int32) (57 : Int32) = 0 then (v_X6_takesNumber_loop p1 p2 n u1 x3 (0 : Int32)) else if p2 < (((10 : Int32) * x3) + (u1 6 (sN (u1 0) 11))) - (48 : Int32) then (v_X6_takesNumber_loop p1 p2 n u1 x3 (0 : Int32)) else v_X6_takesNumber_loop p1 p2 n (w_X6_takes u1 (48 : Int32) (57 : Int32)) (((10 : Int32) * x3) + (v_X6_takes u1 (48 : Int32) (57 : Int32))) (1 : Int32)
def w_X6_takesNumber_loop (p1 : Int32) (p2 : Int32) : Nat → (Nat → Nat → Int32) → Int32 → Int32 → (Nat → Nat → Int32)
  | 0, u1, x3, x4 => u1
  | n + 1, u1, x3, x4 => if x4 = 0 then u1 else if v_X6_isNext u1 (48 : Int32) (57 : Int32) = 0 then (w_X6_takesNumber_loop p1 p2 n u1 x3 (0 : Int32)) else if p2 < (((10 : Int32) * x3) + (u1 6 (sN (u1 0) 11))) - (48 : Int32) then (w_X6_takesNumber_loop p1 p2 n u1 x3 (0 : Int32)) else w_X6_takesNumber_loop p1 p2 n (w_X6_takes u1 (48 : Int32) (57 : Int32)) (((10 : Int32) * x3) + (v_X6_takes u1 (48 : Int32) (57 : Int32))) (1 : Int32)
def v_X6_takesNumber (u : Nat → Nat → Int32) (p1 : Int32) (p2 : Int32) : Int32 := if p1 + (v_X6_takes u ((48 : Int32) + p1) (57 : Int32)) ≤ 0 then (v_X6_takesNumber_loop p1 p2 62 (w_X6_takes u ((48 : Int32) + p1) (57 : Int32)) (p1 + (v_X6_takes u ((48 : Int32) + p1) (57 : Int32))) (0 : Int32)) else v_X6_takesNumber_loop p1 p2 62 (w_X6_takes u ((48 : Int32) + p1) (57 : Int32)) (p1 + (v_X6_takes u ((48 : Int32) + p1) (57 : Int32))) (1 : Int32)
def w_X6_takesNumber (u : Nat → Nat → Int32) (p1 : Int32) (p2 : Int32) : Nat → Nat → Int32 := if p1 + (v_X6_takes u ((48 : Int32) + p1) (57 : Int32)) ≤ 0 then (w_X6_takesNumber_loop p1 p2 62 (w_X6_takes u ((48 : Int32) + p1) (57 : Int32)) (p1 + (v_X6_takes u ((48 : Int32) + p1) (57 : Int32))) (0 : Int32)) else w_X6_takesNumber_loop p1 p2 62 (w_X6_takes u ((48 : Int32) + p1) (57 : Int32)) (p1 + (v_X6_takes u ((48 : Int32) + p1) (57 : Int32))) (1 : Int32)
theorem q_X6_takesNumber : yX6_takesNumber.cls ≠ "java/lang/invoke/MethodHandle" ∧ yX6_takesNumber.cls ≠ "java/lang/invoke/VarHandle" ∧ (parseMethodDescriptor yX6_takesNumber.desc).map (fun d => d.parameters.length) = some 2 := ⟨by decide, by decide, by decide +kernel⟩
set_option maxHeartbeats 4000000 in
set_option maxRecDepth 100000 in
theorem c_X6_takesNumber (l : Launch) (G : kG) (a : Nat → Nat) (hI : gI 8 a) (u : Nat → Nat → Int32) (p1 : Int32) (p2 : Int32) (hT : TI (u 0)) (hl1 : ¬ (48 : Int32) + p1 ≤ 0) : Met l yX6_takesNumber (Cond.code yX6_takesNumber cX6_takesNumber 5 (some .int) :: BIG) (rmK 2) (pcG G (mP G a u) [.ref (a 0), .int p1, .int p2]) (qcI G (gA 8 a) (mP G a (w_X6_takesNumber u p1 p2)) (v_X6_takesNumber u p1 p2)) 0 0 (gA 8 a) := by
  refine m_start (by decide) (Nat.le_of_ble_eq_true rfl) ?_
  intro p e s m args below meth c S hr hlk hnm hP hK ls hl
  have hx := S.1
  have hb := S.2.1
  have hown := S.2.2.2.1
  have hS : va_S (gA 8 a) s.heap s.heap [] := va_S.rf
  have hl : lv_has ls 5 [(0, .ref (a 0)), (1, .int p1), (2, .int p2)] := hl
  refine lv_iload_n hx hb dX6_takesNumber_0 rfl (lv_at hl 1 rfl) ?_
  refine lv_aload_n hx hb dX6_takesNumber_1 rfl (lv_at hl 0 rfl) ?_
  refine lv_bipush (v := 48) hx hb dX6_takesNumber_2 (by decide) ?_
  refine lv_iload_n hx hb dX6_takesNumber_4 rfl (lv_at hl 1 rfl) ?_
  refine lv_iadd hx hb dX6_takesNumber_5 ?_
  refine lv_bipush (v := 57) hx hb dX6_takesNumber_6 (by decide) ?_
  refine r_callI S hK hP (c_X6_takes l G a hI u _ _ hT) (r_cw S k_605 k_602 k_603 k_604 k_5 q_X6_takes ⟨Nat.le_of_ble_eq_true rfl, Nat.le_of_ble_eq_true rfl⟩ rfl rfl) (g_recv hK hP (i := 0) (by omega) mC0 rfl) rfl hl.1 rfl (Nat.le_of_ble_eq_true rfl) dX6_takesNumber_8 ⟨Nat.zero_le _, Nat.zero_le _⟩ hS (fun _ h => h) (fun H locs hP _ _ hS => ?_)
  have hP : mP G a (w_X6_takes u ((48 : Int32) + p1) (57 : Int32)) H := hP
  refine lv_iadd hx hb dX6_takesNumber_11 ?_
  refine lv_istore_n (lv' := [(3, .int (p1 + (v_X6_takes u ((48 : Int32) + p1) (57 : Int32)))), (0, .ref (a 0)), (1, .int p1), (2, .int p2)]) hx hb dX6_takesNumber_12 rfl hl (by decide) rfl (fun ls hl => ?_)
  refine lv_iload_n hx hb dX6_takesNumber_13 rfl (lv_at hl 0 rfl) ?_
  refine lv_if_le (tgt := 21) hx hb dX6_takesNumber_14 (by decide) (fun c1 => ?_) (fun c1 => ?_)
  · skip
    refine lv_iconst (v := 0) hx hb dX6_takesNumber_21 (by decide) ?_
    refine lv_istore (lv' := [(4, .int (0 : Int32)), (3, .int (p1 + (v_X6_takes u ((48 : Int32) + p1) (57 : Int32)))), (0, .ref (a 0)), (1, .int p1), (2, .int p2)]) hx hb dX6_takesNumber_22 hl (by decide) rfl (fun ls hl => ?_)
    have LP_loop : ∀ (n : Nat), True → ∀ (u1 : Nat → Nat → Int32) (x3 : Int32) (x4 : Int32) (H : Heap) (locs : List Loc), mP G a u1 H → va_S (gA 8 a) s.heap H locs → TI (u1 0) → x4 = 0 ∨ 62 ≤ sN (u1 0) 11 + n → ∀ ls : Array Slot, lv_has ls 5 [(4, .int x4), (3, .int x3), (0, .ref (a 0)), (1, .int p1), (2, .int p2)] → W p l e (rmK 2) s m args below meth c H locs 0 0 (MQ below (qcI G (gA 8 a) (mP G a (w_X6_takesNumber_loop p1 p2 n u1 x3 x4)) (v_X6_takesNumber_loop p1 p2 n u1 x3 x4)) args s 0 0 (gA 8 a)) (F0 m 24 ls []) := by
      intro n
      induction n with
      | zero =>
        intro  hk_LP_loop u1 x3 x4 H locs hP hS hT1 hm_ ls hl
        have h60 := TI_60 hT1
        have hle := TI_le hT1
        refine lv_iload hx hb dX6_takesNumber_24 (lv_at hl 0 rfl) ?_
        refine lv_if_eq (tgt := 94) hx hb dX6_takesNumber_26 (by decide) (fun _ => ?_) (fun c => absurd (hm_.elim id (fun z => absurd z (by omega))) c)
        refine lv_iload_n hx hb dX6_takesNumber_94 rfl (lv_at hl 1 rfl) ?_
        exact e_int S hr hlk rfl hK hS (gP_eq (show w_X6_takesNumber_loop p1 p2 0 u1 x3 x4 = u1 from rfl) hP) (show v_X6_takesNumber_loop p1 p2 0 u1 x3 x4 = x3 from rfl).symm dX6_takesNumber_95
      | succ n ih_LP_loop =>
        intro  hk_LP_loop u1 x3 x4 H locs hP hS hT1 hm_ ls hl
        have h60 := TI_60 hT1
        have hle := TI_le hT1
        refine lv_iload hx hb dX6_takesNumber_24 (lv_at hl 0 rfl) ?_
        refine lv_if_eq (tgt := 94) hx hb dX6_takesNumber_26 (by decide) (fun c2 => ?_) (fun c2 => ?_)
        · skip
          refine lv_iload_n hx hb dX6_takesNumber_94 rfl (lv_at hl 1 rfl) ?_
          exact e_int S hr hlk rfl hK hS (gP_eq (show w_X6_takesNumber_loop p1 p2 (n + 1) u1 x3 x4 = u1 from (if_pos c2).trans rfl) hP) (show v_X6_takesNumber_loop p1 p2 (n + 1) u1 x3 x4 = x3 from (if_pos c2).trans rfl).symm dX6_takesNumber_95
        · skip
          refine lv_aload_n hx hb dX6_takesNumber_29 rfl (lv_at hl 2 rfl) ?_
          refine lv_bipush (v := 48) hx hb dX6_takesNumber_30 (by decide) ?_
          refine lv_bipush (v := 57) hx hb dX6_takesNumber_32 (by decide) ?_
          refine r_callI S hK hP (c_X6_isNext l G a hI u1 _ _ hT1) (r_cw S k_609 k_606 k_607 k_608 k_5 q_X6_isNext ⟨Nat.le_of_ble_eq_true rfl, Nat.le_of_ble_eq_true rfl⟩ rfl rfl) (g_recv hK hP (i := 0) (by omega) mC0 rfl) rfl hl.1 rfl (Nat.le_of_ble_eq_true rfl) dX6_takesNumber_34 ⟨Nat.zero_le _, Nat.zero_le _⟩ hS (fun _ h => h) (fun H locs hP _ _ hS => ?_)
          have hP : mP G a u1 H := hP
          refine lv_if_eq (tgt := 65) hx hb dX6_takesNumber_37 (by decide) (fun c3 => ?_) (fun c3 => ?_)
          · skip
            refine lv_iconst (v := 0) hx hb dX6_takesNumber_65 (by decide) ?_
            refine lv_istore (lv' := [(4, .int (0 : Int32)), (3, .int x3), (0, .ref (a 0)), (1, .int p1), (2, .int p2)]) hx hb dX6_takesNumber_66 hl (by decide) rfl (fun ls hl => ?_)
            refine lv_iload hx hb dX6_takesNumber_68 (lv_at hl 0 rfl) ?_
            refine lv_if_eq (tgt := 89) hx hb dX6_takesNumber_70 (by decide) (fun _ => ?_) (fun c => absurd (by decide) c)
            refine lv_iload_n hx hb dX6_takesNumber_89 rfl (lv_at hl 1 rfl) ?_
            refine lv_istore_n (lv' := [(3, .int x3), (4, .int (0 : Int32)), (0, .ref (a 0)), (1, .int p1), (2, .int p2)]) hx hb dX6_takesNumber_90 rfl hl (by decide) rfl (fun ls hl => ?_)
            refine lv_goto (tgt := 24) hx hb dX6_takesNumber_91 (by decide) ?_
            refine q_eqI (show v_X6_takesNumber_loop p1 p2 (n + 1) u1 x3 x4 = v_X6_takesNumber_loop p1 p2 n u1 x3 (0 : Int32) from (if_neg c2).trans ((if_pos c3).trans rfl)) (show w_X6_takesNumber_loop p1 p2 (n + 1) u1 x3 x4 = w_X6_takesNumber_loop p1 p2 n u1 x3 (0 : Int32) from (if_neg c2).trans ((if_pos c3).trans rfl)) ?_
            exact ih_LP_loop  trivial _ _ _ _ _ hP hS hT1 (Or.inl rfl) ls (lv_sub hl [1, 0, 2, 3, 4] rfl)
          · skip
            refine lv_bipush (v := 10) hx hb dX6_takesNumber_40 (by decide) ?_
            refine lv_iload_n hx hb dX6_takesNumber_42 rfl (lv_at hl 1 rfl) ?_
            refine lv_imul hx hb dX6_takesNumber_43 ?_
            refine lv_aload_n hx hb dX6_takesNumber_44 rfl (lv_at hl 2 rfl) ?_
            refine g_get S hK hP (i := 0) (by omega) mC0 rfl inlX6 7 (by decide) k_72 (v := .ref (a 6)) rfl dX6_takesNumber_45 ?_
            refine lv_aload_n hx hb dX6_takesNumber_48 rfl (lv_at hl 2 rfl) ?_
            refine g_get S hK hP (i := 0) (by omega) mC0 rfl inlX6 11 (by decide) k_588 (v := .int (u1 0 11)) rfl dX6_takesNumber_49 ?_
            have hlt := TI_lt hT1 (isNext_ok c3).2.1
            refine r_top (v := nI (sN (u1 0) 11)) (TI_p hT1) ?_
            refine g_aldN S hK hP (i := 6) (by omega) mC6 (k := sN (u1 0) 11) (by omega) (by decide) (v := u1 6 (sN (u1 0) 11)) (rfl) dX6_takesNumber_52 ?_
            refine lv_iadd hx hb dX6_takesNumber_53 ?_
            refine lv_bipush (v := 48) hx hb dX6_takesNumber_54 (by decide) ?_
            refine lv_isub hx hb dX6_takesNumber_56 ?_
            refine lv_iload_n hx hb dX6_takesNumber_57 rfl (lv_at hl 4 rfl) ?_
            refine lv_icmp_gt (tgt := 65) hx hb dX6_takesNumber_58 (by decide) (fun c4 => ?_) (fun c4 => ?_)
            · skip
              refine lv_iconst (v := 0) hx hb dX6_takesNumber_65 (by decide) ?_
              refine lv_istore (lv' := [(4, .int (0 : Int32)), (3, .int x3), (0, .ref (a 0)), (1, .int p1), (2, .int p2)]) hx hb dX6_takesNumber_66 hl (by decide) rfl (fun ls hl => ?_)
              refine lv_iload hx hb dX6_takesNumber_68 (lv_at hl 0 rfl) ?_
              refine lv_if_eq (tgt := 89) hx hb dX6_takesNumber_70 (by decide) (fun _ => ?_) (fun c => absurd (by decide) c)
              refine lv_iload_n hx hb dX6_takesNumber_89 rfl (lv_at hl 1 rfl) ?_
              refine lv_istore_n (lv' := [(3, .int x3), (4, .int (0 : Int32)), (0, .ref (a 0)), (1, .int p1), (2, .int p2)]) hx hb dX6_takesNumber_90 rfl hl (by decide) rfl (fun ls hl => ?_)
              refine lv_goto (tgt := 24) hx hb dX6_takesNumber_91 (by decide) ?_
              refine q_eqI (show v_X6_takesNumber_loop p1 p2 (n + 1) u1 x3 x4 = v_X6_takesNumber_loop p1 p2 n u1 x3 (0 : Int32) from (if_neg c2).trans ((if_neg c3).trans ((if_pos c4).trans rfl))) (show w_X6_takesNumber_loop p1 p2 (n + 1) u1 x3 x4 = w_X6_takesNumber_loop p1 p2 n u1 x3 (0 : Int32) from (if_neg c2).trans ((if_neg c3).trans ((if_pos c4).trans rfl))) ?_
              exact ih_LP_loop  trivial _ _ _ _ _ hP hS hT1 (Or.inl rfl) ls (lv_sub hl [1, 0, 2, 3, 4] rfl)
            · skip
              refine lv_iconst (v := 1) hx hb dX6_takesNumber_61 (by decide) ?_
              refine lv_goto (tgt := 66) hx hb dX6_takesNumber_62 (by decide) ?_
              refine lv_istore (lv' := [(4, .int (1 : Int32)), (3, .int x3), (0, .ref (a 0)), (1, .int p1), (2, .int p2)]) hx hb dX6_takesNumber_66 hl (by decide) rfl (fun ls hl => ?_)
              refine lv_iload hx hb dX6_takesNumber_68 (lv_at hl 0 rfl) ?_
              refine lv_if_eq (tgt := 89) hx hb dX6_takesNumber_70 (by decide) (fun c => absurd c (by decide)) (fun _ => ?_)
              refine lv_bipush (v := 10) hx hb dX6_takesNumber_73 (by decide) ?_
              refine lv_iload_n hx hb dX6_takesNumber_75 rfl (lv_at hl 1 rfl) ?_
              refine lv_imul hx hb dX6_takesNumber_76 ?_
              refine lv_aload_n hx hb dX6_takesNumber_77 rfl (lv_at hl 2 rfl) ?_
              refine lv_bipush (v := 48) hx hb dX6_takesNumber_78 (by decide) ?_
              refine lv_bipush (v := 57) hx hb dX6_takesNumber_80 (by decide) ?_
              refine r_callI S hK hP (c_X6_takes l G a hI u1 _ _ hT1) (r_cw S k_605 k_602 k_603 k_604 k_5 q_X6_takes ⟨Nat.le_of_ble_eq_true rfl, Nat.le_of_ble_eq_true rfl⟩ rfl rfl) (g_recv hK hP (i := 0) (by omega) mC0 rfl) rfl hl.1 rfl (Nat.le_of_ble_eq_true rfl) dX6_takesNumber_82 ⟨Nat.zero_le _, Nat.zero_le _⟩ hS (fun _ h => h) (fun H locs hP _ _ hS => ?_)
              have hP : mP G a (w_X6_takes u1 (48 : Int32) (57 : Int32)) H := hP
              refine lv_iadd hx hb dX6_takesNumber_85 ?_
              refine lv_goto (tgt := 90) hx hb dX6_takesNumber_86 (by decide) ?_
              refine lv_istore_n (lv' := [(3, .int (((10 : Int32) * x3) + (v_X6_takes u1 (48 : Int32) (57 : Int32)))), (4, .int (1 : Int32)), (0, .ref (a 0)), (1, .int p1), (2, .int p2)]) hx hb dX6_takesNumber_90 rfl hl (by decide) rfl (fun ls hl => ?_)
              refine lv_goto (tgt := 24) hx hb dX6_takesNumber_91 (by decide) ?_
              refine q_eqI (show v_X6_takesNumber_loop p1 p2 (n + 1) u1 x3 x4 = v_X6_takesNumber_loop p1 p2 n (w_X6_takes u1 (48 : Int32) (57 : Int32)) (((10 : Int32) * x3) + (v_X6_takes u1 (48 : Int32) (57 : Int32))) (1 : Int32) from (if_neg c2).trans ((if_neg c3).trans ((if_neg c4).trans rfl))) (show w_X6_takesNumber_loop p1 p2 (n + 1) u1 x3 x4 = w_X6_takesNumber_loop p1 p2 n (w_X6_takes u1 (48 : Int32) (57 : Int32)) (((10 : Int32) * x3) + (v_X6_takes u1 (48 : Int32) (57 : Int32))) (1 : Int32) from (if_neg c2).trans ((if_neg c3).trans ((if_neg c4).trans rfl))) ?_
              exact ih_LP_loop  trivial _ _ _ _ _ hP hS (takes_TI hT1 (by decide)) (Or.inr (by have := hm_.resolve_left c2; rw [takes_next hT1 c3]; omega)) ls (lv_sub hl [1, 0, 2, 3, 4] rfl)
    refine q_eqI (show v_X6_takesNumber u p1 p2 = v_X6_takesNumber_loop p1 p2 62 (w_X6_takes u ((48 : Int32) + p1) (57 : Int32)) (p1 + (v_X6_takes u ((48 : Int32) + p1) (57 : Int32))) (0 : Int32) from (if_pos c1).trans rfl) (show w_X6_takesNumber u p1 p2 = w_X6_takesNumber_loop p1 p2 62 (w_X6_takes u ((48 : Int32) + p1) (57 : Int32)) (p1 + (v_X6_takes u ((48 : Int32) + p1) (57 : Int32))) (0 : Int32) from (if_pos c1).trans rfl) ?_
    exact LP_loop 62  trivial _ _ _ _ _ hP hS (takes_TI hT hl1) (Or.inl rfl) ls (lv_sub hl [0, 1, 2, 3, 4] rfl)
  · skip
    refine lv_iconst (v := 1) hx hb dX6_takesNumber_17 (by decide) ?_
    refine lv_goto (tgt := 22) hx hb dX6_takesNumber_18 (by decide) ?_
    refine lv_istore (lv' := [(4, .int (1 : Int32)), (3, .int (p1 + (v_X6_takes u ((48 : Int32) + p1) (57 : Int32)))), (0, .ref (a 0)), (1, .int p1), (2, .int p2)]) hx hb dX6_takesNumber_22 hl (by decide) rfl (fun ls hl => ?_)
    have LP_loop : ∀ (n : Nat), True → ∀ (u1 : Nat → Nat → Int32) (x3 : Int32) (x4 : Int32) (H : Heap) (locs : List Loc), mP G a u1 H → va_S (gA 8 a) s.heap H locs → TI (u1 0) → x4 = 0 ∨ 62 ≤ sN (u1 0) 11 + n → ∀ ls : Array Slot, lv_has ls 5 [(4, .int x4), (3, .int x3), (0, .ref (a 0)), (1, .int p1), (2, .int p2)] → W p l e (rmK 2) s m args below meth c H locs 0 0 (MQ below (qcI G (gA 8 a) (mP G a (w_X6_takesNumber_loop p1 p2 n u1 x3 x4)) (v_X6_takesNumber_loop p1 p2 n u1 x3 x4)) args s 0 0 (gA 8 a)) (F0 m 24 ls []) := by
      intro n
      induction n with
      | zero =>
        intro  hk_LP_loop u1 x3 x4 H locs hP hS hT1 hm_ ls hl
        have h60 := TI_60 hT1
        have hle := TI_le hT1
        refine lv_iload hx hb dX6_takesNumber_24 (lv_at hl 0 rfl) ?_
        refine lv_if_eq (tgt := 94) hx hb dX6_takesNumber_26 (by decide) (fun _ => ?_) (fun c => absurd (hm_.elim id (fun z => absurd z (by omega))) c)
        refine lv_iload_n hx hb dX6_takesNumber_94 rfl (lv_at hl 1 rfl) ?_
        exact e_int S hr hlk rfl hK hS (gP_eq (show w_X6_takesNumber_loop p1 p2 0 u1 x3 x4 = u1 from rfl) hP) (show v_X6_takesNumber_loop p1 p2 0 u1 x3 x4 = x3 from rfl).symm dX6_takesNumber_95
      | succ n ih_LP_loop =>
        intro  hk_LP_loop u1 x3 x4 H locs hP hS hT1 hm_ ls hl
        have h60 := TI_60 hT1
        have hle := TI_le hT1
        refine lv_iload hx hb dX6_takesNumber_24 (lv_at hl 0 rfl) ?_
        refine lv_if_eq (tgt := 94) hx hb dX6_takesNumber_26 (by decide) (fun c5 => ?_) (fun c5 => ?_)
        · skip
          refine lv_iload_n hx hb dX6_takesNumber_94 rfl (lv_at hl 1 rfl) ?_
          exact e_int S hr hlk rfl hK hS (gP_eq (show w_X6_takesNumber_loop p1 p2 (n + 1) u1 x3 x4 = u1 from (if_pos c5).trans rfl) hP) (show v_X6_takesNumber_loop p1 p2 (n + 1) u1 x3 x4 = x3 from (if_pos c5).trans rfl).symm dX6_takesNumber_95
        · skip
          refine lv_aload_n hx hb dX6_takesNumber_29 rfl (lv_at hl 2 rfl) ?_
          refine lv_bipush (v := 48) hx hb dX6_takesNumber_30 (by decide) ?_
          refine lv_bipush (v := 57) hx hb dX6_takesNumber_32 (by decide) ?_
          refine r_callI S hK hP (c_X6_isNext l G a hI u1 _ _ hT1) (r_cw S k_609 k_606 k_607 k_608 k_5 q_X6_isNext ⟨Nat.le_of_ble_eq_true rfl, Nat.le_of_ble_eq_true rfl⟩ rfl rfl) (g_recv hK hP (i := 0) (by omega) mC0 rfl) rfl hl.1 rfl (Nat.le_of_ble_eq_true rfl) dX6_takesNumber_34 ⟨Nat.zero_le _, Nat.zero_le _⟩ hS (fun _ h => h) (fun H locs hP _ _ hS => ?_)
          have hP : mP G a u1 H := hP
          refine lv_if_eq (tgt := 65) hx hb dX6_takesNumber_37 (by decide) (fun c6 => ?_) (fun c6 => ?_)
          · skip
            refine lv_iconst (v := 0) hx hb dX6_takesNumber_65 (by decide) ?_
            refine lv_istore (lv' := [(4, .int (0 : Int32)), (3, .int x3), (0, .ref (a 0)), (1, .int p1), (2, .int p2)]) hx hb dX6_takesNumber_66 hl (by decide) rfl (fun ls hl => ?_)
            refine lv_iload hx hb dX6_takesNumber_68 (lv_at hl 0 rfl) ?_
            refine lv_if_eq (tgt := 89) hx hb dX6_takesNumber_70 (by decide) (fun _ => ?_) (fun c => absurd (by decide) c)
            refine lv_iload_n hx hb dX6_takesNumber_89 rfl (lv_at hl 1 rfl) ?_
            refine lv_istore_n (lv' := [(3, .int x3), (4, .int (0 : Int32)), (0, .ref (a 0)), (1, .int p1), (2, .int p2)]) hx hb dX6_takesNumber_90 rfl hl (by decide) rfl (fun ls hl => ?_)
            refine lv_goto (tgt := 24) hx hb dX6_takesNumber_91 (by decide) ?_
            refine q_eqI (show v_X6_takesNumber_loop p1 p2 (n + 1) u1 x3 x4 = v_X6_takesNumber_loop p1 p2 n u1 x3 (0 : Int32) from (if_neg c5).trans ((if_pos c6).trans rfl)) (show w_X6_takesNumber_loop p1 p2 (n + 1) u1 x3 x4 = w_X6_takesNumber_loop p1 p2 n u1 x3 (0 : Int32) from (if_neg c5).trans ((if_pos c6).trans rfl)) ?_
            exact ih_LP_loop  trivial _ _ _ _ _ hP hS hT1 (Or.inl rfl) ls (lv_sub hl [1, 0, 2, 3, 4] rfl)
          · skip
            refine lv_bipush (v := 10) hx hb dX6_takesNumber_40 (by decide) ?_
            refine lv_iload_n hx hb dX6_takesNumber_42 rfl (lv_at hl 1 rfl) ?_
            refine lv_imul hx hb dX6_takesNumber_43 ?_
            refine lv_aload_n hx hb dX6_takesNumber_44 rfl (lv_at hl 2 rfl) ?_
            refine g_get S hK hP (i := 0) (by omega) mC0 rfl inlX6 7 (by decide) k_72 (v := .ref (a 6)) rfl dX6_takesNumber_45 ?_
            refine lv_aload_n hx hb dX6_takesNumber_48 rfl (lv_at hl 2 rfl) ?_
            refine g_get S hK hP (i := 0) (by omega) mC0 rfl inlX6 11 (by decide) k_588 (v := .int (u1 0 11)) rfl dX6_takesNumber_49 ?_
            have hlt := TI_lt hT1 (isNext_ok c6).2.1
            refine r_top (v := nI (sN (u1 0) 11)) (TI_p hT1) ?_
            refine g_aldN S hK hP (i := 6) (by omega) mC6 (k := sN (u1 0) 11) (by omega) (by decide) (v := u1 6 (sN (u1 0) 11)) (rfl) dX6_takesNumber_52 ?_
            refine lv_iadd hx hb dX6_takesNumber_53 ?_
            refine lv_bipush (v := 48) hx hb dX6_takesNumber_54 (by decide) ?_
            refine lv_isub hx hb dX6_takesNumber_56 ?_
            refine lv_iload_n hx hb dX6_takesNumber_57 rfl (lv_at hl 4 rfl) ?_
            refine lv_icmp_gt (tgt := 65) hx hb dX6_takesNumber_58 (by decide) (fun c7 => ?_) (fun c7 => ?_)
            · skip
              refine lv_iconst (v := 0) hx hb dX6_takesNumber_65 (by decide) ?_
              refine lv_istore (lv' := [(4, .int (0 : Int32)), (3, .int x3), (0, .ref (a 0)), (1, .int p1), (2, .int p2)]) hx hb dX6_takesNumber_66 hl (by decide) rfl (fun ls hl => ?_)
              refine lv_iload hx hb dX6_takesNumber_68 (lv_at hl 0 rfl) ?_
              refine lv_if_eq (tgt := 89) hx hb dX6_takesNumber_70 (by decide) (fun _ => ?_) (fun c => absurd (by decide) c)
              refine lv_iload_n hx hb dX6_takesNumber_89 rfl (lv_at hl 1 rfl) ?_
              refine lv_istore_n (lv' := [(3, .int x3), (4, .int (0 : Int32)), (0, .ref (a 0)), (1, .int p1), (2, .int p2)]) hx hb dX6_takesNumber_90 rfl hl (by decide) rfl (fun ls hl => ?_)
              refine lv_goto (tgt := 24) hx hb dX6_takesNumber_91 (by decide) ?_
              refine q_eqI (show v_X6_takesNumber_loop p1 p2 (n + 1) u1 x3 x4 = v_X6_takesNumber_loop p1 p2 n u1 x3 (0 : Int32) from (if_neg c5).trans ((if_neg c6).trans ((if_pos c7).trans rfl))) (show w_X6_takesNumber_loop p1 p2 (n + 1) u1 x3 x4 = w_X6_takesNumber_loop p1 p2 n u1 x3 (0 : Int32) from (if_neg c5).trans ((if_neg c6).trans ((if_pos c7).trans rfl))) ?_
              exact ih_LP_loop  trivial _ _ _ _ _ hP hS hT1 (Or.inl rfl) ls (lv_sub hl [1, 0, 2, 3, 4] rfl)
            · skip
              refine lv_iconst (v := 1) hx hb dX6_takesNumber_61 (by decide) ?_
              refine lv_goto (tgt := 66) hx hb dX6_takesNumber_62 (by decide) ?_
              refine lv_istore (lv' := [(4, .int (1 : Int32)), (3, .int x3), (0, .ref (a 0)), (1, .int p1), (2, .int p2)]) hx hb dX6_takesNumber_66 hl (by decide) rfl (fun ls hl => ?_)
              refine lv_iload hx hb dX6_takesNumber_68 (lv_at hl 0 rfl) ?_
              refine lv_if_eq (tgt := 89) hx hb dX6_takesNumber_70 (by decide) (fun c => absurd c (by decide)) (fun _ => ?_)
              refine lv_bipush (v := 10) hx hb dX6_takesNumber_73 (by decide) ?_
              refine lv_iload_n hx hb dX6_takesNumber_75 rfl (lv_at hl 1 rfl) ?_
              refine lv_imul hx hb dX6_takesNumber_76 ?_
              refine lv_aload_n hx hb dX6_takesNumber_77 rfl (lv_at hl 2 rfl) ?_
              refine lv_bipush (v := 48) hx hb dX6_takesNumber_78 (by decide) ?_
              refine lv_bipush (v := 57) hx hb dX6_takesNumber_80 (by decide) ?_
              refine r_callI S hK hP (c_X6_takes l G a hI u1 _ _ hT1) (r_cw S k_605 k_602 k_603 k_604 k_5 q_X6_takes ⟨Nat.le_of_ble_eq_true rfl, Nat.le_of_ble_eq_true rfl⟩ rfl rfl) (g_recv hK hP (i := 0) (by omega) mC0 rfl) rfl hl.1 rfl (Nat.le_of_ble_eq_true rfl) dX6_takesNumber_82 ⟨Nat.zero_le _, Nat.zero_le _⟩ hS (fun _ h => h) (fun H locs hP _ _ hS => ?_)
              have hP : mP G a (w_X6_takes u1 (48 : Int32) (57 : Int32)) H := hP
              refine lv_iadd hx hb dX6_takesNumber_85 ?_
              refine lv_goto (tgt := 90) hx hb dX6_takesNumber_86 (by decide) ?_
              refine lv_istore_n (lv' := [(3, .int (((10 : Int32) * x3) + (v_X6_takes u1 (48 : Int32) (57 : Int32)))), (4, .int (1 : Int32)), (0, .ref (a 0)), (1, .int p1), (2, .int p2)]) hx hb dX6_takesNumber_90 rfl hl (by decide) rfl (fun ls hl => ?_)
              refine lv_goto (tgt := 24) hx hb dX6_takesNumber_91 (by decide) ?_
              refine q_eqI (show v_X6_takesNumber_loop p1 p2 (n + 1) u1 x3 x4 = v_X6_takesNumber_loop p1 p2 n (w_X6_takes u1 (48 : Int32) (57 : Int32)) (((10 : Int32) * x3) + (v_X6_takes u1 (48 : Int32) (57 : Int32))) (1 : Int32) from (if_neg c5).trans ((if_neg c6).trans ((if_neg c7).trans rfl))) (show w_X6_takesNumber_loop p1 p2 (n + 1) u1 x3 x4 = w_X6_takesNumber_loop p1 p2 n (w_X6_takes u1 (48 : Int32) (57 : Int32)) (((10 : Int32) * x3) + (v_X6_takes u1 (48 : Int32) (57 : Int32))) (1 : Int32) from (if_neg c5).trans ((if_neg c6).trans ((if_neg c7).trans rfl))) ?_
              exact ih_LP_loop  trivial _ _ _ _ _ hP hS (takes_TI hT1 (by decide)) (Or.inr (by have := hm_.resolve_left c5; rw [takes_next hT1 c6]; omega)) ls (lv_sub hl [1, 0, 2, 3, 4] rfl)
    refine q_eqI (show v_X6_takesNumber u p1 p2 = v_X6_takesNumber_loop p1 p2 62 (w_X6_takes u ((48 : Int32) + p1) (57 : Int32)) (p1 + (v_X6_takes u ((48 : Int32) + p1) (57 : Int32))) (1 : Int32) from (if_neg c1).trans rfl) (show w_X6_takesNumber u p1 p2 = w_X6_takesNumber_loop p1 p2 62 (w_X6_takes u ((48 : Int32) + p1) (57 : Int32)) (p1 + (v_X6_takes u ((48 : Int32) + p1) (57 : Int32))) (1 : Int32) from (if_neg c1).trans rfl) ?_
    exact LP_loop 62  trivial _ _ _ _ _ hP hS (takes_TI hT hl1) (Or.inr (by omega)) ls (lv_sub hl [0, 1, 2, 3, 4] rfl)

theorem takesNumber_lp {p1 p2 : Int32} : ∀ (n : Nat) (u1 : Nat → Nat → Int32) (x3 x4 : Int32), TI (u1 0) → TI (w_X6_takesNumber_loop p1 p2 n u1 x3 x4 0) := by
  intro n
  induction n with
  | zero => intro u1 x3 x4 h; exact h
  | succ n ih =>
    intro u1 x3 x4 h
    unfold w_X6_takesNumber_loop
    (repeat' split) <;> first | exact h | exact ih _ _ _ h | exact ih _ _ _ (takes_TI h (by decide))
theorem takesNumber_TI {u : Nat → Nat → Int32} {p1 p2 : Int32} (h : TI (u 0)) (hl : ¬ (48 : Int32) + p1 ≤ 0) : TI (w_X6_takesNumber u p1 p2 0) := by
  unfold w_X6_takesNumber
  (repeat' split) <;> exact takesNumber_lp _ _ _ _ (takes_TI h hl)

def v_X6_takesBehind (u : Nat → Nat → Int32) (p1 : Int32) (p2 : Int32) (p3 : Int32) : Int32 := if v_X6_isNext u p1 p1 = 0 then p3 else v_X6_takesNumber (up u 0 11 ((u 0 11) + (1 : Int32))) (0 : Int32) p2
def w_X6_takesBehind (u : Nat → Nat → Int32) (p1 : Int32) (p2 : Int32) (p3 : Int32) : Nat → Nat → Int32 := if v_X6_isNext u p1 p1 = 0 then (up u 0 11 ((u 0 11) + (0 : Int32))) else w_X6_takesNumber (up u 0 11 ((u 0 11) + (1 : Int32))) (0 : Int32) p2
theorem q_X6_takesBehind : yX6_takesBehind.cls ≠ "java/lang/invoke/MethodHandle" ∧ yX6_takesBehind.cls ≠ "java/lang/invoke/VarHandle" ∧ (parseMethodDescriptor yX6_takesBehind.desc).map (fun d => d.parameters.length) = some 3 := ⟨by decide, by decide, by decide +kernel⟩
set_option maxHeartbeats 4000000 in
set_option maxRecDepth 100000 in
theorem c_X6_takesBehind (l : Launch) (G : kG) (a : Nat → Nat) (hI : gI 8 a) (u : Nat → Nat → Int32) (p1 : Int32) (p2 : Int32) (p3 : Int32) (hT : TI (u 0)) : Met l yX6_takesBehind (Cond.code yX6_takesBehind cX6_takesBehind 5 (some .int) :: BIG) (rmK 3) (pcG G (mP G a u) [.ref (a 0), .int p1, .int p2, .int p3]) (qcI G (gA 8 a) (mP G a (w_X6_takesBehind u p1 p2 p3)) (v_X6_takesBehind u p1 p2 p3)) 0 0 (gA 8 a) := by
  refine m_start (by decide) (Nat.le_of_ble_eq_true rfl) ?_
  intro p e s m args below meth c S hr hlk hnm hP hK ls hl
  have hx := S.1
  have hb := S.2.1
  have hown := S.2.2.2.1
  have hS : va_S (gA 8 a) s.heap s.heap [] := va_S.rf
  have hl : lv_has ls 5 [(0, .ref (a 0)), (1, .int p1), (2, .int p2), (3, .int p3)] := hl
  refine lv_aload_n hx hb dX6_takesBehind_0 rfl (lv_at hl 0 rfl) ?_
  refine lv_iload_n hx hb dX6_takesBehind_1 rfl (lv_at hl 1 rfl) ?_
  refine lv_iload_n hx hb dX6_takesBehind_2 rfl (lv_at hl 1 rfl) ?_
  refine r_callI S hK hP (c_X6_isNext l G a hI u _ _ hT) (r_cw S k_609 k_606 k_607 k_608 k_5 q_X6_isNext ⟨Nat.le_of_ble_eq_true rfl, Nat.le_of_ble_eq_true rfl⟩ rfl rfl) (g_recv hK hP (i := 0) (by omega) mC0 rfl) rfl hl.1 rfl (Nat.le_of_ble_eq_true rfl) dX6_takesBehind_3 ⟨Nat.zero_le _, Nat.zero_le _⟩ hS (fun _ h => h) (fun H locs hP _ _ hS => ?_)
  have hP : mP G a u H := hP
  refine lv_istore (lv' := [(4, .int (v_X6_isNext u p1 p1)), (0, .ref (a 0)), (1, .int p1), (2, .int p2), (3, .int p3)]) hx hb dX6_takesBehind_6 hl (by decide) rfl (fun ls hl => ?_)
  refine lv_aload_n hx hb dX6_takesBehind_8 rfl (lv_at hl 1 rfl) ?_
  refine lv_dup hx hb dX6_takesBehind_9 rfl ?_
  refine g_get S hK hP (i := 0) (by omega) mC0 rfl inlX6 11 (by decide) k_588 (v := .int (u 0 11)) rfl dX6_takesBehind_10 ?_
  refine lv_iload hx hb dX6_takesBehind_13 (lv_at hl 0 rfl) ?_
  refine lv_if_eq (tgt := 22) hx hb dX6_takesBehind_15 (by decide) (fun c1 => ?_) (fun c1 => ?_)
  · skip
    refine lv_iconst (v := 0) hx hb dX6_takesBehind_22 (by decide) ?_
    refine lv_iadd hx hb dX6_takesBehind_23 ?_
    refine g_put S hK hP hI hS (i := 0) (by omega) mC0 rfl inlX6 tyX6 tyX6_ok nmX6 mF_n 11 (by decide) k_588 rfl pI rfl rfl (fun _ => rfl) dX6_takesBehind_24 (fun H locs hP hS => ?_)
    have hP : mP G a (up u 0 11 ((u 0 11) + (0 : Int32))) H := hP
    refine lv_iload hx hb dX6_takesBehind_27 (lv_at hl 0 rfl) ?_
    refine lv_if_eq (tgt := 41) hx hb dX6_takesBehind_29 (by decide) (fun _ => ?_) (fun c => absurd c1 c)
    refine lv_iload_n hx hb dX6_takesBehind_41 rfl (lv_at hl 4 rfl) ?_
    exact e_int S hr hlk rfl hK hS (gP_eq (show w_X6_takesBehind u p1 p2 p3 = up u 0 11 ((u 0 11) + (0 : Int32)) from (if_pos c1).trans rfl) hP) (show v_X6_takesBehind u p1 p2 p3 = p3 from (if_pos c1).trans rfl).symm dX6_takesBehind_42
  · skip
    refine lv_iconst (v := 1) hx hb dX6_takesBehind_18 (by decide) ?_
    refine lv_goto (tgt := 23) hx hb dX6_takesBehind_19 (by decide) ?_
    refine lv_iadd hx hb dX6_takesBehind_23 ?_
    refine g_put S hK hP hI hS (i := 0) (by omega) mC0 rfl inlX6 tyX6 tyX6_ok nmX6 mF_n 11 (by decide) k_588 rfl pI rfl rfl (fun _ => rfl) dX6_takesBehind_24 (fun H locs hP hS => ?_)
    have hP : mP G a (up u 0 11 ((u 0 11) + (1 : Int32))) H := hP
    refine lv_iload hx hb dX6_takesBehind_27 (lv_at hl 0 rfl) ?_
    refine lv_if_eq (tgt := 41) hx hb dX6_takesBehind_29 (by decide) (fun c => absurd c c1) (fun _ => ?_)
    refine lv_aload_n hx hb dX6_takesBehind_32 rfl (lv_at hl 1 rfl) ?_
    refine lv_iconst (v := 0) hx hb dX6_takesBehind_33 (by decide) ?_
    refine lv_iload_n hx hb dX6_takesBehind_34 rfl (lv_at hl 3 rfl) ?_
    refine r_callI S hK hP (c_X6_takesNumber l G a hI (up u 0 11 ((u 0 11) + (1 : Int32))) _ _ (TI_inc hT (TI_lt hT (isNext_ok c1).2.1)) (by decide)) (r_cw S k_601 k_598 k_599 k_600 k_5 q_X6_takesNumber ⟨Nat.le_of_ble_eq_true rfl, Nat.le_of_ble_eq_true rfl⟩ rfl rfl) (g_recv hK hP (i := 0) (by omega) mC0 rfl) rfl hl.1 rfl (Nat.le_of_ble_eq_true rfl) dX6_takesBehind_35 ⟨Nat.zero_le _, Nat.zero_le _⟩ hS (fun _ h => h) (fun H locs hP _ _ hS => ?_)
    have hP : mP G a (w_X6_takesNumber (up u 0 11 ((u 0 11) + (1 : Int32))) (0 : Int32) p2) H := hP
    refine lv_goto (tgt := 42) hx hb dX6_takesBehind_38 (by decide) ?_
    exact e_int S hr hlk rfl hK hS (gP_eq (show w_X6_takesBehind u p1 p2 p3 = w_X6_takesNumber (up u 0 11 ((u 0 11) + (1 : Int32))) (0 : Int32) p2 from (if_neg c1).trans rfl) hP) (show v_X6_takesBehind u p1 p2 p3 = v_X6_takesNumber (up u 0 11 ((u 0 11) + (1 : Int32))) (0 : Int32) p2 from (if_neg c1).trans rfl).symm dX6_takesBehind_42

theorem takesBehind_TI {u : Nat → Nat → Int32} {p1 p2 p3 : Int32} (h : TI (u 0)) : TI (w_X6_takesBehind u p1 p2 p3 0) := by
  unfold w_X6_takesBehind
  by_cases hc : v_X6_isNext u p1 p1 = 0
  · rw [if_pos hc]
    exact TI_eq h (up_same.trans (Int32.add_zero _)) (up_nk (by decide))
  · rw [if_neg hc]
    exact takesNumber_TI (TI_inc h (TI_lt h (isNext_ok hc).2.1)) (by decide)

def w_X6_readThing (u : Nat → Nat → Int32) : Nat → Nat → Int32 := if u 0 8 ≤ u 0 11 then (if u 0 12 = 0 then (up (up (up u 0 12 (1 : Int32)) 0 11 ((u 0 11) + (0 : Int32))) 7 0 (0 : Int32)) else up (up (up u 0 12 (1 : Int32)) 0 11 ((u 0 11) + (0 : Int32))) 7 0 (0 : Int32)) else if u 0 12 = 0 then (if u 6 (sN (u 0) 11) = (98 : Int32) then (if u 6 (sN (u 0) 11) = (46 : Int32) then (up (w_X6_takesNumber (up (up (up u 0 12 (0 : Int32)) 0 11 ((u 0 11) + (1 : Int32))) 7 0 (u 6 (sN (u 0) 11))) (1 : Int32) (99 : Int32)) 7 1 (v_X6_takesNumber (up (up (up u 0 12 (0 : Int32)) 0 11 ((u 0 11) + (1 : Int32))) 7 0 (u 6 (sN (u 0) 11))) (1 : Int32) (99 : Int32))) else up (w_X6_takesBehind (up (w_X6_takesBehind (up (w_X6_takesNumber (w_X6_takes (up (w_X6_takes (up (up (up u 0 12 (0 : Int32)) 0 11 ((u 0 11) + (1 : Int32))) 7 0 (u 6 (sN (u 0) 11))) (48 : Int32) (55 : Int32)) 7 1 (v_X6_takes (up (up (up u 0 12 (0 : Int32)) 0 11 ((u 0 11) + (1 : Int32))) 7 0 (u 6 (sN (u 0) 11))) (48 : Int32) (55 : Int32))) (58 : Int32) (58 : Int32)) (1 : Int32) (9999 : Int32)) 7 2 (v_X6_takesNumber (w_X6_takes (up (w_X6_takes (up (up (up u 0 12 (0 : Int32)) 0 11 ((u 0 11) + (1 : Int32))) 7 0 (u 6 (sN (u 0) 11))) (48 : Int32) (55 : Int32)) 7 1 (v_X6_takes (up (up (up u 0 12 (0 : Int32)) 0 11 ((u 0 11) + (1 : Int32))) 7 0 (u 6 (sN (u 0) 11))) (48 : Int32) (55 : Int32))) (58 : Int32) (58 : Int32)) (1 : Int32) (9999 : Int32))) (64 : Int32) (40 : Int32) (20 : Int32)) 7 3 (v_X6_takesBehind (up (w_X6_takesNumber (w_X6_takes (up (w_X6_takes (up (up (up u 0 12 (0 : Int32)) 0 11 ((u 0 11) + (1 : Int32))) 7 0 (u 6 (sN (u 0) 11))) (48 : Int32) (55 : Int32)) 7 1 (v_X6_takes (up (up (up u 0 12 (0 : Int32)) 0 11 ((u 0 11) + (1 : Int32))) 7 0 (u 6 (sN (u 0) 11))) (48 : Int32) (55 : Int32))) (58 : Int32) (58 : Int32)) (1 : Int32) (9999 : Int32)) 7 2 (v_X6_takesNumber (w_X6_takes (up (w_X6_takes (up (up (up u 0 12 (0 : Int32)) 0 11 ((u 0 11) + (1 : Int32))) 7 0 (u 6 (sN (u 0) 11))) (48 : Int32) (55 : Int32)) 7 1 (v_X6_takes (up (up (up u 0 12 (0 : Int32)) 0 11 ((u 0 11) + (1 : Int32))) 7 0 (u 6 (sN (u 0) 11))) (48 : Int32) (55 : Int32))) (58 : Int32) (58 : Int32)) (1 : Int32) (9999 : Int32))) (64 : Int32) (40 : Int32) (20 : Int32))) (43 : Int32) (99 : Int32) (14 : Int32)) 7 4 (v_X6_takesBehind (up (w_X6_takesBehind (up (w_X6_takesNumber (w_X6_takes (up (w_X6_takes (up (up (up u 0 12 (0 : Int32)) 0 11 ((u 0 11) + (1 : Int32))) 7 0 (u 6 (sN (u 0) 11))) (48 : Int32) (55 : Int32)) 7 1 (v_X6_takes (up (up (up u 0 12 (0 : Int32)) 0 11 ((u 0 11) + (1 : Int32))) 7 0 (u 6 (sN (u 0) 11))) (48 : Int32) (55 : Int32))) (58 : Int32) (58 : Int32)) (1 : Int32) (9999 : Int32)) 7 2 (v_X6_takesNumber (w_X6_takes (up (w_X6_takes (up (up (up u 0 12 (0 : Int32)) 0 11 ((u 0 11) + (1 : Int32))) 7 0 (u 6 (sN (u 0) 11))) (48 : Int32) (55 : Int32)) 7 1 (v_X6_takes (up (up (up u 0 12 (0 : Int32)) 0 11 ((u 0 11) + (1 : Int32))) 7 0 (u 6 (sN (u 0) 11))) (48 : Int32) (55 : Int32))) (58 : Int32) (58 : Int32)) (1 : Int32) (9999 : Int32))) (64 : Int32) (40 : Int32) (20 : Int32)) 7 3 (v_X6_takesBehind (up (w_X6_takesNumber (w_X6_takes (up (w_X6_takes (up (up (up u 0 12 (0 : Int32)) 0 11 ((u 0 11) + (1 : Int32))) 7 0 (u 6 (sN (u 0) 11))) (48 : Int32) (55 : Int32)) 7 1 (v_X6_takes (up (up (up u 0 12 (0 : Int32)) 0 11 ((u 0 11) + (1 : Int32))) 7 0 (u 6 (sN (u 0) 11))) (48 : Int32) (55 : Int32))) (58 : Int32) (58 : Int32)) (1 : Int32) (9999 : Int32)) 7 2 (v_X6_takesNumber (w_X6_takes (up (w_X6_takes (up (up (up u 0 12 (0 : Int32)) 0 11 ((u 0 11) + (1 : Int32))) 7 0 (u 6 (sN (u 0) 11))) (48 : Int32) (55 : Int32)) 7 1 (v_X6_takes (up (up (up u 0 12 (0 : Int32)) 0 11 ((u 0 11) + (1 : Int32))) 7 0 (u 6 (sN (u 0) 11))) (48 : Int32) (55 : Int32))) (58 : Int32) (58 : Int32)) (1 : Int32) (9999 : Int32))) (64 : Int32) (40 : Int32) (20 : Int32))) (43 : Int32) (99 : Int32) (14 : Int32))) else if u 6 (sN (u 0) 11) = (112 : Int32) then (if u 6 (sN (u 0) 11) = (46 : Int32) then (up (w_X6_takesNumber (up (up (up u 0 12 (0 : Int32)) 0 11 ((u 0 11) + (1 : Int32))) 7 0 (u 6 (sN (u 0) 11))) (1 : Int32) (99 : Int32)) 7 1 (v_X6_takesNumber (up (up (up u 0 12 (0 : Int32)) 0 11 ((u 0 11) + (1 : Int32))) 7 0 (u 6 (sN (u 0) 11))) (1 : Int32) (99 : Int32))) else up (up (w_X6_takesBehind (up (w_X6_takesNumber (w_X6_takes (up (w_X6_takes (up (up (up u 0 12 (0 : Int32)) 0 11 ((u 0 11) + (1 : Int32))) 7 0 (u 6 (sN (u 0) 11))) (48 : Int32) (55 : Int32)) 7 1 (v_X6_takes (up (up (up u 0 12 (0 : Int32)) 0 11 ((u 0 11) + (1 : Int32))) 7 0 (u 6 (sN (u 0) 11))) (48 : Int32) (55 : Int32))) (58 : Int32) (58 : Int32)) (1 : Int32) (99999 : Int32)) 7 2 (v_X6_takesNumber (w_X6_takes (up (w_X6_takes (up (up (up u 0 12 (0 : Int32)) 0 11 ((u 0 11) + (1 : Int32))) 7 0 (u 6 (sN (u 0) 11))) (48 : Int32) (55 : Int32)) 7 1 (v_X6_takes (up (up (up u 0 12 (0 : Int32)) 0 11 ((u 0 11) + (1 : Int32))) 7 0 (u 6 (sN (u 0) 11))) (48 : Int32) (55 : Int32))) (58 : Int32) (58 : Int32)) (1 : Int32) (99999 : Int32))) (35 : Int32) (39 : Int32) (-5 : Int32)) 7 3 (v_X6_takesBehind (up (w_X6_takesNumber (w_X6_takes (up (w_X6_takes (up (up (up u 0 12 (0 : Int32)) 0 11 ((u 0 11) + (1 : Int32))) 7 0 (u 6 (sN (u 0) 11))) (48 : Int32) (55 : Int32)) 7 1 (v_X6_takes (up (up (up u 0 12 (0 : Int32)) 0 11 ((u 0 11) + (1 : Int32))) 7 0 (u 6 (sN (u 0) 11))) (48 : Int32) (55 : Int32))) (58 : Int32) (58 : Int32)) (1 : Int32) (99999 : Int32)) 7 2 (v_X6_takesNumber (w_X6_takes (up (w_X6_takes (up (up (up u 0 12 (0 : Int32)) 0 11 ((u 0 11) + (1 : Int32))) 7 0 (u 6 (sN (u 0) 11))) (48 : Int32) (55 : Int32)) 7 1 (v_X6_takes (up (up (up u 0 12 (0 : Int32)) 0 11 ((u 0 11) + (1 : Int32))) 7 0 (u 6 (sN (u 0) 11))) (48 : Int32) (55 : Int32))) (58 : Int32) (58 : Int32)) (1 : Int32) (99999 : Int32))) (35 : Int32) (39 : Int32) (-5 : Int32))) 7 4 (0 : Int32)) else if u 6 (sN (u 0) 11) = (114 : Int32) then (if u 6 (sN (u 0) 11) = (46 : Int32) then (up (w_X6_takesNumber (up (up (up u 0 12 (0 : Int32)) 0 11 ((u 0 11) + (1 : Int32))) 7 0 (u 6 (sN (u 0) 11))) (1 : Int32) (99 : Int32)) 7 1 (v_X6_takesNumber (up (up (up u 0 12 (0 : Int32)) 0 11 ((u 0 11) + (1 : Int32))) 7 0 (u 6 (sN (u 0) 11))) (1 : Int32) (99 : Int32))) else up (up (up u 0 12 (0 : Int32)) 0 11 ((u 0 11) + (1 : Int32))) 7 0 (u 6 (sN (u 0) 11))) else if u 6 (sN (u 0) 11) = (46 : Int32) then (up (w_X6_takesNumber (up (up (up u 0 12 (0 : Int32)) 0 11 ((u 0 11) + (1 : Int32))) 7 0 (u 6 (sN (u 0) 11))) (1 : Int32) (99 : Int32)) 7 1 (v_X6_takesNumber (up (up (up u 0 12 (0 : Int32)) 0 11 ((u 0 11) + (1 : Int32))) 7 0 (u 6 (sN (u 0) 11))) (1 : Int32) (99 : Int32))) else up (up (up u 0 12 (1 : Int32)) 0 11 ((u 0 11) + (0 : Int32))) 7 0 (u 6 (sN (u 0) 11))) else if u 6 (sN (u 0) 11) = (46 : Int32) then (up (w_X6_takesNumber (up (up (up u 0 12 (1 : Int32)) 0 11 ((u 0 11) + (0 : Int32))) 7 0 (u 6 (sN (u 0) 11))) (1 : Int32) (99 : Int32)) 7 1 (v_X6_takesNumber (up (up (up u 0 12 (1 : Int32)) 0 11 ((u 0 11) + (0 : Int32))) 7 0 (u 6 (sN (u 0) 11))) (1 : Int32) (99 : Int32))) else if u 6 (sN (u 0) 11) = (98 : Int32) then (up (w_X6_takesBehind (up (w_X6_takesBehind (up (w_X6_takesNumber (w_X6_takes (up (w_X6_takes (up (up (up u 0 12 (1 : Int32)) 0 11 ((u 0 11) + (0 : Int32))) 7 0 (u 6 (sN (u 0) 11))) (48 : Int32) (55 : Int32)) 7 1 (v_X6_takes (up (up (up u 0 12 (1 : Int32)) 0 11 ((u 0 11) + (0 : Int32))) 7 0 (u 6 (sN (u 0) 11))) (48 : Int32) (55 : Int32))) (58 : Int32) (58 : Int32)) (1 : Int32) (9999 : Int32)) 7 2 (v_X6_takesNumber (w_X6_takes (up (w_X6_takes (up (up (up u 0 12 (1 : Int32)) 0 11 ((u 0 11) + (0 : Int32))) 7 0 (u 6 (sN (u 0) 11))) (48 : Int32) (55 : Int32)) 7 1 (v_X6_takes (up (up (up u 0 12 (1 : Int32)) 0 11 ((u 0 11) + (0 : Int32))) 7 0 (u 6 (sN (u 0) 11))) (48 : Int32) (55 : Int32))) (58 : Int32) (58 : Int32)) (1 : Int32) (9999 : Int32))) (64 : Int32) (40 : Int32) (20 : Int32)) 7 3 (v_X6_takesBehind (up (w_X6_takesNumber (w_X6_takes (up (w_X6_takes (up (up (up u 0 12 (1 : Int32)) 0 11 ((u 0 11) + (0 : Int32))) 7 0 (u 6 (sN (u 0) 11))) (48 : Int32) (55 : Int32)) 7 1 (v_X6_takes (up (up (up u 0 12 (1 : Int32)) 0 11 ((u 0 11) + (0 : Int32))) 7 0 (u 6 (sN (u 0) 11))) (48 : Int32) (55 : Int32))) (58 : Int32) (58 : Int32)) (1 : Int32) (9999 : Int32)) 7 2 (v_X6_takesNumber (w_X6_takes (up (w_X6_takes (up (up (up u 0 12 (1 : Int32)) 0 11 ((u 0 11) + (0 : Int32))) 7 0 (u 6 (sN (u 0) 11))) (48 : Int32) (55 : Int32)) 7 1 (v_X6_takes (up (up (up u 0 12 (1 : Int32)) 0 11 ((u 0 11) + (0 : Int32))) 7 0 (u 6 (sN (u 0) 11))) (48 : Int32) (55 : Int32))) (58 : Int32) (58 : Int32)) (1 : Int32) (9999 : Int32))) (64 : Int32) (40 : Int32) (20 : Int32))) (43 : Int32) (99 : Int32) (14 : Int32)) 7 4 (v_X6_takesBehind (up (w_X6_takesBehind (up (w_X6_takesNumber (w_X6_takes (up (w_X6_takes (up (up (up u 0 12 (1 : Int32)) 0 11 ((u 0 11) + (0 : Int32))) 7 0 (u 6 (sN (u 0) 11))) (48 : Int32) (55 : Int32)) 7 1 (v_X6_takes (up (up (up u 0 12 (1 : Int32)) 0 11 ((u 0 11) + (0 : Int32))) 7 0 (u 6 (sN (u 0) 11))) (48 : Int32) (55 : Int32))) (58 : Int32) (58 : Int32)) (1 : Int32) (9999 : Int32)) 7 2 (v_X6_takesNumber (w_X6_takes (up (w_X6_takes (up (up (up u 0 12 (1 : Int32)) 0 11 ((u 0 11) + (0 : Int32))) 7 0 (u 6 (sN (u 0) 11))) (48 : Int32) (55 : Int32)) 7 1 (v_X6_takes (up (up (up u 0 12 (1 : Int32)) 0 11 ((u 0 11) + (0 : Int32))) 7 0 (u 6 (sN (u 0) 11))) (48 : Int32) (55 : Int32))) (58 : Int32) (58 : Int32)) (1 : Int32) (9999 : Int32))) (64 : Int32) (40 : Int32) (20 : Int32)) 7 3 (v_X6_takesBehind (up (w_X6_takesNumber (w_X6_takes (up (w_X6_takes (up (up (up u 0 12 (1 : Int32)) 0 11 ((u 0 11) + (0 : Int32))) 7 0 (u 6 (sN (u 0) 11))) (48 : Int32) (55 : Int32)) 7 1 (v_X6_takes (up (up (up u 0 12 (1 : Int32)) 0 11 ((u 0 11) + (0 : Int32))) 7 0 (u 6 (sN (u 0) 11))) (48 : Int32) (55 : Int32))) (58 : Int32) (58 : Int32)) (1 : Int32) (9999 : Int32)) 7 2 (v_X6_takesNumber (w_X6_takes (up (w_X6_takes (up (up (up u 0 12 (1 : Int32)) 0 11 ((u 0 11) + (0 : Int32))) 7 0 (u 6 (sN (u 0) 11))) (48 : Int32) (55 : Int32)) 7 1 (v_X6_takes (up (up (up u 0 12 (1 : Int32)) 0 11 ((u 0 11) + (0 : Int32))) 7 0 (u 6 (sN (u 0) 11))) (48 : Int32) (55 : Int32))) (58 : Int32) (58 : Int32)) (1 : Int32) (9999 : Int32))) (64 : Int32) (40 : Int32) (20 : Int32))) (43 : Int32) (99 : Int32) (14 : Int32))) else if u 6 (sN (u 0) 11) = (112 : Int32) then (up (up (w_X6_takesBehind (up (w_X6_takesNumber (w_X6_takes (up (w_X6_takes (up (up (up u 0 12 (1 : Int32)) 0 11 ((u 0 11) + (0 : Int32))) 7 0 (u 6 (sN (u 0) 11))) (48 : Int32) (55 : Int32)) 7 1 (v_X6_takes (up (up (up u 0 12 (1 : Int32)) 0 11 ((u 0 11) + (0 : Int32))) 7 0 (u 6 (sN (u 0) 11))) (48 : Int32) (55 : Int32))) (58 : Int32) (58 : Int32)) (1 : Int32) (99999 : Int32)) 7 2 (v_X6_takesNumber (w_X6_takes (up (w_X6_takes (up (up (up u 0 12 (1 : Int32)) 0 11 ((u 0 11) + (0 : Int32))) 7 0 (u 6 (sN (u 0) 11))) (48 : Int32) (55 : Int32)) 7 1 (v_X6_takes (up (up (up u 0 12 (1 : Int32)) 0 11 ((u 0 11) + (0 : Int32))) 7 0 (u 6 (sN (u 0) 11))) (48 : Int32) (55 : Int32))) (58 : Int32) (58 : Int32)) (1 : Int32) (99999 : Int32))) (35 : Int32) (39 : Int32) (-5 : Int32)) 7 3 (v_X6_takesBehind (up (w_X6_takesNumber (w_X6_takes (up (w_X6_takes (up (up (up u 0 12 (1 : Int32)) 0 11 ((u 0 11) + (0 : Int32))) 7 0 (u 6 (sN (u 0) 11))) (48 : Int32) (55 : Int32)) 7 1 (v_X6_takes (up (up (up u 0 12 (1 : Int32)) 0 11 ((u 0 11) + (0 : Int32))) 7 0 (u 6 (sN (u 0) 11))) (48 : Int32) (55 : Int32))) (58 : Int32) (58 : Int32)) (1 : Int32) (99999 : Int32)) 7 2 (v_X6_takesNumber (w_X6_takes (up (w_X6_takes (up (up (up u 0 12 (1 : Int32)) 0 11 ((u 0 11) + (0 : Int32))) 7 0 (u 6 (sN (u 0) 11))) (48 : Int32) (55 : Int32)) 7 1 (v_X6_takes (up (up (up u 0 12 (1 : Int32)) 0 11 ((u 0 11) + (0 : Int32))) 7 0 (u 6 (sN (u 0) 11))) (48 : Int32) (55 : Int32))) (58 : Int32) (58 : Int32)) (1 : Int32) (99999 : Int32))) (35 : Int32) (39 : Int32) (-5 : Int32))) 7 4 (0 : Int32)) else up (up (up u 0 12 (1 : Int32)) 0 11 ((u 0 11) + (0 : Int32))) 7 0 (u 6 (sN (u 0) 11))
theorem q_X6_readThing : yX6_readThing.cls ≠ "java/lang/invoke/MethodHandle" ∧ yX6_readThing.cls ≠ "java/lang/invoke/VarHandle" ∧ (parseMethodDescriptor yX6_readThing.desc).map (fun d => d.parameters.length) = some 0 := ⟨by decide, by decide, by decide +kernel⟩
set_option maxHeartbeats 4000000 in
set_option maxRecDepth 100000 in
theorem c_X6_readThing (l : Launch) (G : kG) (a : Nat → Nat) (hI : gI 8 a) (u : Nat → Nat → Int32) (hT : TI (u 0)) : Met l yX6_readThing (Cond.code yX6_readThing cX6_readThing 3 none :: BIG) (rmK 4) (pcG G (mP G a u) [.ref (a 0)]) (qcV G (gA 8 a) (mP G a (w_X6_readThing u))) 0 0 (gA 8 a) := by
  refine m_start (by decide) (Nat.le_of_ble_eq_true rfl) ?_
  have h60 := TI_60 hT
  intro p e s m args below meth c S hr hlk hnm hP hK ls hl
  have hx := S.1
  have hb := S.2.1
  have hown := S.2.2.2.1
  have hS : va_S (gA 8 a) s.heap s.heap [] := va_S.rf
  have hl : lv_has ls 3 [(0, .ref (a 0))] := hl
  refine lv_aload_n hx hb dX6_readThing_0 rfl (lv_at hl 0 rfl) ?_
  refine g_get S hK hP (i := 0) (by omega) mC0 rfl inlX6 11 (by decide) k_588 (v := .int (u 0 11)) rfl dX6_readThing_1 ?_
  refine lv_aload_n hx hb dX6_readThing_4 rfl (lv_at hl 0 rfl) ?_
  refine g_get S hK hP (i := 0) (by omega) mC0 rfl inlX6 8 (by decide) k_502 (v := .int (u 0 8)) rfl dX6_readThing_5 ?_
  refine lv_icmp_ge (tgt := 23) hx hb dX6_readThing_8 (by decide) (fun c1 => ?_) (fun c1 => ?_)
  · skip
    refine lv_iconst (v := 0) hx hb dX6_readThing_23 (by decide) ?_
    refine lv_istore_n (lv' := [(1, .int (0 : Int32)), (0, .ref (a 0))]) hx hb dX6_readThing_24 rfl hl (by decide) rfl (fun ls hl => ?_)
    refine lv_aload_n hx hb dX6_readThing_25 rfl (lv_at hl 1 rfl) ?_
    refine lv_aload_n hx hb dX6_readThing_26 rfl (lv_at hl 1 rfl) ?_
    refine g_get S hK hP (i := 0) (by omega) mC0 rfl inlX6 12 (by decide) k_587 (v := .int (u 0 12)) rfl dX6_readThing_27 ?_
    refine lv_if_ne (tgt := 57) hx hb dX6_readThing_30 (by decide) (fun c2 => ?_) (fun c2 => ?_)
    · skip
      refine lv_iconst (v := 1) hx hb dX6_readThing_57 (by decide) ?_
      refine lv_goto (tgt := 62) hx hb dX6_readThing_58 (by decide) ?_
      refine g_put S hK hP hI hS (i := 0) (by omega) mC0 rfl inlX6 tyX6 tyX6_ok nmX6 mF_n 12 (by decide) k_587 rfl pZ rfl rfl (fun _ => rfl) dX6_readThing_62 (fun H locs hP hS => ?_)
      have hP : mP G a (up u 0 12 (1 : Int32)) H := hP
      refine lv_aload_n hx hb dX6_readThing_65 rfl (lv_at hl 1 rfl) ?_
      refine lv_dup hx hb dX6_readThing_66 rfl ?_
      refine g_get S hK hP (i := 0) (by omega) mC0 rfl inlX6 11 (by decide) k_588 (v := .int (u 0 11)) (congrArg Value.int ((up_nk (by omega)).trans rfl)) dX6_readThing_67 ?_
      refine lv_aload_n hx hb dX6_readThing_70 rfl (lv_at hl 1 rfl) ?_
      refine g_get S hK hP (i := 0) (by omega) mC0 rfl inlX6 12 (by decide) k_587 (v := .int (1 : Int32)) (congrArg Value.int (up_same)) dX6_readThing_71 ?_
      refine lv_if_eq (tgt := 81) hx hb dX6_readThing_74 (by decide) (fun c => absurd c (by decide)) (fun _ => ?_)
      refine lv_iconst (v := 0) hx hb dX6_readThing_77 (by decide) ?_
      refine lv_goto (tgt := 82) hx hb dX6_readThing_78 (by decide) ?_
      refine lv_iadd hx hb dX6_readThing_82 ?_
      refine g_put S hK hP hI hS (i := 0) (by omega) mC0 rfl inlX6 tyX6 tyX6_ok nmX6 mF_n 11 (by decide) k_588 rfl pI rfl rfl (fun _ => rfl) dX6_readThing_83 (fun H locs hP hS => ?_)
      have hP : mP G a (up (up u 0 12 (1 : Int32)) 0 11 ((u 0 11) + (0 : Int32))) H := hP
      refine lv_aload_n hx hb dX6_readThing_86 rfl (lv_at hl 1 rfl) ?_
      refine g_get S hK hP (i := 0) (by omega) mC0 rfl inlX6 13 (by decide) k_75 (v := .ref (a 7)) rfl dX6_readThing_87 ?_
      refine lv_iconst (v := 0) hx hb dX6_readThing_90 (by decide) ?_
      refine lv_iload_n hx hb dX6_readThing_91 rfl (lv_at hl 0 rfl) ?_
      refine g_astN S hK hP hI hS (i := 7) (by omega) mC7 (k := 0) (by omega) (by decide) dX6_readThing_92 (fun H locs hP hS => ?_)
      have hP : mP G a (up (up (up u 0 12 (1 : Int32)) 0 11 ((u 0 11) + (0 : Int32))) 7 0 (0 : Int32)) H := hP
      refine lv_iload_n hx hb dX6_readThing_93 rfl (lv_at hl 0 rfl) ?_
      refine lv_bipush (v := 46) hx hb dX6_readThing_94 (by decide) ?_
      refine lv_icmp_ne (tgt := 115) hx hb dX6_readThing_96 (by decide) (fun _ => ?_) (fun c => absurd c (by decide))
      refine lv_iload_n hx hb dX6_readThing_115 rfl (lv_at hl 0 rfl) ?_
      refine lv_bipush (v := 98) hx hb dX6_readThing_116 (by decide) ?_
      refine lv_icmp_eq (tgt := 127) hx hb dX6_readThing_118 (by decide) (fun c => absurd c (by decide)) (fun _ => ?_)
      refine lv_iload_n hx hb dX6_readThing_121 rfl (lv_at hl 0 rfl) ?_
      refine lv_bipush (v := 112) hx hb dX6_readThing_122 (by decide) ?_
      refine lv_icmp_ne (tgt := 236) hx hb dX6_readThing_124 (by decide) (fun _ => ?_) (fun c => absurd c (by decide))
      exact e_void S hr hlk hK hS (gP_eq (show w_X6_readThing u  = up (up (up u 0 12 (1 : Int32)) 0 11 ((u 0 11) + (0 : Int32))) 7 0 (0 : Int32) from (if_pos c1).trans ((if_neg c2).trans rfl)) hP) dX6_readThing_236
    · skip
      refine lv_iload_n hx hb dX6_readThing_33 rfl (lv_at hl 0 rfl) ?_
      refine lv_bipush (v := 98) hx hb dX6_readThing_34 (by decide) ?_
      refine lv_icmp_eq (tgt := 61) hx hb dX6_readThing_36 (by decide) (fun c => absurd c (by decide)) (fun _ => ?_)
      refine lv_iload_n hx hb dX6_readThing_39 rfl (lv_at hl 0 rfl) ?_
      refine lv_bipush (v := 112) hx hb dX6_readThing_40 (by decide) ?_
      refine lv_icmp_eq (tgt := 61) hx hb dX6_readThing_42 (by decide) (fun c => absurd c (by decide)) (fun _ => ?_)
      refine lv_iload_n hx hb dX6_readThing_45 rfl (lv_at hl 0 rfl) ?_
      refine lv_bipush (v := 114) hx hb dX6_readThing_46 (by decide) ?_
      refine lv_icmp_eq (tgt := 61) hx hb dX6_readThing_48 (by decide) (fun c => absurd c (by decide)) (fun _ => ?_)
      refine lv_iload_n hx hb dX6_readThing_51 rfl (lv_at hl 0 rfl) ?_
      refine lv_bipush (v := 46) hx hb dX6_readThing_52 (by decide) ?_
      refine lv_icmp_eq (tgt := 61) hx hb dX6_readThing_54 (by decide) (fun c => absurd c (by decide)) (fun _ => ?_)
      refine lv_iconst (v := 1) hx hb dX6_readThing_57 (by decide) ?_
      refine lv_goto (tgt := 62) hx hb dX6_readThing_58 (by decide) ?_
      refine g_put S hK hP hI hS (i := 0) (by omega) mC0 rfl inlX6 tyX6 tyX6_ok nmX6 mF_n 12 (by decide) k_587 rfl pZ rfl rfl (fun _ => rfl) dX6_readThing_62 (fun H locs hP hS => ?_)
      have hP : mP G a (up u 0 12 (1 : Int32)) H := hP
      refine lv_aload_n hx hb dX6_readThing_65 rfl (lv_at hl 1 rfl) ?_
      refine lv_dup hx hb dX6_readThing_66 rfl ?_
      refine g_get S hK hP (i := 0) (by omega) mC0 rfl inlX6 11 (by decide) k_588 (v := .int (u 0 11)) (congrArg Value.int ((up_nk (by omega)).trans rfl)) dX6_readThing_67 ?_
      refine lv_aload_n hx hb dX6_readThing_70 rfl (lv_at hl 1 rfl) ?_
      refine g_get S hK hP (i := 0) (by omega) mC0 rfl inlX6 12 (by decide) k_587 (v := .int (1 : Int32)) (congrArg Value.int (up_same)) dX6_readThing_71 ?_
      refine lv_if_eq (tgt := 81) hx hb dX6_readThing_74 (by decide) (fun c => absurd c (by decide)) (fun _ => ?_)
      refine lv_iconst (v := 0) hx hb dX6_readThing_77 (by decide) ?_
      refine lv_goto (tgt := 82) hx hb dX6_readThing_78 (by decide) ?_
      refine lv_iadd hx hb dX6_readThing_82 ?_
      refine g_put S hK hP hI hS (i := 0) (by omega) mC0 rfl inlX6 tyX6 tyX6_ok nmX6 mF_n 11 (by decide) k_588 rfl pI rfl rfl (fun _ => rfl) dX6_readThing_83 (fun H locs hP hS => ?_)
      have hP : mP G a (up (up u 0 12 (1 : Int32)) 0 11 ((u 0 11) + (0 : Int32))) H := hP
      refine lv_aload_n hx hb dX6_readThing_86 rfl (lv_at hl 1 rfl) ?_
      refine g_get S hK hP (i := 0) (by omega) mC0 rfl inlX6 13 (by decide) k_75 (v := .ref (a 7)) rfl dX6_readThing_87 ?_
      refine lv_iconst (v := 0) hx hb dX6_readThing_90 (by decide) ?_
      refine lv_iload_n hx hb dX6_readThing_91 rfl (lv_at hl 0 rfl) ?_
      refine g_astN S hK hP hI hS (i := 7) (by omega) mC7 (k := 0) (by omega) (by decide) dX6_readThing_92 (fun H locs hP hS => ?_)
      have hP : mP G a (up (up (up u 0 12 (1 : Int32)) 0 11 ((u 0 11) + (0 : Int32))) 7 0 (0 : Int32)) H := hP
      refine lv_iload_n hx hb dX6_readThing_93 rfl (lv_at hl 0 rfl) ?_
      refine lv_bipush (v := 46) hx hb dX6_readThing_94 (by decide) ?_
      refine lv_icmp_ne (tgt := 115) hx hb dX6_readThing_96 (by decide) (fun _ => ?_) (fun c => absurd c (by decide))
      refine lv_iload_n hx hb dX6_readThing_115 rfl (lv_at hl 0 rfl) ?_
      refine lv_bipush (v := 98) hx hb dX6_readThing_116 (by decide) ?_
      refine lv_icmp_eq (tgt := 127) hx hb dX6_readThing_118 (by decide) (fun c => absurd c (by decide)) (fun _ => ?_)
      refine lv_iload_n hx hb dX6_readThing_121 rfl (lv_at hl 0 rfl) ?_
      refine lv_bipush (v := 112) hx hb dX6_readThing_122 (by decide) ?_
      refine lv_icmp_ne (tgt := 236) hx hb dX6_readThing_124 (by decide) (fun _ => ?_) (fun c => absurd c (by decide))
      exact e_void S hr hlk hK hS (gP_eq (show w_X6_readThing u  = up (up (up u 0 12 (1 : Int32)) 0 11 ((u 0 11) + (0 : Int32))) 7 0 (0 : Int32) from (if_pos c1).trans ((if_pos c2).trans rfl)) hP) dX6_readThing_236
  · skip
    refine lv_aload_n hx hb dX6_readThing_11 rfl (lv_at hl 0 rfl) ?_
    refine g_get S hK hP (i := 0) (by omega) mC0 rfl inlX6 7 (by decide) k_72 (v := .ref (a 6)) rfl dX6_readThing_12 ?_
    refine lv_aload_n hx hb dX6_readThing_15 rfl (lv_at hl 0 rfl) ?_
    refine g_get S hK hP (i := 0) (by omega) mC0 rfl inlX6 11 (by decide) k_588 (v := .int (u 0 11)) rfl dX6_readThing_16 ?_
    have hlt := TI_lt hT c1
    refine r_top (v := nI (sN (u 0) 11)) (TI_p hT) ?_
    refine g_aldN S hK hP (i := 6) (by omega) mC6 (k := sN (u 0) 11) (by omega) (by decide) (v := u 6 (sN (u 0) 11)) (rfl) dX6_readThing_19 ?_
    refine lv_goto (tgt := 24) hx hb dX6_readThing_20 (by decide) ?_
    refine lv_istore_n (lv' := [(1, .int (u 6 (sN (u 0) 11))), (0, .ref (a 0))]) hx hb dX6_readThing_24 rfl hl (by decide) rfl (fun ls hl => ?_)
    refine lv_aload_n hx hb dX6_readThing_25 rfl (lv_at hl 1 rfl) ?_
    refine lv_aload_n hx hb dX6_readThing_26 rfl (lv_at hl 1 rfl) ?_
    refine g_get S hK hP (i := 0) (by omega) mC0 rfl inlX6 12 (by decide) k_587 (v := .int (u 0 12)) rfl dX6_readThing_27 ?_
    refine lv_if_ne (tgt := 57) hx hb dX6_readThing_30 (by decide) (fun c3 => ?_) (fun c3 => ?_)
    · skip
      refine lv_iconst (v := 1) hx hb dX6_readThing_57 (by decide) ?_
      refine lv_goto (tgt := 62) hx hb dX6_readThing_58 (by decide) ?_
      refine g_put S hK hP hI hS (i := 0) (by omega) mC0 rfl inlX6 tyX6 tyX6_ok nmX6 mF_n 12 (by decide) k_587 rfl pZ rfl rfl (fun _ => rfl) dX6_readThing_62 (fun H locs hP hS => ?_)
      have hP : mP G a (up u 0 12 (1 : Int32)) H := hP
      refine lv_aload_n hx hb dX6_readThing_65 rfl (lv_at hl 1 rfl) ?_
      refine lv_dup hx hb dX6_readThing_66 rfl ?_
      refine g_get S hK hP (i := 0) (by omega) mC0 rfl inlX6 11 (by decide) k_588 (v := .int (u 0 11)) (congrArg Value.int ((up_nk (by omega)).trans rfl)) dX6_readThing_67 ?_
      refine lv_aload_n hx hb dX6_readThing_70 rfl (lv_at hl 1 rfl) ?_
      refine g_get S hK hP (i := 0) (by omega) mC0 rfl inlX6 12 (by decide) k_587 (v := .int (1 : Int32)) (congrArg Value.int (up_same)) dX6_readThing_71 ?_
      refine lv_if_eq (tgt := 81) hx hb dX6_readThing_74 (by decide) (fun c => absurd c (by decide)) (fun _ => ?_)
      refine lv_iconst (v := 0) hx hb dX6_readThing_77 (by decide) ?_
      refine lv_goto (tgt := 82) hx hb dX6_readThing_78 (by decide) ?_
      refine lv_iadd hx hb dX6_readThing_82 ?_
      refine g_put S hK hP hI hS (i := 0) (by omega) mC0 rfl inlX6 tyX6 tyX6_ok nmX6 mF_n 11 (by decide) k_588 rfl pI rfl rfl (fun _ => rfl) dX6_readThing_83 (fun H locs hP hS => ?_)
      have hP : mP G a (up (up u 0 12 (1 : Int32)) 0 11 ((u 0 11) + (0 : Int32))) H := hP
      refine lv_aload_n hx hb dX6_readThing_86 rfl (lv_at hl 1 rfl) ?_
      refine g_get S hK hP (i := 0) (by omega) mC0 rfl inlX6 13 (by decide) k_75 (v := .ref (a 7)) rfl dX6_readThing_87 ?_
      refine lv_iconst (v := 0) hx hb dX6_readThing_90 (by decide) ?_
      refine lv_iload_n hx hb dX6_readThing_91 rfl (lv_at hl 0 rfl) ?_
      refine g_astN S hK hP hI hS (i := 7) (by omega) mC7 (k := 0) (by omega) (by decide) dX6_readThing_92 (fun H locs hP hS => ?_)
      have hP : mP G a (up (up (up u 0 12 (1 : Int32)) 0 11 ((u 0 11) + (0 : Int32))) 7 0 (u 6 (sN (u 0) 11))) H := hP
      refine lv_iload_n hx hb dX6_readThing_93 rfl (lv_at hl 0 rfl) ?_
      refine lv_bipush (v := 46) hx hb dX6_readThing_94 (by decide) ?_
      refine lv_icmp_ne (tgt := 115) hx hb dX6_readThing_96 (by decide) (fun c4 => ?_) (fun c4 => ?_)
      · skip
        refine lv_iload_n hx hb dX6_readThing_115 rfl (lv_at hl 0 rfl) ?_
        refine lv_bipush (v := 98) hx hb dX6_readThing_116 (by decide) ?_
        refine lv_icmp_eq (tgt := 127) hx hb dX6_readThing_118 (by decide) (fun c5 => ?_) (fun c5 => ?_)
        · skip
          refine lv_aload_n hx hb dX6_readThing_127 rfl (lv_at hl 1 rfl) ?_
          refine g_get S hK hP (i := 0) (by omega) mC0 rfl inlX6 13 (by decide) k_75 (v := .ref (a 7)) rfl dX6_readThing_128 ?_
          refine lv_iconst (v := 1) hx hb dX6_readThing_131 (by decide) ?_
          refine lv_aload_n hx hb dX6_readThing_132 rfl (lv_at hl 1 rfl) ?_
          refine lv_bipush (v := 48) hx hb dX6_readThing_133 (by decide) ?_
          refine lv_bipush (v := 55) hx hb dX6_readThing_135 (by decide) ?_
          refine r_callI S hK hP (c_X6_takes l G a hI (up (up (up u 0 12 (1 : Int32)) 0 11 ((u 0 11) + (0 : Int32))) 7 0 (u 6 (sN (u 0) 11))) _ _ (TI_up7 (TI_b hT))) (r_cw S k_605 k_602 k_603 k_604 k_5 q_X6_takes ⟨Nat.le_of_ble_eq_true rfl, Nat.le_of_ble_eq_true rfl⟩ rfl rfl) (g_recv hK hP (i := 0) (by omega) mC0 rfl) rfl hl.1 rfl (Nat.le_of_ble_eq_true rfl) dX6_readThing_137 ⟨Nat.zero_le _, Nat.zero_le _⟩ hS (fun _ h => h) (fun H locs hP _ _ hS => ?_)
          have hP : mP G a (w_X6_takes (up (up (up u 0 12 (1 : Int32)) 0 11 ((u 0 11) + (0 : Int32))) 7 0 (u 6 (sN (u 0) 11))) (48 : Int32) (55 : Int32)) H := hP
          refine g_astN S hK hP hI hS (i := 7) (by omega) mC7 (k := 1) (by omega) (by decide) dX6_readThing_140 (fun H locs hP hS => ?_)
          have hP : mP G a (up (w_X6_takes (up (up (up u 0 12 (1 : Int32)) 0 11 ((u 0 11) + (0 : Int32))) 7 0 (u 6 (sN (u 0) 11))) (48 : Int32) (55 : Int32)) 7 1 (v_X6_takes (up (up (up u 0 12 (1 : Int32)) 0 11 ((u 0 11) + (0 : Int32))) 7 0 (u 6 (sN (u 0) 11))) (48 : Int32) (55 : Int32))) H := hP
          refine lv_aload_n hx hb dX6_readThing_141 rfl (lv_at hl 1 rfl) ?_
          refine lv_bipush (v := 58) hx hb dX6_readThing_142 (by decide) ?_
          refine lv_bipush (v := 58) hx hb dX6_readThing_144 (by decide) ?_
          refine r_callI S hK hP (c_X6_takes l G a hI (up (w_X6_takes (up (up (up u 0 12 (1 : Int32)) 0 11 ((u 0 11) + (0 : Int32))) 7 0 (u 6 (sN (u 0) 11))) (48 : Int32) (55 : Int32)) 7 1 (v_X6_takes (up (up (up u 0 12 (1 : Int32)) 0 11 ((u 0 11) + (0 : Int32))) 7 0 (u 6 (sN (u 0) 11))) (48 : Int32) (55 : Int32))) _ _ (TI_up7 (takes_TI (TI_up7 (TI_b hT)) (by decide)))) (r_cw S k_605 k_602 k_603 k_604 k_5 q_X6_takes ⟨Nat.le_of_ble_eq_true rfl, Nat.le_of_ble_eq_true rfl⟩ rfl rfl) (g_recv hK hP (i := 0) (by omega) mC0 rfl) rfl hl.1 rfl (Nat.le_of_ble_eq_true rfl) dX6_readThing_146 ⟨Nat.zero_le _, Nat.zero_le _⟩ hS (fun _ h => h) (fun H locs hP _ _ hS => ?_)
          have hP : mP G a (w_X6_takes (up (w_X6_takes (up (up (up u 0 12 (1 : Int32)) 0 11 ((u 0 11) + (0 : Int32))) 7 0 (u 6 (sN (u 0) 11))) (48 : Int32) (55 : Int32)) 7 1 (v_X6_takes (up (up (up u 0 12 (1 : Int32)) 0 11 ((u 0 11) + (0 : Int32))) 7 0 (u 6 (sN (u 0) 11))) (48 : Int32) (55 : Int32))) (58 : Int32) (58 : Int32)) H := hP
          refine lv_istore_n (lv' := [(2, .int (v_X6_takes (up (w_X6_takes (up (up (up u 0 12 (1 : Int32)) 0 11 ((u 0 11) + (0 : Int32))) 7 0 (u 6 (sN (u 0) 11))) (48 : Int32) (55 : Int32)) 7 1 (v_X6_takes (up (up (up u 0 12 (1 : Int32)) 0 11 ((u 0 11) + (0 : Int32))) 7 0 (u 6 (sN (u 0) 11))) (48 : Int32) (55 : Int32))) (58 : Int32) (58 : Int32))), (1, .int (u 6 (sN (u 0) 11))), (0, .ref (a 0))]) hx hb dX6_readThing_149 rfl hl (by decide) rfl (fun ls hl => ?_)
          refine lv_aload_n hx hb dX6_readThing_150 rfl (lv_at hl 2 rfl) ?_
          refine g_get S hK hP (i := 0) (by omega) mC0 rfl inlX6 13 (by decide) k_75 (v := .ref (a 7)) rfl dX6_readThing_151 ?_
          refine lv_iconst (v := 2) hx hb dX6_readThing_154 (by decide) ?_
          refine lv_aload_n hx hb dX6_readThing_155 rfl (lv_at hl 2 rfl) ?_
          refine lv_iconst (v := 1) hx hb dX6_readThing_156 (by decide) ?_
          refine lv_iload_n hx hb dX6_readThing_157 rfl (lv_at hl 1 rfl) ?_
          refine lv_bipush (v := 98) hx hb dX6_readThing_158 (by decide) ?_
          refine lv_icmp_ne (tgt := 169) hx hb dX6_readThing_160 (by decide) (fun c => absurd c5 c) (fun _ => ?_)
          refine lv_sipush (v := 9999) hx hb dX6_readThing_163 (by decide) ?_
          refine lv_goto (tgt := 171) hx hb dX6_readThing_166 (by decide) ?_
          refine r_callI S hK hP (c_X6_takesNumber l G a hI (w_X6_takes (up (w_X6_takes (up (up (up u 0 12 (1 : Int32)) 0 11 ((u 0 11) + (0 : Int32))) 7 0 (u 6 (sN (u 0) 11))) (48 : Int32) (55 : Int32)) 7 1 (v_X6_takes (up (up (up u 0 12 (1 : Int32)) 0 11 ((u 0 11) + (0 : Int32))) 7 0 (u 6 (sN (u 0) 11))) (48 : Int32) (55 : Int32))) (58 : Int32) (58 : Int32)) _ _ (takes_TI (TI_up7 (takes_TI (TI_up7 (TI_b hT)) (by decide))) (by decide)) (by decide)) (r_cw S k_601 k_598 k_599 k_600 k_5 q_X6_takesNumber ⟨Nat.le_of_ble_eq_true rfl, Nat.le_of_ble_eq_true rfl⟩ rfl rfl) (g_recv hK hP (i := 0) (by omega) mC0 rfl) rfl hl.1 rfl (Nat.le_of_ble_eq_true rfl) dX6_readThing_171 ⟨Nat.zero_le _, Nat.zero_le _⟩ hS (fun _ h => h) (fun H locs hP _ _ hS => ?_)
          have hP : mP G a (w_X6_takesNumber (w_X6_takes (up (w_X6_takes (up (up (up u 0 12 (1 : Int32)) 0 11 ((u 0 11) + (0 : Int32))) 7 0 (u 6 (sN (u 0) 11))) (48 : Int32) (55 : Int32)) 7 1 (v_X6_takes (up (up (up u 0 12 (1 : Int32)) 0 11 ((u 0 11) + (0 : Int32))) 7 0 (u 6 (sN (u 0) 11))) (48 : Int32) (55 : Int32))) (58 : Int32) (58 : Int32)) (1 : Int32) (9999 : Int32)) H := hP
          refine g_astN S hK hP hI hS (i := 7) (by omega) mC7 (k := 2) (by omega) (by decide) dX6_readThing_174 (fun H locs hP hS => ?_)
          have hP : mP G a (up (w_X6_takesNumber (w_X6_takes (up (w_X6_takes (up (up (up u 0 12 (1 : Int32)) 0 11 ((u 0 11) + (0 : Int32))) 7 0 (u 6 (sN (u 0) 11))) (48 : Int32) (55 : Int32)) 7 1 (v_X6_takes (up (up (up u 0 12 (1 : Int32)) 0 11 ((u 0 11) + (0 : Int32))) 7 0 (u 6 (sN (u 0) 11))) (48 : Int32) (55 : Int32))) (58 : Int32) (58 : Int32)) (1 : Int32) (9999 : Int32)) 7 2 (v_X6_takesNumber (w_X6_takes (up (w_X6_takes (up (up (up u 0 12 (1 : Int32)) 0 11 ((u 0 11) + (0 : Int32))) 7 0 (u 6 (sN (u 0) 11))) (48 : Int32) (55 : Int32)) 7 1 (v_X6_takes (up (up (up u 0 12 (1 : Int32)) 0 11 ((u 0 11) + (0 : Int32))) 7 0 (u 6 (sN (u 0) 11))) (48 : Int32) (55 : Int32))) (58 : Int32) (58 : Int32)) (1 : Int32) (9999 : Int32))) H := hP
          refine lv_aload_n hx hb dX6_readThing_175 rfl (lv_at hl 2 rfl) ?_
          refine g_get S hK hP (i := 0) (by omega) mC0 rfl inlX6 13 (by decide) k_75 (v := .ref (a 7)) rfl dX6_readThing_176 ?_
          refine lv_iconst (v := 3) hx hb dX6_readThing_179 (by decide) ?_
          refine lv_iload_n hx hb dX6_readThing_180 rfl (lv_at hl 1 rfl) ?_
          refine lv_bipush (v := 98) hx hb dX6_readThing_181 (by decide) ?_
          refine lv_icmp_ne (tgt := 199) hx hb dX6_readThing_183 (by decide) (fun c => absurd c5 c) (fun _ => ?_)
          refine lv_aload_n hx hb dX6_readThing_186 rfl (lv_at hl 2 rfl) ?_
          refine lv_bipush (v := 64) hx hb dX6_readThing_187 (by decide) ?_
          refine lv_bipush (v := 40) hx hb dX6_readThing_189 (by decide) ?_
          refine lv_bipush (v := 20) hx hb dX6_readThing_191 (by decide) ?_
          refine r_callI S hK hP (c_X6_takesBehind l G a hI (up (w_X6_takesNumber (w_X6_takes (up (w_X6_takes (up (up (up u 0 12 (1 : Int32)) 0 11 ((u 0 11) + (0 : Int32))) 7 0 (u 6 (sN (u 0) 11))) (48 : Int32) (55 : Int32)) 7 1 (v_X6_takes (up (up (up u 0 12 (1 : Int32)) 0 11 ((u 0 11) + (0 : Int32))) 7 0 (u 6 (sN (u 0) 11))) (48 : Int32) (55 : Int32))) (58 : Int32) (58 : Int32)) (1 : Int32) (9999 : Int32)) 7 2 (v_X6_takesNumber (w_X6_takes (up (w_X6_takes (up (up (up u 0 12 (1 : Int32)) 0 11 ((u 0 11) + (0 : Int32))) 7 0 (u 6 (sN (u 0) 11))) (48 : Int32) (55 : Int32)) 7 1 (v_X6_takes (up (up (up u 0 12 (1 : Int32)) 0 11 ((u 0 11) + (0 : Int32))) 7 0 (u 6 (sN (u 0) 11))) (48 : Int32) (55 : Int32))) (58 : Int32) (58 : Int32)) (1 : Int32) (9999 : Int32))) _ _ _ (TI_up7 (takesNumber_TI (takes_TI (TI_up7 (takes_TI (TI_up7 (TI_b hT)) (by decide))) (by decide)) (by decide)))) (r_cw S k_613 k_610 k_611 k_612 k_5 q_X6_takesBehind ⟨Nat.le_of_ble_eq_true rfl, Nat.le_of_ble_eq_true rfl⟩ rfl rfl) (g_recv hK hP (i := 0) (by omega) mC0 rfl) rfl hl.1 rfl (Nat.le_of_ble_eq_true rfl) dX6_readThing_193 ⟨Nat.zero_le _, Nat.zero_le _⟩ hS (fun _ h => h) (fun H locs hP _ _ hS => ?_)
          have hP : mP G a (w_X6_takesBehind (up (w_X6_takesNumber (w_X6_takes (up (w_X6_takes (up (up (up u 0 12 (1 : Int32)) 0 11 ((u 0 11) + (0 : Int32))) 7 0 (u 6 (sN (u 0) 11))) (48 : Int32) (55 : Int32)) 7 1 (v_X6_takes (up (up (up u 0 12 (1 : Int32)) 0 11 ((u 0 11) + (0 : Int32))) 7 0 (u 6 (sN (u 0) 11))) (48 : Int32) (55 : Int32))) (58 : Int32) (58 : Int32)) (1 : Int32) (9999 : Int32)) 7 2 (v_X6_takesNumber (w_X6_takes (up (w_X6_takes (up (up (up u 0 12 (1 : Int32)) 0 11 ((u 0 11) + (0 : Int32))) 7 0 (u 6 (sN (u 0) 11))) (48 : Int32) (55 : Int32)) 7 1 (v_X6_takes (up (up (up u 0 12 (1 : Int32)) 0 11 ((u 0 11) + (0 : Int32))) 7 0 (u 6 (sN (u 0) 11))) (48 : Int32) (55 : Int32))) (58 : Int32) (58 : Int32)) (1 : Int32) (9999 : Int32))) (64 : Int32) (40 : Int32) (20 : Int32)) H := hP
          refine lv_goto (tgt := 209) hx hb dX6_readThing_196 (by decide) ?_
          refine g_astN S hK hP hI hS (i := 7) (by omega) mC7 (k := 3) (by omega) (by decide) dX6_readThing_209 (fun H locs hP hS => ?_)
          have hP : mP G a (up (w_X6_takesBehind (up (w_X6_takesNumber (w_X6_takes (up (w_X6_takes (up (up (up u 0 12 (1 : Int32)) 0 11 ((u 0 11) + (0 : Int32))) 7 0 (u 6 (sN (u 0) 11))) (48 : Int32) (55 : Int32)) 7 1 (v_X6_takes (up (up (up u 0 12 (1 : Int32)) 0 11 ((u 0 11) + (0 : Int32))) 7 0 (u 6 (sN (u 0) 11))) (48 : Int32) (55 : Int32))) (58 : Int32) (58 : Int32)) (1 : Int32) (9999 : Int32)) 7 2 (v_X6_takesNumber (w_X6_takes (up (w_X6_takes (up (up (up u 0 12 (1 : Int32)) 0 11 ((u 0 11) + (0 : Int32))) 7 0 (u 6 (sN (u 0) 11))) (48 : Int32) (55 : Int32)) 7 1 (v_X6_takes (up (up (up u 0 12 (1 : Int32)) 0 11 ((u 0 11) + (0 : Int32))) 7 0 (u 6 (sN (u 0) 11))) (48 : Int32) (55 : Int32))) (58 : Int32) (58 : Int32)) (1 : Int32) (9999 : Int32))) (64 : Int32) (40 : Int32) (20 : Int32)) 7 3 (v_X6_takesBehind (up (w_X6_takesNumber (w_X6_takes (up (w_X6_takes (up (up (up u 0 12 (1 : Int32)) 0 11 ((u 0 11) + (0 : Int32))) 7 0 (u 6 (sN (u 0) 11))) (48 : Int32) (55 : Int32)) 7 1 (v_X6_takes (up (up (up u 0 12 (1 : Int32)) 0 11 ((u 0 11) + (0 : Int32))) 7 0 (u 6 (sN (u 0) 11))) (48 : Int32) (55 : Int32))) (58 : Int32) (58 : Int32)) (1 : Int32) (9999 : Int32)) 7 2 (v_X6_takesNumber (w_X6_takes (up (w_X6_takes (up (up (up u 0 12 (1 : Int32)) 0 11 ((u 0 11) + (0 : Int32))) 7 0 (u 6 (sN (u 0) 11))) (48 : Int32) (55 : Int32)) 7 1 (v_X6_takes (up (up (up u 0 12 (1 : Int32)) 0 11 ((u 0 11) + (0 : Int32))) 7 0 (u 6 (sN (u 0) 11))) (48 : Int32) (55 : Int32))) (58 : Int32) (58 : Int32)) (1 : Int32) (9999 : Int32))) (64 : Int32) (40 : Int32) (20 : Int32))) H := hP
          refine lv_aload_n hx hb dX6_readThing_210 rfl (lv_at hl 2 rfl) ?_
          refine g_get S hK hP (i := 0) (by omega) mC0 rfl inlX6 13 (by decide) k_75 (v := .ref (a 7)) rfl dX6_readThing_211 ?_
          refine lv_iconst (v := 4) hx hb dX6_readThing_214 (by decide) ?_
          refine lv_iload_n hx hb dX6_readThing_215 rfl (lv_at hl 1 rfl) ?_
          refine lv_bipush (v := 98) hx hb dX6_readThing_216 (by decide) ?_
          refine lv_icmp_ne (tgt := 234) hx hb dX6_readThing_218 (by decide) (fun c => absurd c5 c) (fun _ => ?_)
          refine lv_aload_n hx hb dX6_readThing_221 rfl (lv_at hl 2 rfl) ?_
          refine lv_bipush (v := 43) hx hb dX6_readThing_222 (by decide) ?_
          refine lv_bipush (v := 99) hx hb dX6_readThing_224 (by decide) ?_
          refine lv_bipush (v := 14) hx hb dX6_readThing_226 (by decide) ?_
          refine r_callI S hK hP (c_X6_takesBehind l G a hI (up (w_X6_takesBehind (up (w_X6_takesNumber (w_X6_takes (up (w_X6_takes (up (up (up u 0 12 (1 : Int32)) 0 11 ((u 0 11) + (0 : Int32))) 7 0 (u 6 (sN (u 0) 11))) (48 : Int32) (55 : Int32)) 7 1 (v_X6_takes (up (up (up u 0 12 (1 : Int32)) 0 11 ((u 0 11) + (0 : Int32))) 7 0 (u 6 (sN (u 0) 11))) (48 : Int32) (55 : Int32))) (58 : Int32) (58 : Int32)) (1 : Int32) (9999 : Int32)) 7 2 (v_X6_takesNumber (w_X6_takes (up (w_X6_takes (up (up (up u 0 12 (1 : Int32)) 0 11 ((u 0 11) + (0 : Int32))) 7 0 (u 6 (sN (u 0) 11))) (48 : Int32) (55 : Int32)) 7 1 (v_X6_takes (up (up (up u 0 12 (1 : Int32)) 0 11 ((u 0 11) + (0 : Int32))) 7 0 (u 6 (sN (u 0) 11))) (48 : Int32) (55 : Int32))) (58 : Int32) (58 : Int32)) (1 : Int32) (9999 : Int32))) (64 : Int32) (40 : Int32) (20 : Int32)) 7 3 (v_X6_takesBehind (up (w_X6_takesNumber (w_X6_takes (up (w_X6_takes (up (up (up u 0 12 (1 : Int32)) 0 11 ((u 0 11) + (0 : Int32))) 7 0 (u 6 (sN (u 0) 11))) (48 : Int32) (55 : Int32)) 7 1 (v_X6_takes (up (up (up u 0 12 (1 : Int32)) 0 11 ((u 0 11) + (0 : Int32))) 7 0 (u 6 (sN (u 0) 11))) (48 : Int32) (55 : Int32))) (58 : Int32) (58 : Int32)) (1 : Int32) (9999 : Int32)) 7 2 (v_X6_takesNumber (w_X6_takes (up (w_X6_takes (up (up (up u 0 12 (1 : Int32)) 0 11 ((u 0 11) + (0 : Int32))) 7 0 (u 6 (sN (u 0) 11))) (48 : Int32) (55 : Int32)) 7 1 (v_X6_takes (up (up (up u 0 12 (1 : Int32)) 0 11 ((u 0 11) + (0 : Int32))) 7 0 (u 6 (sN (u 0) 11))) (48 : Int32) (55 : Int32))) (58 : Int32) (58 : Int32)) (1 : Int32) (9999 : Int32))) (64 : Int32) (40 : Int32) (20 : Int32))) _ _ _ (TI_up7 (takesBehind_TI (TI_up7 (takesNumber_TI (takes_TI (TI_up7 (takes_TI (TI_up7 (TI_b hT)) (by decide))) (by decide)) (by decide)))))) (r_cw S k_613 k_610 k_611 k_612 k_5 q_X6_takesBehind ⟨Nat.le_of_ble_eq_true rfl, Nat.le_of_ble_eq_true rfl⟩ rfl rfl) (g_recv hK hP (i := 0) (by omega) mC0 rfl) rfl hl.1 rfl (Nat.le_of_ble_eq_true rfl) dX6_readThing_228 ⟨Nat.zero_le _, Nat.zero_le _⟩ hS (fun _ h => h) (fun H locs hP _ _ hS => ?_)
          have hP : mP G a (w_X6_takesBehind (up (w_X6_takesBehind (up (w_X6_takesNumber (w_X6_takes (up (w_X6_takes (up (up (up u 0 12 (1 : Int32)) 0 11 ((u 0 11) + (0 : Int32))) 7 0 (u 6 (sN (u 0) 11))) (48 : Int32) (55 : Int32)) 7 1 (v_X6_takes (up (up (up u 0 12 (1 : Int32)) 0 11 ((u 0 11) + (0 : Int32))) 7 0 (u 6 (sN (u 0) 11))) (48 : Int32) (55 : Int32))) (58 : Int32) (58 : Int32)) (1 : Int32) (9999 : Int32)) 7 2 (v_X6_takesNumber (w_X6_takes (up (w_X6_takes (up (up (up u 0 12 (1 : Int32)) 0 11 ((u 0 11) + (0 : Int32))) 7 0 (u 6 (sN (u 0) 11))) (48 : Int32) (55 : Int32)) 7 1 (v_X6_takes (up (up (up u 0 12 (1 : Int32)) 0 11 ((u 0 11) + (0 : Int32))) 7 0 (u 6 (sN (u 0) 11))) (48 : Int32) (55 : Int32))) (58 : Int32) (58 : Int32)) (1 : Int32) (9999 : Int32))) (64 : Int32) (40 : Int32) (20 : Int32)) 7 3 (v_X6_takesBehind (up (w_X6_takesNumber (w_X6_takes (up (w_X6_takes (up (up (up u 0 12 (1 : Int32)) 0 11 ((u 0 11) + (0 : Int32))) 7 0 (u 6 (sN (u 0) 11))) (48 : Int32) (55 : Int32)) 7 1 (v_X6_takes (up (up (up u 0 12 (1 : Int32)) 0 11 ((u 0 11) + (0 : Int32))) 7 0 (u 6 (sN (u 0) 11))) (48 : Int32) (55 : Int32))) (58 : Int32) (58 : Int32)) (1 : Int32) (9999 : Int32)) 7 2 (v_X6_takesNumber (w_X6_takes (up (w_X6_takes (up (up (up u 0 12 (1 : Int32)) 0 11 ((u 0 11) + (0 : Int32))) 7 0 (u 6 (sN (u 0) 11))) (48 : Int32) (55 : Int32)) 7 1 (v_X6_takes (up (up (up u 0 12 (1 : Int32)) 0 11 ((u 0 11) + (0 : Int32))) 7 0 (u 6 (sN (u 0) 11))) (48 : Int32) (55 : Int32))) (58 : Int32) (58 : Int32)) (1 : Int32) (9999 : Int32))) (64 : Int32) (40 : Int32) (20 : Int32))) (43 : Int32) (99 : Int32) (14 : Int32)) H := hP
          refine lv_goto (tgt := 235) hx hb dX6_readThing_231 (by decide) ?_
          refine g_astN S hK hP hI hS (i := 7) (by omega) mC7 (k := 4) (by omega) (by decide) dX6_readThing_235 (fun H locs hP hS => ?_)
          have hP : mP G a (up (w_X6_takesBehind (up (w_X6_takesBehind (up (w_X6_takesNumber (w_X6_takes (up (w_X6_takes (up (up (up u 0 12 (1 : Int32)) 0 11 ((u 0 11) + (0 : Int32))) 7 0 (u 6 (sN (u 0) 11))) (48 : Int32) (55 : Int32)) 7 1 (v_X6_takes (up (up (up u 0 12 (1 : Int32)) 0 11 ((u 0 11) + (0 : Int32))) 7 0 (u 6 (sN (u 0) 11))) (48 : Int32) (55 : Int32))) (58 : Int32) (58 : Int32)) (1 : Int32) (9999 : Int32)) 7 2 (v_X6_takesNumber (w_X6_takes (up (w_X6_takes (up (up (up u 0 12 (1 : Int32)) 0 11 ((u 0 11) + (0 : Int32))) 7 0 (u 6 (sN (u 0) 11))) (48 : Int32) (55 : Int32)) 7 1 (v_X6_takes (up (up (up u 0 12 (1 : Int32)) 0 11 ((u 0 11) + (0 : Int32))) 7 0 (u 6 (sN (u 0) 11))) (48 : Int32) (55 : Int32))) (58 : Int32) (58 : Int32)) (1 : Int32) (9999 : Int32))) (64 : Int32) (40 : Int32) (20 : Int32)) 7 3 (v_X6_takesBehind (up (w_X6_takesNumber (w_X6_takes (up (w_X6_takes (up (up (up u 0 12 (1 : Int32)) 0 11 ((u 0 11) + (0 : Int32))) 7 0 (u 6 (sN (u 0) 11))) (48 : Int32) (55 : Int32)) 7 1 (v_X6_takes (up (up (up u 0 12 (1 : Int32)) 0 11 ((u 0 11) + (0 : Int32))) 7 0 (u 6 (sN (u 0) 11))) (48 : Int32) (55 : Int32))) (58 : Int32) (58 : Int32)) (1 : Int32) (9999 : Int32)) 7 2 (v_X6_takesNumber (w_X6_takes (up (w_X6_takes (up (up (up u 0 12 (1 : Int32)) 0 11 ((u 0 11) + (0 : Int32))) 7 0 (u 6 (sN (u 0) 11))) (48 : Int32) (55 : Int32)) 7 1 (v_X6_takes (up (up (up u 0 12 (1 : Int32)) 0 11 ((u 0 11) + (0 : Int32))) 7 0 (u 6 (sN (u 0) 11))) (48 : Int32) (55 : Int32))) (58 : Int32) (58 : Int32)) (1 : Int32) (9999 : Int32))) (64 : Int32) (40 : Int32) (20 : Int32))) (43 : Int32) (99 : Int32) (14 : Int32)) 7 4 (v_X6_takesBehind (up (w_X6_takesBehind (up (w_X6_takesNumber (w_X6_takes (up (w_X6_takes (up (up (up u 0 12 (1 : Int32)) 0 11 ((u 0 11) + (0 : Int32))) 7 0 (u 6 (sN (u 0) 11))) (48 : Int32) (55 : Int32)) 7 1 (v_X6_takes (up (up (up u 0 12 (1 : Int32)) 0 11 ((u 0 11) + (0 : Int32))) 7 0 (u 6 (sN (u 0) 11))) (48 : Int32) (55 : Int32))) (58 : Int32) (58 : Int32)) (1 : Int32) (9999 : Int32)) 7 2 (v_X6_takesNumber (w_X6_takes (up (w_X6_takes (up (up (up u 0 12 (1 : Int32)) 0 11 ((u 0 11) + (0 : Int32))) 7 0 (u 6 (sN (u 0) 11))) (48 : Int32) (55 : Int32)) 7 1 (v_X6_takes (up (up (up u 0 12 (1 : Int32)) 0 11 ((u 0 11) + (0 : Int32))) 7 0 (u 6 (sN (u 0) 11))) (48 : Int32) (55 : Int32))) (58 : Int32) (58 : Int32)) (1 : Int32) (9999 : Int32))) (64 : Int32) (40 : Int32) (20 : Int32)) 7 3 (v_X6_takesBehind (up (w_X6_takesNumber (w_X6_takes (up (w_X6_takes (up (up (up u 0 12 (1 : Int32)) 0 11 ((u 0 11) + (0 : Int32))) 7 0 (u 6 (sN (u 0) 11))) (48 : Int32) (55 : Int32)) 7 1 (v_X6_takes (up (up (up u 0 12 (1 : Int32)) 0 11 ((u 0 11) + (0 : Int32))) 7 0 (u 6 (sN (u 0) 11))) (48 : Int32) (55 : Int32))) (58 : Int32) (58 : Int32)) (1 : Int32) (9999 : Int32)) 7 2 (v_X6_takesNumber (w_X6_takes (up (w_X6_takes (up (up (up u 0 12 (1 : Int32)) 0 11 ((u 0 11) + (0 : Int32))) 7 0 (u 6 (sN (u 0) 11))) (48 : Int32) (55 : Int32)) 7 1 (v_X6_takes (up (up (up u 0 12 (1 : Int32)) 0 11 ((u 0 11) + (0 : Int32))) 7 0 (u 6 (sN (u 0) 11))) (48 : Int32) (55 : Int32))) (58 : Int32) (58 : Int32)) (1 : Int32) (9999 : Int32))) (64 : Int32) (40 : Int32) (20 : Int32))) (43 : Int32) (99 : Int32) (14 : Int32))) H := hP
          exact e_void S hr hlk hK hS (gP_eq (show w_X6_readThing u  = up (w_X6_takesBehind (up (w_X6_takesBehind (up (w_X6_takesNumber (w_X6_takes (up (w_X6_takes (up (up (up u 0 12 (1 : Int32)) 0 11 ((u 0 11) + (0 : Int32))) 7 0 (u 6 (sN (u 0) 11))) (48 : Int32) (55 : Int32)) 7 1 (v_X6_takes (up (up (up u 0 12 (1 : Int32)) 0 11 ((u 0 11) + (0 : Int32))) 7 0 (u 6 (sN (u 0) 11))) (48 : Int32) (55 : Int32))) (58 : Int32) (58 : Int32)) (1 : Int32) (9999 : Int32)) 7 2 (v_X6_takesNumber (w_X6_takes (up (w_X6_takes (up (up (up u 0 12 (1 : Int32)) 0 11 ((u 0 11) + (0 : Int32))) 7 0 (u 6 (sN (u 0) 11))) (48 : Int32) (55 : Int32)) 7 1 (v_X6_takes (up (up (up u 0 12 (1 : Int32)) 0 11 ((u 0 11) + (0 : Int32))) 7 0 (u 6 (sN (u 0) 11))) (48 : Int32) (55 : Int32))) (58 : Int32) (58 : Int32)) (1 : Int32) (9999 : Int32))) (64 : Int32) (40 : Int32) (20 : Int32)) 7 3 (v_X6_takesBehind (up (w_X6_takesNumber (w_X6_takes (up (w_X6_takes (up (up (up u 0 12 (1 : Int32)) 0 11 ((u 0 11) + (0 : Int32))) 7 0 (u 6 (sN (u 0) 11))) (48 : Int32) (55 : Int32)) 7 1 (v_X6_takes (up (up (up u 0 12 (1 : Int32)) 0 11 ((u 0 11) + (0 : Int32))) 7 0 (u 6 (sN (u 0) 11))) (48 : Int32) (55 : Int32))) (58 : Int32) (58 : Int32)) (1 : Int32) (9999 : Int32)) 7 2 (v_X6_takesNumber (w_X6_takes (up (w_X6_takes (up (up (up u 0 12 (1 : Int32)) 0 11 ((u 0 11) + (0 : Int32))) 7 0 (u 6 (sN (u 0) 11))) (48 : Int32) (55 : Int32)) 7 1 (v_X6_takes (up (up (up u 0 12 (1 : Int32)) 0 11 ((u 0 11) + (0 : Int32))) 7 0 (u 6 (sN (u 0) 11))) (48 : Int32) (55 : Int32))) (58 : Int32) (58 : Int32)) (1 : Int32) (9999 : Int32))) (64 : Int32) (40 : Int32) (20 : Int32))) (43 : Int32) (99 : Int32) (14 : Int32)) 7 4 (v_X6_takesBehind (up (w_X6_takesBehind (up (w_X6_takesNumber (w_X6_takes (up (w_X6_takes (up (up (up u 0 12 (1 : Int32)) 0 11 ((u 0 11) + (0 : Int32))) 7 0 (u 6 (sN (u 0) 11))) (48 : Int32) (55 : Int32)) 7 1 (v_X6_takes (up (up (up u 0 12 (1 : Int32)) 0 11 ((u 0 11) + (0 : Int32))) 7 0 (u 6 (sN (u 0) 11))) (48 : Int32) (55 : Int32))) (58 : Int32) (58 : Int32)) (1 : Int32) (9999 : Int32)) 7 2 (v_X6_takesNumber (w_X6_takes (up (w_X6_takes (up (up (up u 0 12 (1 : Int32)) 0 11 ((u 0 11) + (0 : Int32))) 7 0 (u 6 (sN (u 0) 11))) (48 : Int32) (55 : Int32)) 7 1 (v_X6_takes (up (up (up u 0 12 (1 : Int32)) 0 11 ((u 0 11) + (0 : Int32))) 7 0 (u 6 (sN (u 0) 11))) (48 : Int32) (55 : Int32))) (58 : Int32) (58 : Int32)) (1 : Int32) (9999 : Int32))) (64 : Int32) (40 : Int32) (20 : Int32)) 7 3 (v_X6_takesBehind (up (w_X6_takesNumber (w_X6_takes (up (w_X6_takes (up (up (up u 0 12 (1 : Int32)) 0 11 ((u 0 11) + (0 : Int32))) 7 0 (u 6 (sN (u 0) 11))) (48 : Int32) (55 : Int32)) 7 1 (v_X6_takes (up (up (up u 0 12 (1 : Int32)) 0 11 ((u 0 11) + (0 : Int32))) 7 0 (u 6 (sN (u 0) 11))) (48 : Int32) (55 : Int32))) (58 : Int32) (58 : Int32)) (1 : Int32) (9999 : Int32)) 7 2 (v_X6_takesNumber (w_X6_takes (up (w_X6_takes (up (up (up u 0 12 (1 : Int32)) 0 11 ((u 0 11) + (0 : Int32))) 7 0 (u 6 (sN (u 0) 11))) (48 : Int32) (55 : Int32)) 7 1 (v_X6_takes (up (up (up u 0 12 (1 : Int32)) 0 11 ((u 0 11) + (0 : Int32))) 7 0 (u 6 (sN (u 0) 11))) (48 : Int32) (55 : Int32))) (58 : Int32) (58 : Int32)) (1 : Int32) (9999 : Int32))) (64 : Int32) (40 : Int32) (20 : Int32))) (43 : Int32) (99 : Int32) (14 : Int32)) from (if_neg c1).trans ((if_neg c3).trans ((if_neg c4).trans ((if_pos c5).trans rfl)))) hP) dX6_readThing_236
        · skip
          refine lv_iload_n hx hb dX6_readThing_121 rfl (lv_at hl 0 rfl) ?_
          refine lv_bipush (v := 112) hx hb dX6_readThing_122 (by decide) ?_
          refine lv_icmp_ne (tgt := 236) hx hb dX6_readThing_124 (by decide) (fun c6 => ?_) (fun c6 => ?_)
          · skip
            exact e_void S hr hlk hK hS (gP_eq (show w_X6_readThing u  = up (up (up u 0 12 (1 : Int32)) 0 11 ((u 0 11) + (0 : Int32))) 7 0 (u 6 (sN (u 0) 11)) from (if_neg c1).trans ((if_neg c3).trans ((if_neg c4).trans ((if_neg c5).trans ((if_neg c6).trans rfl))))) hP) dX6_readThing_236
          · skip
            refine lv_aload_n hx hb dX6_readThing_127 rfl (lv_at hl 1 rfl) ?_
            refine g_get S hK hP (i := 0) (by omega) mC0 rfl inlX6 13 (by decide) k_75 (v := .ref (a 7)) rfl dX6_readThing_128 ?_
            refine lv_iconst (v := 1) hx hb dX6_readThing_131 (by decide) ?_
            refine lv_aload_n hx hb dX6_readThing_132 rfl (lv_at hl 1 rfl) ?_
            refine lv_bipush (v := 48) hx hb dX6_readThing_133 (by decide) ?_
            refine lv_bipush (v := 55) hx hb dX6_readThing_135 (by decide) ?_
            refine r_callI S hK hP (c_X6_takes l G a hI (up (up (up u 0 12 (1 : Int32)) 0 11 ((u 0 11) + (0 : Int32))) 7 0 (u 6 (sN (u 0) 11))) _ _ (TI_up7 (TI_b hT))) (r_cw S k_605 k_602 k_603 k_604 k_5 q_X6_takes ⟨Nat.le_of_ble_eq_true rfl, Nat.le_of_ble_eq_true rfl⟩ rfl rfl) (g_recv hK hP (i := 0) (by omega) mC0 rfl) rfl hl.1 rfl (Nat.le_of_ble_eq_true rfl) dX6_readThing_137 ⟨Nat.zero_le _, Nat.zero_le _⟩ hS (fun _ h => h) (fun H locs hP _ _ hS => ?_)
            have hP : mP G a (w_X6_takes (up (up (up u 0 12 (1 : Int32)) 0 11 ((u 0 11) + (0 : Int32))) 7 0 (u 6 (sN (u 0) 11))) (48 : Int32) (55 : Int32)) H := hP
            refine g_astN S hK hP hI hS (i := 7) (by omega) mC7 (k := 1) (by omega) (by decide) dX6_readThing_140 (fun H locs hP hS => ?_)
            have hP : mP G a (up (w_X6_takes (up (up (up u 0 12 (1 : Int32)) 0 11 ((u 0 11) + (0 : Int32))) 7 0 (u 6 (sN (u 0) 11))) (48 : Int32) (55 : Int32)) 7 1 (v_X6_takes (up (up (up u 0 12 (1 : Int32)) 0 11 ((u 0 11) + (0 : Int32))) 7 0 (u 6 (sN (u 0) 11))) (48 : Int32) (55 : Int32))) H := hP
            refine lv_aload_n hx hb dX6_readThing_141 rfl (lv_at hl 1 rfl) ?_
            refine lv_bipush (v := 58) hx hb dX6_readThing_142 (by decide) ?_
            refine lv_bipush (v := 58) hx hb dX6_readThing_144 (by decide) ?_
            refine r_callI S hK hP (c_X6_takes l G a hI (up (w_X6_takes (up (up (up u 0 12 (1 : Int32)) 0 11 ((u 0 11) + (0 : Int32))) 7 0 (u 6 (sN (u 0) 11))) (48 : Int32) (55 : Int32)) 7 1 (v_X6_takes (up (up (up u 0 12 (1 : Int32)) 0 11 ((u 0 11) + (0 : Int32))) 7 0 (u 6 (sN (u 0) 11))) (48 : Int32) (55 : Int32))) _ _ (TI_up7 (takes_TI (TI_up7 (TI_b hT)) (by decide)))) (r_cw S k_605 k_602 k_603 k_604 k_5 q_X6_takes ⟨Nat.le_of_ble_eq_true rfl, Nat.le_of_ble_eq_true rfl⟩ rfl rfl) (g_recv hK hP (i := 0) (by omega) mC0 rfl) rfl hl.1 rfl (Nat.le_of_ble_eq_true rfl) dX6_readThing_146 ⟨Nat.zero_le _, Nat.zero_le _⟩ hS (fun _ h => h) (fun H locs hP _ _ hS => ?_)
            have hP : mP G a (w_X6_takes (up (w_X6_takes (up (up (up u 0 12 (1 : Int32)) 0 11 ((u 0 11) + (0 : Int32))) 7 0 (u 6 (sN (u 0) 11))) (48 : Int32) (55 : Int32)) 7 1 (v_X6_takes (up (up (up u 0 12 (1 : Int32)) 0 11 ((u 0 11) + (0 : Int32))) 7 0 (u 6 (sN (u 0) 11))) (48 : Int32) (55 : Int32))) (58 : Int32) (58 : Int32)) H := hP
            refine lv_istore_n (lv' := [(2, .int (v_X6_takes (up (w_X6_takes (up (up (up u 0 12 (1 : Int32)) 0 11 ((u 0 11) + (0 : Int32))) 7 0 (u 6 (sN (u 0) 11))) (48 : Int32) (55 : Int32)) 7 1 (v_X6_takes (up (up (up u 0 12 (1 : Int32)) 0 11 ((u 0 11) + (0 : Int32))) 7 0 (u 6 (sN (u 0) 11))) (48 : Int32) (55 : Int32))) (58 : Int32) (58 : Int32))), (1, .int (u 6 (sN (u 0) 11))), (0, .ref (a 0))]) hx hb dX6_readThing_149 rfl hl (by decide) rfl (fun ls hl => ?_)
            refine lv_aload_n hx hb dX6_readThing_150 rfl (lv_at hl 2 rfl) ?_
            refine g_get S hK hP (i := 0) (by omega) mC0 rfl inlX6 13 (by decide) k_75 (v := .ref (a 7)) rfl dX6_readThing_151 ?_
            refine lv_iconst (v := 2) hx hb dX6_readThing_154 (by decide) ?_
            refine lv_aload_n hx hb dX6_readThing_155 rfl (lv_at hl 2 rfl) ?_
            refine lv_iconst (v := 1) hx hb dX6_readThing_156 (by decide) ?_
            refine lv_iload_n hx hb dX6_readThing_157 rfl (lv_at hl 1 rfl) ?_
            refine lv_bipush (v := 98) hx hb dX6_readThing_158 (by decide) ?_
            refine lv_icmp_ne (tgt := 169) hx hb dX6_readThing_160 (by decide) (fun _ => ?_) (fun c => absurd c c5)
            refine lv_ldc hx hb hown (S.2.2.2.2 _ k_270) dX6_readThing_169 ?_
            refine r_callI S hK hP (c_X6_takesNumber l G a hI (w_X6_takes (up (w_X6_takes (up (up (up u 0 12 (1 : Int32)) 0 11 ((u 0 11) + (0 : Int32))) 7 0 (u 6 (sN (u 0) 11))) (48 : Int32) (55 : Int32)) 7 1 (v_X6_takes (up (up (up u 0 12 (1 : Int32)) 0 11 ((u 0 11) + (0 : Int32))) 7 0 (u 6 (sN (u 0) 11))) (48 : Int32) (55 : Int32))) (58 : Int32) (58 : Int32)) _ _ (takes_TI (TI_up7 (takes_TI (TI_up7 (TI_b hT)) (by decide))) (by decide)) (by decide)) (r_cw S k_601 k_598 k_599 k_600 k_5 q_X6_takesNumber ⟨Nat.le_of_ble_eq_true rfl, Nat.le_of_ble_eq_true rfl⟩ rfl rfl) (g_recv hK hP (i := 0) (by omega) mC0 rfl) rfl hl.1 rfl (Nat.le_of_ble_eq_true rfl) dX6_readThing_171 ⟨Nat.zero_le _, Nat.zero_le _⟩ hS (fun _ h => h) (fun H locs hP _ _ hS => ?_)
            have hP : mP G a (w_X6_takesNumber (w_X6_takes (up (w_X6_takes (up (up (up u 0 12 (1 : Int32)) 0 11 ((u 0 11) + (0 : Int32))) 7 0 (u 6 (sN (u 0) 11))) (48 : Int32) (55 : Int32)) 7 1 (v_X6_takes (up (up (up u 0 12 (1 : Int32)) 0 11 ((u 0 11) + (0 : Int32))) 7 0 (u 6 (sN (u 0) 11))) (48 : Int32) (55 : Int32))) (58 : Int32) (58 : Int32)) (1 : Int32) (99999 : Int32)) H := hP
            refine g_astN S hK hP hI hS (i := 7) (by omega) mC7 (k := 2) (by omega) (by decide) dX6_readThing_174 (fun H locs hP hS => ?_)
            have hP : mP G a (up (w_X6_takesNumber (w_X6_takes (up (w_X6_takes (up (up (up u 0 12 (1 : Int32)) 0 11 ((u 0 11) + (0 : Int32))) 7 0 (u 6 (sN (u 0) 11))) (48 : Int32) (55 : Int32)) 7 1 (v_X6_takes (up (up (up u 0 12 (1 : Int32)) 0 11 ((u 0 11) + (0 : Int32))) 7 0 (u 6 (sN (u 0) 11))) (48 : Int32) (55 : Int32))) (58 : Int32) (58 : Int32)) (1 : Int32) (99999 : Int32)) 7 2 (v_X6_takesNumber (w_X6_takes (up (w_X6_takes (up (up (up u 0 12 (1 : Int32)) 0 11 ((u 0 11) + (0 : Int32))) 7 0 (u 6 (sN (u 0) 11))) (48 : Int32) (55 : Int32)) 7 1 (v_X6_takes (up (up (up u 0 12 (1 : Int32)) 0 11 ((u 0 11) + (0 : Int32))) 7 0 (u 6 (sN (u 0) 11))) (48 : Int32) (55 : Int32))) (58 : Int32) (58 : Int32)) (1 : Int32) (99999 : Int32))) H := hP
            refine lv_aload_n hx hb dX6_readThing_175 rfl (lv_at hl 2 rfl) ?_
            refine g_get S hK hP (i := 0) (by omega) mC0 rfl inlX6 13 (by decide) k_75 (v := .ref (a 7)) rfl dX6_readThing_176 ?_
            refine lv_iconst (v := 3) hx hb dX6_readThing_179 (by decide) ?_
            refine lv_iload_n hx hb dX6_readThing_180 rfl (lv_at hl 1 rfl) ?_
            refine lv_bipush (v := 98) hx hb dX6_readThing_181 (by decide) ?_
            refine lv_icmp_ne (tgt := 199) hx hb dX6_readThing_183 (by decide) (fun _ => ?_) (fun c => absurd c c5)
            refine lv_aload_n hx hb dX6_readThing_199 rfl (lv_at hl 2 rfl) ?_
            refine lv_bipush (v := 35) hx hb dX6_readThing_200 (by decide) ?_
            refine lv_bipush (v := 39) hx hb dX6_readThing_202 (by decide) ?_
            refine lv_bipush (v := -5) hx hb dX6_readThing_204 (by decide) ?_
            refine r_callI S hK hP (c_X6_takesBehind l G a hI (up (w_X6_takesNumber (w_X6_takes (up (w_X6_takes (up (up (up u 0 12 (1 : Int32)) 0 11 ((u 0 11) + (0 : Int32))) 7 0 (u 6 (sN (u 0) 11))) (48 : Int32) (55 : Int32)) 7 1 (v_X6_takes (up (up (up u 0 12 (1 : Int32)) 0 11 ((u 0 11) + (0 : Int32))) 7 0 (u 6 (sN (u 0) 11))) (48 : Int32) (55 : Int32))) (58 : Int32) (58 : Int32)) (1 : Int32) (99999 : Int32)) 7 2 (v_X6_takesNumber (w_X6_takes (up (w_X6_takes (up (up (up u 0 12 (1 : Int32)) 0 11 ((u 0 11) + (0 : Int32))) 7 0 (u 6 (sN (u 0) 11))) (48 : Int32) (55 : Int32)) 7 1 (v_X6_takes (up (up (up u 0 12 (1 : Int32)) 0 11 ((u 0 11) + (0 : Int32))) 7 0 (u 6 (sN (u 0) 11))) (48 : Int32) (55 : Int32))) (58 : Int32) (58 : Int32)) (1 : Int32) (99999 : Int32))) _ _ _ (TI_up7 (takesNumber_TI (takes_TI (TI_up7 (takes_TI (TI_up7 (TI_b hT)) (by decide))) (by decide)) (by decide)))) (r_cw S k_613 k_610 k_611 k_612 k_5 q_X6_takesBehind ⟨Nat.le_of_ble_eq_true rfl, Nat.le_of_ble_eq_true rfl⟩ rfl rfl) (g_recv hK hP (i := 0) (by omega) mC0 rfl) rfl hl.1 rfl (Nat.le_of_ble_eq_true rfl) dX6_readThing_206 ⟨Nat.zero_le _, Nat.zero_le _⟩ hS (fun _ h => h) (fun H locs hP _ _ hS => ?_)
            have hP : mP G a (w_X6_takesBehind (up (w_X6_takesNumber (w_X6_takes (up (w_X6_takes (up (up (up u 0 12 (1 : Int32)) 0 11 ((u 0 11) + (0 : Int32))) 7 0 (u 6 (sN (u 0) 11))) (48 : Int32) (55 : Int32)) 7 1 (v_X6_takes (up (up (up u 0 12 (1 : Int32)) 0 11 ((u 0 11) + (0 : Int32))) 7 0 (u 6 (sN (u 0) 11))) (48 : Int32) (55 : Int32))) (58 : Int32) (58 : Int32)) (1 : Int32) (99999 : Int32)) 7 2 (v_X6_takesNumber (w_X6_takes (up (w_X6_takes (up (up (up u 0 12 (1 : Int32)) 0 11 ((u 0 11) + (0 : Int32))) 7 0 (u 6 (sN (u 0) 11))) (48 : Int32) (55 : Int32)) 7 1 (v_X6_takes (up (up (up u 0 12 (1 : Int32)) 0 11 ((u 0 11) + (0 : Int32))) 7 0 (u 6 (sN (u 0) 11))) (48 : Int32) (55 : Int32))) (58 : Int32) (58 : Int32)) (1 : Int32) (99999 : Int32))) (35 : Int32) (39 : Int32) (-5 : Int32)) H := hP
            refine g_astN S hK hP hI hS (i := 7) (by omega) mC7 (k := 3) (by omega) (by decide) dX6_readThing_209 (fun H locs hP hS => ?_)
            have hP : mP G a (up (w_X6_takesBehind (up (w_X6_takesNumber (w_X6_takes (up (w_X6_takes (up (up (up u 0 12 (1 : Int32)) 0 11 ((u 0 11) + (0 : Int32))) 7 0 (u 6 (sN (u 0) 11))) (48 : Int32) (55 : Int32)) 7 1 (v_X6_takes (up (up (up u 0 12 (1 : Int32)) 0 11 ((u 0 11) + (0 : Int32))) 7 0 (u 6 (sN (u 0) 11))) (48 : Int32) (55 : Int32))) (58 : Int32) (58 : Int32)) (1 : Int32) (99999 : Int32)) 7 2 (v_X6_takesNumber (w_X6_takes (up (w_X6_takes (up (up (up u 0 12 (1 : Int32)) 0 11 ((u 0 11) + (0 : Int32))) 7 0 (u 6 (sN (u 0) 11))) (48 : Int32) (55 : Int32)) 7 1 (v_X6_takes (up (up (up u 0 12 (1 : Int32)) 0 11 ((u 0 11) + (0 : Int32))) 7 0 (u 6 (sN (u 0) 11))) (48 : Int32) (55 : Int32))) (58 : Int32) (58 : Int32)) (1 : Int32) (99999 : Int32))) (35 : Int32) (39 : Int32) (-5 : Int32)) 7 3 (v_X6_takesBehind (up (w_X6_takesNumber (w_X6_takes (up (w_X6_takes (up (up (up u 0 12 (1 : Int32)) 0 11 ((u 0 11) + (0 : Int32))) 7 0 (u 6 (sN (u 0) 11))) (48 : Int32) (55 : Int32)) 7 1 (v_X6_takes (up (up (up u 0 12 (1 : Int32)) 0 11 ((u 0 11) + (0 : Int32))) 7 0 (u 6 (sN (u 0) 11))) (48 : Int32) (55 : Int32))) (58 : Int32) (58 : Int32)) (1 : Int32) (99999 : Int32)) 7 2 (v_X6_takesNumber (w_X6_takes (up (w_X6_takes (up (up (up u 0 12 (1 : Int32)) 0 11 ((u 0 11) + (0 : Int32))) 7 0 (u 6 (sN (u 0) 11))) (48 : Int32) (55 : Int32)) 7 1 (v_X6_takes (up (up (up u 0 12 (1 : Int32)) 0 11 ((u 0 11) + (0 : Int32))) 7 0 (u 6 (sN (u 0) 11))) (48 : Int32) (55 : Int32))) (58 : Int32) (58 : Int32)) (1 : Int32) (99999 : Int32))) (35 : Int32) (39 : Int32) (-5 : Int32))) H := hP
            refine lv_aload_n hx hb dX6_readThing_210 rfl (lv_at hl 2 rfl) ?_
            refine g_get S hK hP (i := 0) (by omega) mC0 rfl inlX6 13 (by decide) k_75 (v := .ref (a 7)) rfl dX6_readThing_211 ?_
            refine lv_iconst (v := 4) hx hb dX6_readThing_214 (by decide) ?_
            refine lv_iload_n hx hb dX6_readThing_215 rfl (lv_at hl 1 rfl) ?_
            refine lv_bipush (v := 98) hx hb dX6_readThing_216 (by decide) ?_
            refine lv_icmp_ne (tgt := 234) hx hb dX6_readThing_218 (by decide) (fun _ => ?_) (fun c => absurd c c5)
            refine lv_iconst (v := 0) hx hb dX6_readThing_234 (by decide) ?_
            refine g_astN S hK hP hI hS (i := 7) (by omega) mC7 (k := 4) (by omega) (by decide) dX6_readThing_235 (fun H locs hP hS => ?_)
            have hP : mP G a (up (up (w_X6_takesBehind (up (w_X6_takesNumber (w_X6_takes (up (w_X6_takes (up (up (up u 0 12 (1 : Int32)) 0 11 ((u 0 11) + (0 : Int32))) 7 0 (u 6 (sN (u 0) 11))) (48 : Int32) (55 : Int32)) 7 1 (v_X6_takes (up (up (up u 0 12 (1 : Int32)) 0 11 ((u 0 11) + (0 : Int32))) 7 0 (u 6 (sN (u 0) 11))) (48 : Int32) (55 : Int32))) (58 : Int32) (58 : Int32)) (1 : Int32) (99999 : Int32)) 7 2 (v_X6_takesNumber (w_X6_takes (up (w_X6_takes (up (up (up u 0 12 (1 : Int32)) 0 11 ((u 0 11) + (0 : Int32))) 7 0 (u 6 (sN (u 0) 11))) (48 : Int32) (55 : Int32)) 7 1 (v_X6_takes (up (up (up u 0 12 (1 : Int32)) 0 11 ((u 0 11) + (0 : Int32))) 7 0 (u 6 (sN (u 0) 11))) (48 : Int32) (55 : Int32))) (58 : Int32) (58 : Int32)) (1 : Int32) (99999 : Int32))) (35 : Int32) (39 : Int32) (-5 : Int32)) 7 3 (v_X6_takesBehind (up (w_X6_takesNumber (w_X6_takes (up (w_X6_takes (up (up (up u 0 12 (1 : Int32)) 0 11 ((u 0 11) + (0 : Int32))) 7 0 (u 6 (sN (u 0) 11))) (48 : Int32) (55 : Int32)) 7 1 (v_X6_takes (up (up (up u 0 12 (1 : Int32)) 0 11 ((u 0 11) + (0 : Int32))) 7 0 (u 6 (sN (u 0) 11))) (48 : Int32) (55 : Int32))) (58 : Int32) (58 : Int32)) (1 : Int32) (99999 : Int32)) 7 2 (v_X6_takesNumber (w_X6_takes (up (w_X6_takes (up (up (up u 0 12 (1 : Int32)) 0 11 ((u 0 11) + (0 : Int32))) 7 0 (u 6 (sN (u 0) 11))) (48 : Int32) (55 : Int32)) 7 1 (v_X6_takes (up (up (up u 0 12 (1 : Int32)) 0 11 ((u 0 11) + (0 : Int32))) 7 0 (u 6 (sN (u 0) 11))) (48 : Int32) (55 : Int32))) (58 : Int32) (58 : Int32)) (1 : Int32) (99999 : Int32))) (35 : Int32) (39 : Int32) (-5 : Int32))) 7 4 (0 : Int32)) H := hP
            exact e_void S hr hlk hK hS (gP_eq (show w_X6_readThing u  = up (up (w_X6_takesBehind (up (w_X6_takesNumber (w_X6_takes (up (w_X6_takes (up (up (up u 0 12 (1 : Int32)) 0 11 ((u 0 11) + (0 : Int32))) 7 0 (u 6 (sN (u 0) 11))) (48 : Int32) (55 : Int32)) 7 1 (v_X6_takes (up (up (up u 0 12 (1 : Int32)) 0 11 ((u 0 11) + (0 : Int32))) 7 0 (u 6 (sN (u 0) 11))) (48 : Int32) (55 : Int32))) (58 : Int32) (58 : Int32)) (1 : Int32) (99999 : Int32)) 7 2 (v_X6_takesNumber (w_X6_takes (up (w_X6_takes (up (up (up u 0 12 (1 : Int32)) 0 11 ((u 0 11) + (0 : Int32))) 7 0 (u 6 (sN (u 0) 11))) (48 : Int32) (55 : Int32)) 7 1 (v_X6_takes (up (up (up u 0 12 (1 : Int32)) 0 11 ((u 0 11) + (0 : Int32))) 7 0 (u 6 (sN (u 0) 11))) (48 : Int32) (55 : Int32))) (58 : Int32) (58 : Int32)) (1 : Int32) (99999 : Int32))) (35 : Int32) (39 : Int32) (-5 : Int32)) 7 3 (v_X6_takesBehind (up (w_X6_takesNumber (w_X6_takes (up (w_X6_takes (up (up (up u 0 12 (1 : Int32)) 0 11 ((u 0 11) + (0 : Int32))) 7 0 (u 6 (sN (u 0) 11))) (48 : Int32) (55 : Int32)) 7 1 (v_X6_takes (up (up (up u 0 12 (1 : Int32)) 0 11 ((u 0 11) + (0 : Int32))) 7 0 (u 6 (sN (u 0) 11))) (48 : Int32) (55 : Int32))) (58 : Int32) (58 : Int32)) (1 : Int32) (99999 : Int32)) 7 2 (v_X6_takesNumber (w_X6_takes (up (w_X6_takes (up (up (up u 0 12 (1 : Int32)) 0 11 ((u 0 11) + (0 : Int32))) 7 0 (u 6 (sN (u 0) 11))) (48 : Int32) (55 : Int32)) 7 1 (v_X6_takes (up (up (up u 0 12 (1 : Int32)) 0 11 ((u 0 11) + (0 : Int32))) 7 0 (u 6 (sN (u 0) 11))) (48 : Int32) (55 : Int32))) (58 : Int32) (58 : Int32)) (1 : Int32) (99999 : Int32))) (35 : Int32) (39 : Int32) (-5 : Int32))) 7 4 (0 : Int32) from (if_neg c1).trans ((if_neg c3).trans ((if_neg c4).trans ((if_neg c5).trans ((if_pos c6).trans rfl))))) hP) dX6_readThing_236
      · skip
        refine lv_aload_n hx hb dX6_readThing_99 rfl (lv_at hl 1 rfl) ?_
        refine g_get S hK hP (i := 0) (by omega) mC0 rfl inlX6 13 (by decide) k_75 (v := .ref (a 7)) rfl dX6_readThing_100 ?_
        refine lv_iconst (v := 1) hx hb dX6_readThing_103 (by decide) ?_
        refine lv_aload_n hx hb dX6_readThing_104 rfl (lv_at hl 1 rfl) ?_
        refine lv_iconst (v := 1) hx hb dX6_readThing_105 (by decide) ?_
        refine lv_bipush (v := 99) hx hb dX6_readThing_106 (by decide) ?_
        refine r_callI S hK hP (c_X6_takesNumber l G a hI (up (up (up u 0 12 (1 : Int32)) 0 11 ((u 0 11) + (0 : Int32))) 7 0 (u 6 (sN (u 0) 11))) _ _ (TI_up7 (TI_b hT)) (by decide)) (r_cw S k_601 k_598 k_599 k_600 k_5 q_X6_takesNumber ⟨Nat.le_of_ble_eq_true rfl, Nat.le_of_ble_eq_true rfl⟩ rfl rfl) (g_recv hK hP (i := 0) (by omega) mC0 rfl) rfl hl.1 rfl (Nat.le_of_ble_eq_true rfl) dX6_readThing_108 ⟨Nat.zero_le _, Nat.zero_le _⟩ hS (fun _ h => h) (fun H locs hP _ _ hS => ?_)
        have hP : mP G a (w_X6_takesNumber (up (up (up u 0 12 (1 : Int32)) 0 11 ((u 0 11) + (0 : Int32))) 7 0 (u 6 (sN (u 0) 11))) (1 : Int32) (99 : Int32)) H := hP
        refine g_astN S hK hP hI hS (i := 7) (by omega) mC7 (k := 1) (by omega) (by decide) dX6_readThing_111 (fun H locs hP hS => ?_)
        have hP : mP G a (up (w_X6_takesNumber (up (up (up u 0 12 (1 : Int32)) 0 11 ((u 0 11) + (0 : Int32))) 7 0 (u 6 (sN (u 0) 11))) (1 : Int32) (99 : Int32)) 7 1 (v_X6_takesNumber (up (up (up u 0 12 (1 : Int32)) 0 11 ((u 0 11) + (0 : Int32))) 7 0 (u 6 (sN (u 0) 11))) (1 : Int32) (99 : Int32))) H := hP
        refine lv_goto (tgt := 236) hx hb dX6_readThing_112 (by decide) ?_
        exact e_void S hr hlk hK hS (gP_eq (show w_X6_readThing u  = up (w_X6_takesNumber (up (up (up u 0 12 (1 : Int32)) 0 11 ((u 0 11) + (0 : Int32))) 7 0 (u 6 (sN (u 0) 11))) (1 : Int32) (99 : Int32)) 7 1 (v_X6_takesNumber (up (up (up u 0 12 (1 : Int32)) 0 11 ((u 0 11) + (0 : Int32))) 7 0 (u 6 (sN (u 0) 11))) (1 : Int32) (99 : Int32)) from (if_neg c1).trans ((if_neg c3).trans ((if_pos c4).trans rfl))) hP) dX6_readThing_236
    · skip
      refine lv_iload_n hx hb dX6_readThing_33 rfl (lv_at hl 0 rfl) ?_
      refine lv_bipush (v := 98) hx hb dX6_readThing_34 (by decide) ?_
      refine lv_icmp_eq (tgt := 61) hx hb dX6_readThing_36 (by decide) (fun c7 => ?_) (fun c7 => ?_)
      · skip
        refine lv_iconst (v := 0) hx hb dX6_readThing_61 (by decide) ?_
        refine g_put S hK hP hI hS (i := 0) (by omega) mC0 rfl inlX6 tyX6 tyX6_ok nmX6 mF_n 12 (by decide) k_587 rfl pZ rfl rfl (fun _ => rfl) dX6_readThing_62 (fun H locs hP hS => ?_)
        have hP : mP G a (up u 0 12 (0 : Int32)) H := hP
        refine lv_aload_n hx hb dX6_readThing_65 rfl (lv_at hl 1 rfl) ?_
        refine lv_dup hx hb dX6_readThing_66 rfl ?_
        refine g_get S hK hP (i := 0) (by omega) mC0 rfl inlX6 11 (by decide) k_588 (v := .int (u 0 11)) (congrArg Value.int ((up_nk (by omega)).trans rfl)) dX6_readThing_67 ?_
        refine lv_aload_n hx hb dX6_readThing_70 rfl (lv_at hl 1 rfl) ?_
        refine g_get S hK hP (i := 0) (by omega) mC0 rfl inlX6 12 (by decide) k_587 (v := .int (0 : Int32)) (congrArg Value.int (up_same)) dX6_readThing_71 ?_
        refine lv_if_eq (tgt := 81) hx hb dX6_readThing_74 (by decide) (fun _ => ?_) (fun c => absurd (by decide) c)
        refine lv_iconst (v := 1) hx hb dX6_readThing_81 (by decide) ?_
        refine lv_iadd hx hb dX6_readThing_82 ?_
        refine g_put S hK hP hI hS (i := 0) (by omega) mC0 rfl inlX6 tyX6 tyX6_ok nmX6 mF_n 11 (by decide) k_588 rfl pI rfl rfl (fun _ => rfl) dX6_readThing_83 (fun H locs hP hS => ?_)
        have hP : mP G a (up (up u 0 12 (0 : Int32)) 0 11 ((u 0 11) + (1 : Int32))) H := hP
        refine lv_aload_n hx hb dX6_readThing_86 rfl (lv_at hl 1 rfl) ?_
        refine g_get S hK hP (i := 0) (by omega) mC0 rfl inlX6 13 (by decide) k_75 (v := .ref (a 7)) rfl dX6_readThing_87 ?_
        refine lv_iconst (v := 0) hx hb dX6_readThing_90 (by decide) ?_
        refine lv_iload_n hx hb dX6_readThing_91 rfl (lv_at hl 0 rfl) ?_
        refine g_astN S hK hP hI hS (i := 7) (by omega) mC7 (k := 0) (by omega) (by decide) dX6_readThing_92 (fun H locs hP hS => ?_)
        have hP : mP G a (up (up (up u 0 12 (0 : Int32)) 0 11 ((u 0 11) + (1 : Int32))) 7 0 (u 6 (sN (u 0) 11))) H := hP
        refine lv_iload_n hx hb dX6_readThing_93 rfl (lv_at hl 0 rfl) ?_
        refine lv_bipush (v := 46) hx hb dX6_readThing_94 (by decide) ?_
        refine lv_icmp_ne (tgt := 115) hx hb dX6_readThing_96 (by decide) (fun c8 => ?_) (fun c8 => ?_)
        · skip
          refine lv_iload_n hx hb dX6_readThing_115 rfl (lv_at hl 0 rfl) ?_
          refine lv_bipush (v := 98) hx hb dX6_readThing_116 (by decide) ?_
          refine lv_icmp_eq (tgt := 127) hx hb dX6_readThing_118 (by decide) (fun _ => ?_) (fun c => absurd c7 c)
          refine lv_aload_n hx hb dX6_readThing_127 rfl (lv_at hl 1 rfl) ?_
          refine g_get S hK hP (i := 0) (by omega) mC0 rfl inlX6 13 (by decide) k_75 (v := .ref (a 7)) rfl dX6_readThing_128 ?_
          refine lv_iconst (v := 1) hx hb dX6_readThing_131 (by decide) ?_
          refine lv_aload_n hx hb dX6_readThing_132 rfl (lv_at hl 1 rfl) ?_
          refine lv_bipush (v := 48) hx hb dX6_readThing_133 (by decide) ?_
          refine lv_bipush (v := 55) hx hb dX6_readThing_135 (by decide) ?_
          refine r_callI S hK hP (c_X6_takes l G a hI (up (up (up u 0 12 (0 : Int32)) 0 11 ((u 0 11) + (1 : Int32))) 7 0 (u 6 (sN (u 0) 11))) _ _ (TI_up7 (TI_g hT hlt))) (r_cw S k_605 k_602 k_603 k_604 k_5 q_X6_takes ⟨Nat.le_of_ble_eq_true rfl, Nat.le_of_ble_eq_true rfl⟩ rfl rfl) (g_recv hK hP (i := 0) (by omega) mC0 rfl) rfl hl.1 rfl (Nat.le_of_ble_eq_true rfl) dX6_readThing_137 ⟨Nat.zero_le _, Nat.zero_le _⟩ hS (fun _ h => h) (fun H locs hP _ _ hS => ?_)
          have hP : mP G a (w_X6_takes (up (up (up u 0 12 (0 : Int32)) 0 11 ((u 0 11) + (1 : Int32))) 7 0 (u 6 (sN (u 0) 11))) (48 : Int32) (55 : Int32)) H := hP
          refine g_astN S hK hP hI hS (i := 7) (by omega) mC7 (k := 1) (by omega) (by decide) dX6_readThing_140 (fun H locs hP hS => ?_)
          have hP : mP G a (up (w_X6_takes (up (up (up u 0 12 (0 : Int32)) 0 11 ((u 0 11) + (1 : Int32))) 7 0 (u 6 (sN (u 0) 11))) (48 : Int32) (55 : Int32)) 7 1 (v_X6_takes (up (up (up u 0 12 (0 : Int32)) 0 11 ((u 0 11) + (1 : Int32))) 7 0 (u 6 (sN (u 0) 11))) (48 : Int32) (55 : Int32))) H := hP
          refine lv_aload_n hx hb dX6_readThing_141 rfl (lv_at hl 1 rfl) ?_
          refine lv_bipush (v := 58) hx hb dX6_readThing_142 (by decide) ?_
          refine lv_bipush (v := 58) hx hb dX6_readThing_144 (by decide) ?_
          refine r_callI S hK hP (c_X6_takes l G a hI (up (w_X6_takes (up (up (up u 0 12 (0 : Int32)) 0 11 ((u 0 11) + (1 : Int32))) 7 0 (u 6 (sN (u 0) 11))) (48 : Int32) (55 : Int32)) 7 1 (v_X6_takes (up (up (up u 0 12 (0 : Int32)) 0 11 ((u 0 11) + (1 : Int32))) 7 0 (u 6 (sN (u 0) 11))) (48 : Int32) (55 : Int32))) _ _ (TI_up7 (takes_TI (TI_up7 (TI_g hT hlt)) (by decide)))) (r_cw S k_605 k_602 k_603 k_604 k_5 q_X6_takes ⟨Nat.le_of_ble_eq_true rfl, Nat.le_of_ble_eq_true rfl⟩ rfl rfl) (g_recv hK hP (i := 0) (by omega) mC0 rfl) rfl hl.1 rfl (Nat.le_of_ble_eq_true rfl) dX6_readThing_146 ⟨Nat.zero_le _, Nat.zero_le _⟩ hS (fun _ h => h) (fun H locs hP _ _ hS => ?_)
          have hP : mP G a (w_X6_takes (up (w_X6_takes (up (up (up u 0 12 (0 : Int32)) 0 11 ((u 0 11) + (1 : Int32))) 7 0 (u 6 (sN (u 0) 11))) (48 : Int32) (55 : Int32)) 7 1 (v_X6_takes (up (up (up u 0 12 (0 : Int32)) 0 11 ((u 0 11) + (1 : Int32))) 7 0 (u 6 (sN (u 0) 11))) (48 : Int32) (55 : Int32))) (58 : Int32) (58 : Int32)) H := hP
          refine lv_istore_n (lv' := [(2, .int (v_X6_takes (up (w_X6_takes (up (up (up u 0 12 (0 : Int32)) 0 11 ((u 0 11) + (1 : Int32))) 7 0 (u 6 (sN (u 0) 11))) (48 : Int32) (55 : Int32)) 7 1 (v_X6_takes (up (up (up u 0 12 (0 : Int32)) 0 11 ((u 0 11) + (1 : Int32))) 7 0 (u 6 (sN (u 0) 11))) (48 : Int32) (55 : Int32))) (58 : Int32) (58 : Int32))), (1, .int (u 6 (sN (u 0) 11))), (0, .ref (a 0))]) hx hb dX6_readThing_149 rfl hl (by decide) rfl (fun ls hl => ?_)
          refine lv_aload_n hx hb dX6_readThing_150 rfl (lv_at hl 2 rfl) ?_
          refine g_get S hK hP (i := 0) (by omega) mC0 rfl inlX6 13 (by decide) k_75 (v := .ref (a 7)) rfl dX6_readThing_151 ?_
          refine lv_iconst (v := 2) hx hb dX6_readThing_154 (by decide) ?_
          refine lv_aload_n hx hb dX6_readThing_155 rfl (lv_at hl 2 rfl) ?_
          refine lv_iconst (v := 1) hx hb dX6_readThing_156 (by decide) ?_
          refine lv_iload_n hx hb dX6_readThing_157 rfl (lv_at hl 1 rfl) ?_
          refine lv_bipush (v := 98) hx hb dX6_readThing_158 (by decide) ?_
          refine lv_icmp_ne (tgt := 169) hx hb dX6_readThing_160 (by decide) (fun c => absurd c7 c) (fun _ => ?_)
          refine lv_sipush (v := 9999) hx hb dX6_readThing_163 (by decide) ?_
          refine lv_goto (tgt := 171) hx hb dX6_readThing_166 (by decide) ?_
          refine r_callI S hK hP (c_X6_takesNumber l G a hI (w_X6_takes (up (w_X6_takes (up (up (up u 0 12 (0 : Int32)) 0 11 ((u 0 11) + (1 : Int32))) 7 0 (u 6 (sN (u 0) 11))) (48 : Int32) (55 : Int32)) 7 1 (v_X6_takes (up (up (up u 0 12 (0 : Int32)) 0 11 ((u 0 11) + (1 : Int32))) 7 0 (u 6 (sN (u 0) 11))) (48 : Int32) (55 : Int32))) (58 : Int32) (58 : Int32)) _ _ (takes_TI (TI_up7 (takes_TI (TI_up7 (TI_g hT hlt)) (by decide))) (by decide)) (by decide)) (r_cw S k_601 k_598 k_599 k_600 k_5 q_X6_takesNumber ⟨Nat.le_of_ble_eq_true rfl, Nat.le_of_ble_eq_true rfl⟩ rfl rfl) (g_recv hK hP (i := 0) (by omega) mC0 rfl) rfl hl.1 rfl (Nat.le_of_ble_eq_true rfl) dX6_readThing_171 ⟨Nat.zero_le _, Nat.zero_le _⟩ hS (fun _ h => h) (fun H locs hP _ _ hS => ?_)
          have hP : mP G a (w_X6_takesNumber (w_X6_takes (up (w_X6_takes (up (up (up u 0 12 (0 : Int32)) 0 11 ((u 0 11) + (1 : Int32))) 7 0 (u 6 (sN (u 0) 11))) (48 : Int32) (55 : Int32)) 7 1 (v_X6_takes (up (up (up u 0 12 (0 : Int32)) 0 11 ((u 0 11) + (1 : Int32))) 7 0 (u 6 (sN (u 0) 11))) (48 : Int32) (55 : Int32))) (58 : Int32) (58 : Int32)) (1 : Int32) (9999 : Int32)) H := hP
          refine g_astN S hK hP hI hS (i := 7) (by omega) mC7 (k := 2) (by omega) (by decide) dX6_readThing_174 (fun H locs hP hS => ?_)
          have hP : mP G a (up (w_X6_takesNumber (w_X6_takes (up (w_X6_takes (up (up (up u 0 12 (0 : Int32)) 0 11 ((u 0 11) + (1 : Int32))) 7 0 (u 6 (sN (u 0) 11))) (48 : Int32) (55 : Int32)) 7 1 (v_X6_takes (up (up (up u 0 12 (0 : Int32)) 0 11 ((u 0 11) + (1 : Int32))) 7 0 (u 6 (sN (u 0) 11))) (48 : Int32) (55 : Int32))) (58 : Int32) (58 : Int32)) (1 : Int32) (9999 : Int32)) 7 2 (v_X6_takesNumber (w_X6_takes (up (w_X6_takes (up (up (up u 0 12 (0 : Int32)) 0 11 ((u 0 11) + (1 : Int32))) 7 0 (u 6 (sN (u 0) 11))) (48 : Int32) (55 : Int32)) 7 1 (v_X6_takes (up (up (up u 0 12 (0 : Int32)) 0 11 ((u 0 11) + (1 : Int32))) 7 0 (u 6 (sN (u 0) 11))) (48 : Int32) (55 : Int32))) (58 : Int32) (58 : Int32)) (1 : Int32) (9999 : Int32))) H := hP
          refine lv_aload_n hx hb dX6_readThing_175 rfl (lv_at hl 2 rfl) ?_
          refine g_get S hK hP (i := 0) (by omega) mC0 rfl inlX6 13 (by decide) k_75 (v := .ref (a 7)) rfl dX6_readThing_176 ?_
          refine lv_iconst (v := 3) hx hb dX6_readThing_179 (by decide) ?_
          refine lv_iload_n hx hb dX6_readThing_180 rfl (lv_at hl 1 rfl) ?_
          refine lv_bipush (v := 98) hx hb dX6_readThing_181 (by decide) ?_
          refine lv_icmp_ne (tgt := 199) hx hb dX6_readThing_183 (by decide) (fun c => absurd c7 c) (fun _ => ?_)
          refine lv_aload_n hx hb dX6_readThing_186 rfl (lv_at hl 2 rfl) ?_
          refine lv_bipush (v := 64) hx hb dX6_readThing_187 (by decide) ?_
          refine lv_bipush (v := 40) hx hb dX6_readThing_189 (by decide) ?_
          refine lv_bipush (v := 20) hx hb dX6_readThing_191 (by decide) ?_
          refine r_callI S hK hP (c_X6_takesBehind l G a hI (up (w_X6_takesNumber (w_X6_takes (up (w_X6_takes (up (up (up u 0 12 (0 : Int32)) 0 11 ((u 0 11) + (1 : Int32))) 7 0 (u 6 (sN (u 0) 11))) (48 : Int32) (55 : Int32)) 7 1 (v_X6_takes (up (up (up u 0 12 (0 : Int32)) 0 11 ((u 0 11) + (1 : Int32))) 7 0 (u 6 (sN (u 0) 11))) (48 : Int32) (55 : Int32))) (58 : Int32) (58 : Int32)) (1 : Int32) (9999 : Int32)) 7 2 (v_X6_takesNumber (w_X6_takes (up (w_X6_takes (up (up (up u 0 12 (0 : Int32)) 0 11 ((u 0 11) + (1 : Int32))) 7 0 (u 6 (sN (u 0) 11))) (48 : Int32) (55 : Int32)) 7 1 (v_X6_takes (up (up (up u 0 12 (0 : Int32)) 0 11 ((u 0 11) + (1 : Int32))) 7 0 (u 6 (sN (u 0) 11))) (48 : Int32) (55 : Int32))) (58 : Int32) (58 : Int32)) (1 : Int32) (9999 : Int32))) _ _ _ (TI_up7 (takesNumber_TI (takes_TI (TI_up7 (takes_TI (TI_up7 (TI_g hT hlt)) (by decide))) (by decide)) (by decide)))) (r_cw S k_613 k_610 k_611 k_612 k_5 q_X6_takesBehind ⟨Nat.le_of_ble_eq_true rfl, Nat.le_of_ble_eq_true rfl⟩ rfl rfl) (g_recv hK hP (i := 0) (by omega) mC0 rfl) rfl hl.1 rfl (Nat.le_of_ble_eq_true rfl) dX6_readThing_193 ⟨Nat.zero_le _, Nat.zero_le _⟩ hS (fun _ h => h) (fun H locs hP _ _ hS => ?_)
          have hP : mP G a (w_X6_takesBehind (up (w_X6_takesNumber (w_X6_takes (up (w_X6_takes (up (up (up u 0 12 (0 : Int32)) 0 11 ((u 0 11) + (1 : Int32))) 7 0 (u 6 (sN (u 0) 11))) (48 : Int32) (55 : Int32)) 7 1 (v_X6_takes (up (up (up u 0 12 (0 : Int32)) 0 11 ((u 0 11) + (1 : Int32))) 7 0 (u 6 (sN (u 0) 11))) (48 : Int32) (55 : Int32))) (58 : Int32) (58 : Int32)) (1 : Int32) (9999 : Int32)) 7 2 (v_X6_takesNumber (w_X6_takes (up (w_X6_takes (up (up (up u 0 12 (0 : Int32)) 0 11 ((u 0 11) + (1 : Int32))) 7 0 (u 6 (sN (u 0) 11))) (48 : Int32) (55 : Int32)) 7 1 (v_X6_takes (up (up (up u 0 12 (0 : Int32)) 0 11 ((u 0 11) + (1 : Int32))) 7 0 (u 6 (sN (u 0) 11))) (48 : Int32) (55 : Int32))) (58 : Int32) (58 : Int32)) (1 : Int32) (9999 : Int32))) (64 : Int32) (40 : Int32) (20 : Int32)) H := hP
          refine lv_goto (tgt := 209) hx hb dX6_readThing_196 (by decide) ?_
          refine g_astN S hK hP hI hS (i := 7) (by omega) mC7 (k := 3) (by omega) (by decide) dX6_readThing_209 (fun H locs hP hS => ?_)
          have hP : mP G a (up (w_X6_takesBehind (up (w_X6_takesNumber (w_X6_takes (up (w_X6_takes (up (up (up u 0 12 (0 : Int32)) 0 11 ((u 0 11) + (1 : Int32))) 7 0 (u 6 (sN (u 0) 11))) (48 : Int32) (55 : Int32)) 7 1 (v_X6_takes (up (up (up u 0 12 (0 : Int32)) 0 11 ((u 0 11) + (1 : Int32))) 7 0 (u 6 (sN (u 0) 11))) (48 : Int32) (55 : Int32))) (58 : Int32) (58 : Int32)) (1 : Int32) (9999 : Int32)) 7 2 (v_X6_takesNumber (w_X6_takes (up (w_X6_takes (up (up (up u 0 12 (0 : Int32)) 0 11 ((u 0 11) + (1 : Int32))) 7 0 (u 6 (sN (u 0) 11))) (48 : Int32) (55 : Int32)) 7 1 (v_X6_takes (up (up (up u 0 12 (0 : Int32)) 0 11 ((u 0 11) + (1 : Int32))) 7 0 (u 6 (sN (u 0) 11))) (48 : Int32) (55 : Int32))) (58 : Int32) (58 : Int32)) (1 : Int32) (9999 : Int32))) (64 : Int32) (40 : Int32) (20 : Int32)) 7 3 (v_X6_takesBehind (up (w_X6_takesNumber (w_X6_takes (up (w_X6_takes (up (up (up u 0 12 (0 : Int32)) 0 11 ((u 0 11) + (1 : Int32))) 7 0 (u 6 (sN (u 0) 11))) (48 : Int32) (55 : Int32)) 7 1 (v_X6_takes (up (up (up u 0 12 (0 : Int32)) 0 11 ((u 0 11) + (1 : Int32))) 7 0 (u 6 (sN (u 0) 11))) (48 : Int32) (55 : Int32))) (58 : Int32) (58 : Int32)) (1 : Int32) (9999 : Int32)) 7 2 (v_X6_takesNumber (w_X6_takes (up (w_X6_takes (up (up (up u 0 12 (0 : Int32)) 0 11 ((u 0 11) + (1 : Int32))) 7 0 (u 6 (sN (u 0) 11))) (48 : Int32) (55 : Int32)) 7 1 (v_X6_takes (up (up (up u 0 12 (0 : Int32)) 0 11 ((u 0 11) + (1 : Int32))) 7 0 (u 6 (sN (u 0) 11))) (48 : Int32) (55 : Int32))) (58 : Int32) (58 : Int32)) (1 : Int32) (9999 : Int32))) (64 : Int32) (40 : Int32) (20 : Int32))) H := hP
          refine lv_aload_n hx hb dX6_readThing_210 rfl (lv_at hl 2 rfl) ?_
          refine g_get S hK hP (i := 0) (by omega) mC0 rfl inlX6 13 (by decide) k_75 (v := .ref (a 7)) rfl dX6_readThing_211 ?_
          refine lv_iconst (v := 4) hx hb dX6_readThing_214 (by decide) ?_
          refine lv_iload_n hx hb dX6_readThing_215 rfl (lv_at hl 1 rfl) ?_
          refine lv_bipush (v := 98) hx hb dX6_readThing_216 (by decide) ?_
          refine lv_icmp_ne (tgt := 234) hx hb dX6_readThing_218 (by decide) (fun c => absurd c7 c) (fun _ => ?_)
          refine lv_aload_n hx hb dX6_readThing_221 rfl (lv_at hl 2 rfl) ?_
          refine lv_bipush (v := 43) hx hb dX6_readThing_222 (by decide) ?_
          refine lv_bipush (v := 99) hx hb dX6_readThing_224 (by decide) ?_
          refine lv_bipush (v := 14) hx hb dX6_readThing_226 (by decide) ?_
          refine r_callI S hK hP (c_X6_takesBehind l G a hI (up (w_X6_takesBehind (up (w_X6_takesNumber (w_X6_takes (up (w_X6_takes (up (up (up u 0 12 (0 : Int32)) 0 11 ((u 0 11) + (1 : Int32))) 7 0 (u 6 (sN (u 0) 11))) (48 : Int32) (55 : Int32)) 7 1 (v_X6_takes (up (up (up u 0 12 (0 : Int32)) 0 11 ((u 0 11) + (1 : Int32))) 7 0 (u 6 (sN (u 0) 11))) (48 : Int32) (55 : Int32))) (58 : Int32) (58 : Int32)) (1 : Int32) (9999 : Int32)) 7 2 (v_X6_takesNumber (w_X6_takes (up (w_X6_takes (up (up (up u 0 12 (0 : Int32)) 0 11 ((u 0 11) + (1 : Int32))) 7 0 (u 6 (sN (u 0) 11))) (48 : Int32) (55 : Int32)) 7 1 (v_X6_takes (up (up (up u 0 12 (0 : Int32)) 0 11 ((u 0 11) + (1 : Int32))) 7 0 (u 6 (sN (u 0) 11))) (48 : Int32) (55 : Int32))) (58 : Int32) (58 : Int32)) (1 : Int32) (9999 : Int32))) (64 : Int32) (40 : Int32) (20 : Int32)) 7 3 (v_X6_takesBehind (up (w_X6_takesNumber (w_X6_takes (up (w_X6_takes (up (up (up u 0 12 (0 : Int32)) 0 11 ((u 0 11) + (1 : Int32))) 7 0 (u 6 (sN (u 0) 11))) (48 : Int32) (55 : Int32)) 7 1 (v_X6_takes (up (up (up u 0 12 (0 : Int32)) 0 11 ((u 0 11) + (1 : Int32))) 7 0 (u 6 (sN (u 0) 11))) (48 : Int32) (55 : Int32))) (58 : Int32) (58 : Int32)) (1 : Int32) (9999 : Int32)) 7 2 (v_X6_takesNumber (w_X6_takes (up (w_X6_takes (up (up (up u 0 12 (0 : Int32)) 0 11 ((u 0 11) + (1 : Int32))) 7 0 (u 6 (sN (u 0) 11))) (48 : Int32) (55 : Int32)) 7 1 (v_X6_takes (up (up (up u 0 12 (0 : Int32)) 0 11 ((u 0 11) + (1 : Int32))) 7 0 (u 6 (sN (u 0) 11))) (48 : Int32) (55 : Int32))) (58 : Int32) (58 : Int32)) (1 : Int32) (9999 : Int32))) (64 : Int32) (40 : Int32) (20 : Int32))) _ _ _ (TI_up7 (takesBehind_TI (TI_up7 (takesNumber_TI (takes_TI (TI_up7 (takes_TI (TI_up7 (TI_g hT hlt)) (by decide))) (by decide)) (by decide)))))) (r_cw S k_613 k_610 k_611 k_612 k_5 q_X6_takesBehind ⟨Nat.le_of_ble_eq_true rfl, Nat.le_of_ble_eq_true rfl⟩ rfl rfl) (g_recv hK hP (i := 0) (by omega) mC0 rfl) rfl hl.1 rfl (Nat.le_of_ble_eq_true rfl) dX6_readThing_228 ⟨Nat.zero_le _, Nat.zero_le _⟩ hS (fun _ h => h) (fun H locs hP _ _ hS => ?_)
          have hP : mP G a (w_X6_takesBehind (up (w_X6_takesBehind (up (w_X6_takesNumber (w_X6_takes (up (w_X6_takes (up (up (up u 0 12 (0 : Int32)) 0 11 ((u 0 11) + (1 : Int32))) 7 0 (u 6 (sN (u 0) 11))) (48 : Int32) (55 : Int32)) 7 1 (v_X6_takes (up (up (up u 0 12 (0 : Int32)) 0 11 ((u 0 11) + (1 : Int32))) 7 0 (u 6 (sN (u 0) 11))) (48 : Int32) (55 : Int32))) (58 : Int32) (58 : Int32)) (1 : Int32) (9999 : Int32)) 7 2 (v_X6_takesNumber (w_X6_takes (up (w_X6_takes (up (up (up u 0 12 (0 : Int32)) 0 11 ((u 0 11) + (1 : Int32))) 7 0 (u 6 (sN (u 0) 11))) (48 : Int32) (55 : Int32)) 7 1 (v_X6_takes (up (up (up u 0 12 (0 : Int32)) 0 11 ((u 0 11) + (1 : Int32))) 7 0 (u 6 (sN (u 0) 11))) (48 : Int32) (55 : Int32))) (58 : Int32) (58 : Int32)) (1 : Int32) (9999 : Int32))) (64 : Int32) (40 : Int32) (20 : Int32)) 7 3 (v_X6_takesBehind (up (w_X6_takesNumber (w_X6_takes (up (w_X6_takes (up (up (up u 0 12 (0 : Int32)) 0 11 ((u 0 11) + (1 : Int32))) 7 0 (u 6 (sN (u 0) 11))) (48 : Int32) (55 : Int32)) 7 1 (v_X6_takes (up (up (up u 0 12 (0 : Int32)) 0 11 ((u 0 11) + (1 : Int32))) 7 0 (u 6 (sN (u 0) 11))) (48 : Int32) (55 : Int32))) (58 : Int32) (58 : Int32)) (1 : Int32) (9999 : Int32)) 7 2 (v_X6_takesNumber (w_X6_takes (up (w_X6_takes (up (up (up u 0 12 (0 : Int32)) 0 11 ((u 0 11) + (1 : Int32))) 7 0 (u 6 (sN (u 0) 11))) (48 : Int32) (55 : Int32)) 7 1 (v_X6_takes (up (up (up u 0 12 (0 : Int32)) 0 11 ((u 0 11) + (1 : Int32))) 7 0 (u 6 (sN (u 0) 11))) (48 : Int32) (55 : Int32))) (58 : Int32) (58 : Int32)) (1 : Int32) (9999 : Int32))) (64 : Int32) (40 : Int32) (20 : Int32))) (43 : Int32) (99 : Int32) (14 : Int32)) H := hP
          refine lv_goto (tgt := 235) hx hb dX6_readThing_231 (by decide) ?_
          refine g_astN S hK hP hI hS (i := 7) (by omega) mC7 (k := 4) (by omega) (by decide) dX6_readThing_235 (fun H locs hP hS => ?_)
          have hP : mP G a (up (w_X6_takesBehind (up (w_X6_takesBehind (up (w_X6_takesNumber (w_X6_takes (up (w_X6_takes (up (up (up u 0 12 (0 : Int32)) 0 11 ((u 0 11) + (1 : Int32))) 7 0 (u 6 (sN (u 0) 11))) (48 : Int32) (55 : Int32)) 7 1 (v_X6_takes (up (up (up u 0 12 (0 : Int32)) 0 11 ((u 0 11) + (1 : Int32))) 7 0 (u 6 (sN (u 0) 11))) (48 : Int32) (55 : Int32))) (58 : Int32) (58 : Int32)) (1 : Int32) (9999 : Int32)) 7 2 (v_X6_takesNumber (w_X6_takes (up (w_X6_takes (up (up (up u 0 12 (0 : Int32)) 0 11 ((u 0 11) + (1 : Int32))) 7 0 (u 6 (sN (u 0) 11))) (48 : Int32) (55 : Int32)) 7 1 (v_X6_takes (up (up (up u 0 12 (0 : Int32)) 0 11 ((u 0 11) + (1 : Int32))) 7 0 (u 6 (sN (u 0) 11))) (48 : Int32) (55 : Int32))) (58 : Int32) (58 : Int32)) (1 : Int32) (9999 : Int32))) (64 : Int32) (40 : Int32) (20 : Int32)) 7 3 (v_X6_takesBehind (up (w_X6_takesNumber (w_X6_takes (up (w_X6_takes (up (up (up u 0 12 (0 : Int32)) 0 11 ((u 0 11) + (1 : Int32))) 7 0 (u 6 (sN (u 0) 11))) (48 : Int32) (55 : Int32)) 7 1 (v_X6_takes (up (up (up u 0 12 (0 : Int32)) 0 11 ((u 0 11) + (1 : Int32))) 7 0 (u 6 (sN (u 0) 11))) (48 : Int32) (55 : Int32))) (58 : Int32) (58 : Int32)) (1 : Int32) (9999 : Int32)) 7 2 (v_X6_takesNumber (w_X6_takes (up (w_X6_takes (up (up (up u 0 12 (0 : Int32)) 0 11 ((u 0 11) + (1 : Int32))) 7 0 (u 6 (sN (u 0) 11))) (48 : Int32) (55 : Int32)) 7 1 (v_X6_takes (up (up (up u 0 12 (0 : Int32)) 0 11 ((u 0 11) + (1 : Int32))) 7 0 (u 6 (sN (u 0) 11))) (48 : Int32) (55 : Int32))) (58 : Int32) (58 : Int32)) (1 : Int32) (9999 : Int32))) (64 : Int32) (40 : Int32) (20 : Int32))) (43 : Int32) (99 : Int32) (14 : Int32)) 7 4 (v_X6_takesBehind (up (w_X6_takesBehind (up (w_X6_takesNumber (w_X6_takes (up (w_X6_takes (up (up (up u 0 12 (0 : Int32)) 0 11 ((u 0 11) + (1 : Int32))) 7 0 (u 6 (sN (u 0) 11))) (48 : Int32) (55 : Int32)) 7 1 (v_X6_takes (up (up (up u 0 12 (0 : Int32)) 0 11 ((u 0 11) + (1 : Int32))) 7 0 (u 6 (sN (u 0) 11))) (48 : Int32) (55 : Int32))) (58 : Int32) (58 : Int32)) (1 : Int32) (9999 : Int32)) 7 2 (v_X6_takesNumber (w_X6_takes (up (w_X6_takes (up (up (up u 0 12 (0 : Int32)) 0 11 ((u 0 11) + (1 : Int32))) 7 0 (u 6 (sN (u 0) 11))) (48 : Int32) (55 : Int32)) 7 1 (v_X6_takes (up (up (up u 0 12 (0 : Int32)) 0 11 ((u 0 11) + (1 : Int32))) 7 0 (u 6 (sN (u 0) 11))) (48 : Int32) (55 : Int32))) (58 : Int32) (58 : Int32)) (1 : Int32) (9999 : Int32))) (64 : Int32) (40 : Int32) (20 : Int32)) 7 3 (v_X6_takesBehind (up (w_X6_takesNumber (w_X6_takes (up (w_X6_takes (up (up (up u 0 12 (0 : Int32)) 0 11 ((u 0 11) + (1 : Int32))) 7 0 (u 6 (sN (u 0) 11))) (48 : Int32) (55 : Int32)) 7 1 (v_X6_takes (up (up (up u 0 12 (0 : Int32)) 0 11 ((u 0 11) + (1 : Int32))) 7 0 (u 6 (sN (u 0) 11))) (48 : Int32) (55 : Int32))) (58 : Int32) (58 : Int32)) (1 : Int32) (9999 : Int32)) 7 2 (v_X6_takesNumber (w_X6_takes (up (w_X6_takes (up (up (up u 0 12 (0 : Int32)) 0 11 ((u 0 11) + (1 : Int32))) 7 0 (u 6 (sN (u 0) 11))) (48 : Int32) (55 : Int32)) 7 1 (v_X6_takes (up (up (up u 0 12 (0 : Int32)) 0 11 ((u 0 11) + (1 : Int32))) 7 0 (u 6 (sN (u 0) 11))) (48 : Int32) (55 : Int32))) (58 : Int32) (58 : Int32)) (1 : Int32) (9999 : Int32))) (64 : Int32) (40 : Int32) (20 : Int32))) (43 : Int32) (99 : Int32) (14 : Int32))) H := hP
          exact e_void S hr hlk hK hS (gP_eq (show w_X6_readThing u  = up (w_X6_takesBehind (up (w_X6_takesBehind (up (w_X6_takesNumber (w_X6_takes (up (w_X6_takes (up (up (up u 0 12 (0 : Int32)) 0 11 ((u 0 11) + (1 : Int32))) 7 0 (u 6 (sN (u 0) 11))) (48 : Int32) (55 : Int32)) 7 1 (v_X6_takes (up (up (up u 0 12 (0 : Int32)) 0 11 ((u 0 11) + (1 : Int32))) 7 0 (u 6 (sN (u 0) 11))) (48 : Int32) (55 : Int32))) (58 : Int32) (58 : Int32)) (1 : Int32) (9999 : Int32)) 7 2 (v_X6_takesNumber (w_X6_takes (up (w_X6_takes (up (up (up u 0 12 (0 : Int32)) 0 11 ((u 0 11) + (1 : Int32))) 7 0 (u 6 (sN (u 0) 11))) (48 : Int32) (55 : Int32)) 7 1 (v_X6_takes (up (up (up u 0 12 (0 : Int32)) 0 11 ((u 0 11) + (1 : Int32))) 7 0 (u 6 (sN (u 0) 11))) (48 : Int32) (55 : Int32))) (58 : Int32) (58 : Int32)) (1 : Int32) (9999 : Int32))) (64 : Int32) (40 : Int32) (20 : Int32)) 7 3 (v_X6_takesBehind (up (w_X6_takesNumber (w_X6_takes (up (w_X6_takes (up (up (up u 0 12 (0 : Int32)) 0 11 ((u 0 11) + (1 : Int32))) 7 0 (u 6 (sN (u 0) 11))) (48 : Int32) (55 : Int32)) 7 1 (v_X6_takes (up (up (up u 0 12 (0 : Int32)) 0 11 ((u 0 11) + (1 : Int32))) 7 0 (u 6 (sN (u 0) 11))) (48 : Int32) (55 : Int32))) (58 : Int32) (58 : Int32)) (1 : Int32) (9999 : Int32)) 7 2 (v_X6_takesNumber (w_X6_takes (up (w_X6_takes (up (up (up u 0 12 (0 : Int32)) 0 11 ((u 0 11) + (1 : Int32))) 7 0 (u 6 (sN (u 0) 11))) (48 : Int32) (55 : Int32)) 7 1 (v_X6_takes (up (up (up u 0 12 (0 : Int32)) 0 11 ((u 0 11) + (1 : Int32))) 7 0 (u 6 (sN (u 0) 11))) (48 : Int32) (55 : Int32))) (58 : Int32) (58 : Int32)) (1 : Int32) (9999 : Int32))) (64 : Int32) (40 : Int32) (20 : Int32))) (43 : Int32) (99 : Int32) (14 : Int32)) 7 4 (v_X6_takesBehind (up (w_X6_takesBehind (up (w_X6_takesNumber (w_X6_takes (up (w_X6_takes (up (up (up u 0 12 (0 : Int32)) 0 11 ((u 0 11) + (1 : Int32))) 7 0 (u 6 (sN (u 0) 11))) (48 : Int32) (55 : Int32)) 7 1 (v_X6_takes (up (up (up u 0 12 (0 : Int32)) 0 11 ((u 0 11) + (1 : Int32))) 7 0 (u 6 (sN (u 0) 11))) (48 : Int32) (55 : Int32))) (58 : Int32) (58 : Int32)) (1 : Int32) (9999 : Int32)) 7 2 (v_X6_takesNumber (w_X6_takes (up (w_X6_takes (up (up (up u 0 12 (0 : Int32)) 0 11 ((u 0 11) + (1 : Int32))) 7 0 (u 6 (sN (u 0) 11))) (48 : Int32) (55 : Int32)) 7 1 (v_X6_takes (up (up (up u 0 12 (0 : Int32)) 0 11 ((u 0 11) + (1 : Int32))) 7 0 (u 6 (sN (u 0) 11))) (48 : Int32) (55 : Int32))) (58 : Int32) (58 : Int32)) (1 : Int32) (9999 : Int32))) (64 : Int32) (40 : Int32) (20 : Int32)) 7 3 (v_X6_takesBehind (up (w_X6_takesNumber (w_X6_takes (up (w_X6_takes (up (up (up u 0 12 (0 : Int32)) 0 11 ((u 0 11) + (1 : Int32))) 7 0 (u 6 (sN (u 0) 11))) (48 : Int32) (55 : Int32)) 7 1 (v_X6_takes (up (up (up u 0 12 (0 : Int32)) 0 11 ((u 0 11) + (1 : Int32))) 7 0 (u 6 (sN (u 0) 11))) (48 : Int32) (55 : Int32))) (58 : Int32) (58 : Int32)) (1 : Int32) (9999 : Int32)) 7 2 (v_X6_takesNumber (w_X6_takes (up (w_X6_takes (up (up (up u 0 12 (0 : Int32)) 0 11 ((u 0 11) + (1 : Int32))) 7 0 (u 6 (sN (u 0) 11))) (48 : Int32) (55 : Int32)) 7 1 (v_X6_takes (up (up (up u 0 12 (0 : Int32)) 0 11 ((u 0 11) + (1 : Int32))) 7 0 (u 6 (sN (u 0) 11))) (48 : Int32) (55 : Int32))) (58 : Int32) (58 : Int32)) (1 : Int32) (9999 : Int32))) (64 : Int32) (40 : Int32) (20 : Int32))) (43 : Int32) (99 : Int32) (14 : Int32)) from (if_neg c1).trans ((if_pos c3).trans ((if_pos c7).trans ((if_neg c8).trans rfl)))) hP) dX6_readThing_236
        · skip
          refine lv_aload_n hx hb dX6_readThing_99 rfl (lv_at hl 1 rfl) ?_
          refine g_get S hK hP (i := 0) (by omega) mC0 rfl inlX6 13 (by decide) k_75 (v := .ref (a 7)) rfl dX6_readThing_100 ?_
          refine lv_iconst (v := 1) hx hb dX6_readThing_103 (by decide) ?_
          refine lv_aload_n hx hb dX6_readThing_104 rfl (lv_at hl 1 rfl) ?_
          refine lv_iconst (v := 1) hx hb dX6_readThing_105 (by decide) ?_
          refine lv_bipush (v := 99) hx hb dX6_readThing_106 (by decide) ?_
          refine r_callI S hK hP (c_X6_takesNumber l G a hI (up (up (up u 0 12 (0 : Int32)) 0 11 ((u 0 11) + (1 : Int32))) 7 0 (u 6 (sN (u 0) 11))) _ _ (TI_up7 (TI_g hT hlt)) (by decide)) (r_cw S k_601 k_598 k_599 k_600 k_5 q_X6_takesNumber ⟨Nat.le_of_ble_eq_true rfl, Nat.le_of_ble_eq_true rfl⟩ rfl rfl) (g_recv hK hP (i := 0) (by omega) mC0 rfl) rfl hl.1 rfl (Nat.le_of_ble_eq_true rfl) dX6_readThing_108 ⟨Nat.zero_le _, Nat.zero_le _⟩ hS (fun _ h => h) (fun H locs hP _ _ hS => ?_)
          have hP : mP G a (w_X6_takesNumber (up (up (up u 0 12 (0 : Int32)) 0 11 ((u 0 11) + (1 : Int32))) 7 0 (u 6 (sN (u 0) 11))) (1 : Int32) (99 : Int32)) H := hP
          refine g_astN S hK hP hI hS (i := 7) (by omega) mC7 (k := 1) (by omega) (by decide) dX6_readThing_111 (fun H locs hP hS => ?_)
          have hP : mP G a (up (w_X6_takesNumber (up (up (up u 0 12 (0 : Int32)) 0 11 ((u 0 11) + (1 : Int32))) 7 0 (u 6 (sN (u 0) 11))) (1 : Int32) (99 : Int32)) 7 1 (v_X6_takesNumber (up (up (up u 0 12 (0 : Int32)) 0 11 ((u 0 11) + (1 : Int32))) 7 0 (u 6 (sN (u 0) 11))) (1 : Int32) (99 : Int32))) H := hP
          refine lv_goto (tgt := 236) hx hb dX6_readThing_112 (by decide) ?_
          exact e_void S hr hlk hK hS (gP_eq (show w_X6_readThing u  = up (w_X6_takesNumber (up (up (up u 0 12 (0 : Int32)) 0 11 ((u 0 11) + (1 : Int32))) 7 0 (u 6 (sN (u 0) 11))) (1 : Int32) (99 : Int32)) 7 1 (v_X6_takesNumber (up (up (up u 0 12 (0 : Int32)) 0 11 ((u 0 11) + (1 : Int32))) 7 0 (u 6 (sN (u 0) 11))) (1 : Int32) (99 : Int32)) from (if_neg c1).trans ((if_pos c3).trans ((if_pos c7).trans ((if_pos c8).trans rfl)))) hP) dX6_readThing_236
      · skip
        refine lv_iload_n hx hb dX6_readThing_39 rfl (lv_at hl 0 rfl) ?_
        refine lv_bipush (v := 112) hx hb dX6_readThing_40 (by decide) ?_
        refine lv_icmp_eq (tgt := 61) hx hb dX6_readThing_42 (by decide) (fun c9 => ?_) (fun c9 => ?_)
        · skip
          refine lv_iconst (v := 0) hx hb dX6_readThing_61 (by decide) ?_
          refine g_put S hK hP hI hS (i := 0) (by omega) mC0 rfl inlX6 tyX6 tyX6_ok nmX6 mF_n 12 (by decide) k_587 rfl pZ rfl rfl (fun _ => rfl) dX6_readThing_62 (fun H locs hP hS => ?_)
          have hP : mP G a (up u 0 12 (0 : Int32)) H := hP
          refine lv_aload_n hx hb dX6_readThing_65 rfl (lv_at hl 1 rfl) ?_
          refine lv_dup hx hb dX6_readThing_66 rfl ?_
          refine g_get S hK hP (i := 0) (by omega) mC0 rfl inlX6 11 (by decide) k_588 (v := .int (u 0 11)) (congrArg Value.int ((up_nk (by omega)).trans rfl)) dX6_readThing_67 ?_
          refine lv_aload_n hx hb dX6_readThing_70 rfl (lv_at hl 1 rfl) ?_
          refine g_get S hK hP (i := 0) (by omega) mC0 rfl inlX6 12 (by decide) k_587 (v := .int (0 : Int32)) (congrArg Value.int (up_same)) dX6_readThing_71 ?_
          refine lv_if_eq (tgt := 81) hx hb dX6_readThing_74 (by decide) (fun _ => ?_) (fun c => absurd (by decide) c)
          refine lv_iconst (v := 1) hx hb dX6_readThing_81 (by decide) ?_
          refine lv_iadd hx hb dX6_readThing_82 ?_
          refine g_put S hK hP hI hS (i := 0) (by omega) mC0 rfl inlX6 tyX6 tyX6_ok nmX6 mF_n 11 (by decide) k_588 rfl pI rfl rfl (fun _ => rfl) dX6_readThing_83 (fun H locs hP hS => ?_)
          have hP : mP G a (up (up u 0 12 (0 : Int32)) 0 11 ((u 0 11) + (1 : Int32))) H := hP
          refine lv_aload_n hx hb dX6_readThing_86 rfl (lv_at hl 1 rfl) ?_
          refine g_get S hK hP (i := 0) (by omega) mC0 rfl inlX6 13 (by decide) k_75 (v := .ref (a 7)) rfl dX6_readThing_87 ?_
          refine lv_iconst (v := 0) hx hb dX6_readThing_90 (by decide) ?_
          refine lv_iload_n hx hb dX6_readThing_91 rfl (lv_at hl 0 rfl) ?_
          refine g_astN S hK hP hI hS (i := 7) (by omega) mC7 (k := 0) (by omega) (by decide) dX6_readThing_92 (fun H locs hP hS => ?_)
          have hP : mP G a (up (up (up u 0 12 (0 : Int32)) 0 11 ((u 0 11) + (1 : Int32))) 7 0 (u 6 (sN (u 0) 11))) H := hP
          refine lv_iload_n hx hb dX6_readThing_93 rfl (lv_at hl 0 rfl) ?_
          refine lv_bipush (v := 46) hx hb dX6_readThing_94 (by decide) ?_
          refine lv_icmp_ne (tgt := 115) hx hb dX6_readThing_96 (by decide) (fun c10 => ?_) (fun c10 => ?_)
          · skip
            refine lv_iload_n hx hb dX6_readThing_115 rfl (lv_at hl 0 rfl) ?_
            refine lv_bipush (v := 98) hx hb dX6_readThing_116 (by decide) ?_
            refine lv_icmp_eq (tgt := 127) hx hb dX6_readThing_118 (by decide) (fun c => absurd c c7) (fun _ => ?_)
            refine lv_iload_n hx hb dX6_readThing_121 rfl (lv_at hl 0 rfl) ?_
            refine lv_bipush (v := 112) hx hb dX6_readThing_122 (by decide) ?_
            refine lv_icmp_ne (tgt := 236) hx hb dX6_readThing_124 (by decide) (fun c => absurd c9 c) (fun _ => ?_)
            refine lv_aload_n hx hb dX6_readThing_127 rfl (lv_at hl 1 rfl) ?_
            refine g_get S hK hP (i := 0) (by omega) mC0 rfl inlX6 13 (by decide) k_75 (v := .ref (a 7)) rfl dX6_readThing_128 ?_
            refine lv_iconst (v := 1) hx hb dX6_readThing_131 (by decide) ?_
            refine lv_aload_n hx hb dX6_readThing_132 rfl (lv_at hl 1 rfl) ?_
            refine lv_bipush (v := 48) hx hb dX6_readThing_133 (by decide) ?_
            refine lv_bipush (v := 55) hx hb dX6_readThing_135 (by decide) ?_
            refine r_callI S hK hP (c_X6_takes l G a hI (up (up (up u 0 12 (0 : Int32)) 0 11 ((u 0 11) + (1 : Int32))) 7 0 (u 6 (sN (u 0) 11))) _ _ (TI_up7 (TI_g hT hlt))) (r_cw S k_605 k_602 k_603 k_604 k_5 q_X6_takes ⟨Nat.le_of_ble_eq_true rfl, Nat.le_of_ble_eq_true rfl⟩ rfl rfl) (g_recv hK hP (i := 0) (by omega) mC0 rfl) rfl hl.1 rfl (Nat.le_of_ble_eq_true rfl) dX6_readThing_137 ⟨Nat.zero_le _, Nat.zero_le _⟩ hS (fun _ h => h) (fun H locs hP _ _ hS => ?_)
            have hP : mP G a (w_X6_takes (up (up (up u 0 12 (0 : Int32)) 0 11 ((u 0 11) + (1 : Int32))) 7 0 (u 6 (sN (u 0) 11))) (48 : Int32) (55 : Int32)) H := hP
            refine g_astN S hK hP hI hS (i := 7) (by omega) mC7 (k := 1) (by omega) (by decide) dX6_readThing_140 (fun H locs hP hS => ?_)
            have hP : mP G a (up (w_X6_takes (up (up (up u 0 12 (0 : Int32)) 0 11 ((u 0 11) + (1 : Int32))) 7 0 (u 6 (sN (u 0) 11))) (48 : Int32) (55 : Int32)) 7 1 (v_X6_takes (up (up (up u 0 12 (0 : Int32)) 0 11 ((u 0 11) + (1 : Int32))) 7 0 (u 6 (sN (u 0) 11))) (48 : Int32) (55 : Int32))) H := hP
            refine lv_aload_n hx hb dX6_readThing_141 rfl (lv_at hl 1 rfl) ?_
            refine lv_bipush (v := 58) hx hb dX6_readThing_142 (by decide) ?_
            refine lv_bipush (v := 58) hx hb dX6_readThing_144 (by decide) ?_
            refine r_callI S hK hP (c_X6_takes l G a hI (up (w_X6_takes (up (up (up u 0 12 (0 : Int32)) 0 11 ((u 0 11) + (1 : Int32))) 7 0 (u 6 (sN (u 0) 11))) (48 : Int32) (55 : Int32)) 7 1 (v_X6_takes (up (up (up u 0 12 (0 : Int32)) 0 11 ((u 0 11) + (1 : Int32))) 7 0 (u 6 (sN (u 0) 11))) (48 : Int32) (55 : Int32))) _ _ (TI_up7 (takes_TI (TI_up7 (TI_g hT hlt)) (by decide)))) (r_cw S k_605 k_602 k_603 k_604 k_5 q_X6_takes ⟨Nat.le_of_ble_eq_true rfl, Nat.le_of_ble_eq_true rfl⟩ rfl rfl) (g_recv hK hP (i := 0) (by omega) mC0 rfl) rfl hl.1 rfl (Nat.le_of_ble_eq_true rfl) dX6_readThing_146 ⟨Nat.zero_le _, Nat.zero_le _⟩ hS (fun _ h => h) (fun H locs hP _ _ hS => ?_)
            have hP : mP G a (w_X6_takes (up (w_X6_takes (up (up (up u 0 12 (0 : Int32)) 0 11 ((u 0 11) + (1 : Int32))) 7 0 (u 6 (sN (u 0) 11))) (48 : Int32) (55 : Int32)) 7 1 (v_X6_takes (up (up (up u 0 12 (0 : Int32)) 0 11 ((u 0 11) + (1 : Int32))) 7 0 (u 6 (sN (u 0) 11))) (48 : Int32) (55 : Int32))) (58 : Int32) (58 : Int32)) H := hP
            refine lv_istore_n (lv' := [(2, .int (v_X6_takes (up (w_X6_takes (up (up (up u 0 12 (0 : Int32)) 0 11 ((u 0 11) + (1 : Int32))) 7 0 (u 6 (sN (u 0) 11))) (48 : Int32) (55 : Int32)) 7 1 (v_X6_takes (up (up (up u 0 12 (0 : Int32)) 0 11 ((u 0 11) + (1 : Int32))) 7 0 (u 6 (sN (u 0) 11))) (48 : Int32) (55 : Int32))) (58 : Int32) (58 : Int32))), (1, .int (u 6 (sN (u 0) 11))), (0, .ref (a 0))]) hx hb dX6_readThing_149 rfl hl (by decide) rfl (fun ls hl => ?_)
            refine lv_aload_n hx hb dX6_readThing_150 rfl (lv_at hl 2 rfl) ?_
            refine g_get S hK hP (i := 0) (by omega) mC0 rfl inlX6 13 (by decide) k_75 (v := .ref (a 7)) rfl dX6_readThing_151 ?_
            refine lv_iconst (v := 2) hx hb dX6_readThing_154 (by decide) ?_
            refine lv_aload_n hx hb dX6_readThing_155 rfl (lv_at hl 2 rfl) ?_
            refine lv_iconst (v := 1) hx hb dX6_readThing_156 (by decide) ?_
            refine lv_iload_n hx hb dX6_readThing_157 rfl (lv_at hl 1 rfl) ?_
            refine lv_bipush (v := 98) hx hb dX6_readThing_158 (by decide) ?_
            refine lv_icmp_ne (tgt := 169) hx hb dX6_readThing_160 (by decide) (fun _ => ?_) (fun c => absurd c c7)
            refine lv_ldc hx hb hown (S.2.2.2.2 _ k_270) dX6_readThing_169 ?_
            refine r_callI S hK hP (c_X6_takesNumber l G a hI (w_X6_takes (up (w_X6_takes (up (up (up u 0 12 (0 : Int32)) 0 11 ((u 0 11) + (1 : Int32))) 7 0 (u 6 (sN (u 0) 11))) (48 : Int32) (55 : Int32)) 7 1 (v_X6_takes (up (up (up u 0 12 (0 : Int32)) 0 11 ((u 0 11) + (1 : Int32))) 7 0 (u 6 (sN (u 0) 11))) (48 : Int32) (55 : Int32))) (58 : Int32) (58 : Int32)) _ _ (takes_TI (TI_up7 (takes_TI (TI_up7 (TI_g hT hlt)) (by decide))) (by decide)) (by decide)) (r_cw S k_601 k_598 k_599 k_600 k_5 q_X6_takesNumber ⟨Nat.le_of_ble_eq_true rfl, Nat.le_of_ble_eq_true rfl⟩ rfl rfl) (g_recv hK hP (i := 0) (by omega) mC0 rfl) rfl hl.1 rfl (Nat.le_of_ble_eq_true rfl) dX6_readThing_171 ⟨Nat.zero_le _, Nat.zero_le _⟩ hS (fun _ h => h) (fun H locs hP _ _ hS => ?_)
            have hP : mP G a (w_X6_takesNumber (w_X6_takes (up (w_X6_takes (up (up (up u 0 12 (0 : Int32)) 0 11 ((u 0 11) + (1 : Int32))) 7 0 (u 6 (sN (u 0) 11))) (48 : Int32) (55 : Int32)) 7 1 (v_X6_takes (up (up (up u 0 12 (0 : Int32)) 0 11 ((u 0 11) + (1 : Int32))) 7 0 (u 6 (sN (u 0) 11))) (48 : Int32) (55 : Int32))) (58 : Int32) (58 : Int32)) (1 : Int32) (99999 : Int32)) H := hP
            refine g_astN S hK hP hI hS (i := 7) (by omega) mC7 (k := 2) (by omega) (by decide) dX6_readThing_174 (fun H locs hP hS => ?_)
            have hP : mP G a (up (w_X6_takesNumber (w_X6_takes (up (w_X6_takes (up (up (up u 0 12 (0 : Int32)) 0 11 ((u 0 11) + (1 : Int32))) 7 0 (u 6 (sN (u 0) 11))) (48 : Int32) (55 : Int32)) 7 1 (v_X6_takes (up (up (up u 0 12 (0 : Int32)) 0 11 ((u 0 11) + (1 : Int32))) 7 0 (u 6 (sN (u 0) 11))) (48 : Int32) (55 : Int32))) (58 : Int32) (58 : Int32)) (1 : Int32) (99999 : Int32)) 7 2 (v_X6_takesNumber (w_X6_takes (up (w_X6_takes (up (up (up u 0 12 (0 : Int32)) 0 11 ((u 0 11) + (1 : Int32))) 7 0 (u 6 (sN (u 0) 11))) (48 : Int32) (55 : Int32)) 7 1 (v_X6_takes (up (up (up u 0 12 (0 : Int32)) 0 11 ((u 0 11) + (1 : Int32))) 7 0 (u 6 (sN (u 0) 11))) (48 : Int32) (55 : Int32))) (58 : Int32) (58 : Int32)) (1 : Int32) (99999 : Int32))) H := hP
            refine lv_aload_n hx hb dX6_readThing_175 rfl (lv_at hl 2 rfl) ?_
            refine g_get S hK hP (i := 0) (by omega) mC0 rfl inlX6 13 (by decide) k_75 (v := .ref (a 7)) rfl dX6_readThing_176 ?_
            refine lv_iconst (v := 3) hx hb dX6_readThing_179 (by decide) ?_
            refine lv_iload_n hx hb dX6_readThing_180 rfl (lv_at hl 1 rfl) ?_
            refine lv_bipush (v := 98) hx hb dX6_readThing_181 (by decide) ?_
            refine lv_icmp_ne (tgt := 199) hx hb dX6_readThing_183 (by decide) (fun _ => ?_) (fun c => absurd c c7)
            refine lv_aload_n hx hb dX6_readThing_199 rfl (lv_at hl 2 rfl) ?_
            refine lv_bipush (v := 35) hx hb dX6_readThing_200 (by decide) ?_
            refine lv_bipush (v := 39) hx hb dX6_readThing_202 (by decide) ?_
            refine lv_bipush (v := -5) hx hb dX6_readThing_204 (by decide) ?_
            refine r_callI S hK hP (c_X6_takesBehind l G a hI (up (w_X6_takesNumber (w_X6_takes (up (w_X6_takes (up (up (up u 0 12 (0 : Int32)) 0 11 ((u 0 11) + (1 : Int32))) 7 0 (u 6 (sN (u 0) 11))) (48 : Int32) (55 : Int32)) 7 1 (v_X6_takes (up (up (up u 0 12 (0 : Int32)) 0 11 ((u 0 11) + (1 : Int32))) 7 0 (u 6 (sN (u 0) 11))) (48 : Int32) (55 : Int32))) (58 : Int32) (58 : Int32)) (1 : Int32) (99999 : Int32)) 7 2 (v_X6_takesNumber (w_X6_takes (up (w_X6_takes (up (up (up u 0 12 (0 : Int32)) 0 11 ((u 0 11) + (1 : Int32))) 7 0 (u 6 (sN (u 0) 11))) (48 : Int32) (55 : Int32)) 7 1 (v_X6_takes (up (up (up u 0 12 (0 : Int32)) 0 11 ((u 0 11) + (1 : Int32))) 7 0 (u 6 (sN (u 0) 11))) (48 : Int32) (55 : Int32))) (58 : Int32) (58 : Int32)) (1 : Int32) (99999 : Int32))) _ _ _ (TI_up7 (takesNumber_TI (takes_TI (TI_up7 (takes_TI (TI_up7 (TI_g hT hlt)) (by decide))) (by decide)) (by decide)))) (r_cw S k_613 k_610 k_611 k_612 k_5 q_X6_takesBehind ⟨Nat.le_of_ble_eq_true rfl, Nat.le_of_ble_eq_true rfl⟩ rfl rfl) (g_recv hK hP (i := 0) (by omega) mC0 rfl) rfl hl.1 rfl (Nat.le_of_ble_eq_true rfl) dX6_readThing_206 ⟨Nat.zero_le _, Nat.zero_le _⟩ hS (fun _ h => h) (fun H locs hP _ _ hS => ?_)
            have hP : mP G a (w_X6_takesBehind (up (w_X6_takesNumber (w_X6_takes (up (w_X6_takes (up (up (up u 0 12 (0 : Int32)) 0 11 ((u 0 11) + (1 : Int32))) 7 0 (u 6 (sN (u 0) 11))) (48 : Int32) (55 : Int32)) 7 1 (v_X6_takes (up (up (up u 0 12 (0 : Int32)) 0 11 ((u 0 11) + (1 : Int32))) 7 0 (u 6 (sN (u 0) 11))) (48 : Int32) (55 : Int32))) (58 : Int32) (58 : Int32)) (1 : Int32) (99999 : Int32)) 7 2 (v_X6_takesNumber (w_X6_takes (up (w_X6_takes (up (up (up u 0 12 (0 : Int32)) 0 11 ((u 0 11) + (1 : Int32))) 7 0 (u 6 (sN (u 0) 11))) (48 : Int32) (55 : Int32)) 7 1 (v_X6_takes (up (up (up u 0 12 (0 : Int32)) 0 11 ((u 0 11) + (1 : Int32))) 7 0 (u 6 (sN (u 0) 11))) (48 : Int32) (55 : Int32))) (58 : Int32) (58 : Int32)) (1 : Int32) (99999 : Int32))) (35 : Int32) (39 : Int32) (-5 : Int32)) H := hP
            refine g_astN S hK hP hI hS (i := 7) (by omega) mC7 (k := 3) (by omega) (by decide) dX6_readThing_209 (fun H locs hP hS => ?_)
            have hP : mP G a (up (w_X6_takesBehind (up (w_X6_takesNumber (w_X6_takes (up (w_X6_takes (up (up (up u 0 12 (0 : Int32)) 0 11 ((u 0 11) + (1 : Int32))) 7 0 (u 6 (sN (u 0) 11))) (48 : Int32) (55 : Int32)) 7 1 (v_X6_takes (up (up (up u 0 12 (0 : Int32)) 0 11 ((u 0 11) + (1 : Int32))) 7 0 (u 6 (sN (u 0) 11))) (48 : Int32) (55 : Int32))) (58 : Int32) (58 : Int32)) (1 : Int32) (99999 : Int32)) 7 2 (v_X6_takesNumber (w_X6_takes (up (w_X6_takes (up (up (up u 0 12 (0 : Int32)) 0 11 ((u 0 11) + (1 : Int32))) 7 0 (u 6 (sN (u 0) 11))) (48 : Int32) (55 : Int32)) 7 1 (v_X6_takes (up (up (up u 0 12 (0 : Int32)) 0 11 ((u 0 11) + (1 : Int32))) 7 0 (u 6 (sN (u 0) 11))) (48 : Int32) (55 : Int32))) (58 : Int32) (58 : Int32)) (1 : Int32) (99999 : Int32))) (35 : Int32) (39 : Int32) (-5 : Int32)) 7 3 (v_X6_takesBehind (up (w_X6_takesNumber (w_X6_takes (up (w_X6_takes (up (up (up u 0 12 (0 : Int32)) 0 11 ((u 0 11) + (1 : Int32))) 7 0 (u 6 (sN (u 0) 11))) (48 : Int32) (55 : Int32)) 7 1 (v_X6_takes (up (up (up u 0 12 (0 : Int32)) 0 11 ((u 0 11) + (1 : Int32))) 7 0 (u 6 (sN (u 0) 11))) (48 : Int32) (55 : Int32))) (58 : Int32) (58 : Int32)) (1 : Int32) (99999 : Int32)) 7 2 (v_X6_takesNumber (w_X6_takes (up (w_X6_takes (up (up (up u 0 12 (0 : Int32)) 0 11 ((u 0 11) + (1 : Int32))) 7 0 (u 6 (sN (u 0) 11))) (48 : Int32) (55 : Int32)) 7 1 (v_X6_takes (up (up (up u 0 12 (0 : Int32)) 0 11 ((u 0 11) + (1 : Int32))) 7 0 (u 6 (sN (u 0) 11))) (48 : Int32) (55 : Int32))) (58 : Int32) (58 : Int32)) (1 : Int32) (99999 : Int32))) (35 : Int32) (39 : Int32) (-5 : Int32))) H := hP
            refine lv_aload_n hx hb dX6_readThing_210 rfl (lv_at hl 2 rfl) ?_
            refine g_get S hK hP (i := 0) (by omega) mC0 rfl inlX6 13 (by decide) k_75 (v := .ref (a 7)) rfl dX6_readThing_211 ?_
            refine lv_iconst (v := 4) hx hb dX6_readThing_214 (by decide) ?_
            refine lv_iload_n hx hb dX6_readThing_215 rfl (lv_at hl 1 rfl) ?_
            refine lv_bipush (v := 98) hx hb dX6_readThing_216 (by decide) ?_
            refine lv_icmp_ne (tgt := 234) hx hb dX6_readThing_218 (by decide) (fun _ => ?_) (fun c => absurd c c7)
            refine lv_iconst (v := 0) hx hb dX6_readThing_234 (by decide) ?_
            refine g_astN S hK hP hI hS (i := 7) (by omega) mC7 (k := 4) (by omega) (by decide) dX6_readThing_235 (fun H locs hP hS => ?_)
            have hP : mP G a (up (up (w_X6_takesBehind (up (w_X6_takesNumber (w_X6_takes (up (w_X6_takes (up (up (up u 0 12 (0 : Int32)) 0 11 ((u 0 11) + (1 : Int32))) 7 0 (u 6 (sN (u 0) 11))) (48 : Int32) (55 : Int32)) 7 1 (v_X6_takes (up (up (up u 0 12 (0 : Int32)) 0 11 ((u 0 11) + (1 : Int32))) 7 0 (u 6 (sN (u 0) 11))) (48 : Int32) (55 : Int32))) (58 : Int32) (58 : Int32)) (1 : Int32) (99999 : Int32)) 7 2 (v_X6_takesNumber (w_X6_takes (up (w_X6_takes (up (up (up u 0 12 (0 : Int32)) 0 11 ((u 0 11) + (1 : Int32))) 7 0 (u 6 (sN (u 0) 11))) (48 : Int32) (55 : Int32)) 7 1 (v_X6_takes (up (up (up u 0 12 (0 : Int32)) 0 11 ((u 0 11) + (1 : Int32))) 7 0 (u 6 (sN (u 0) 11))) (48 : Int32) (55 : Int32))) (58 : Int32) (58 : Int32)) (1 : Int32) (99999 : Int32))) (35 : Int32) (39 : Int32) (-5 : Int32)) 7 3 (v_X6_takesBehind (up (w_X6_takesNumber (w_X6_takes (up (w_X6_takes (up (up (up u 0 12 (0 : Int32)) 0 11 ((u 0 11) + (1 : Int32))) 7 0 (u 6 (sN (u 0) 11))) (48 : Int32) (55 : Int32)) 7 1 (v_X6_takes (up (up (up u 0 12 (0 : Int32)) 0 11 ((u 0 11) + (1 : Int32))) 7 0 (u 6 (sN (u 0) 11))) (48 : Int32) (55 : Int32))) (58 : Int32) (58 : Int32)) (1 : Int32) (99999 : Int32)) 7 2 (v_X6_takesNumber (w_X6_takes (up (w_X6_takes (up (up (up u 0 12 (0 : Int32)) 0 11 ((u 0 11) + (1 : Int32))) 7 0 (u 6 (sN (u 0) 11))) (48 : Int32) (55 : Int32)) 7 1 (v_X6_takes (up (up (up u 0 12 (0 : Int32)) 0 11 ((u 0 11) + (1 : Int32))) 7 0 (u 6 (sN (u 0) 11))) (48 : Int32) (55 : Int32))) (58 : Int32) (58 : Int32)) (1 : Int32) (99999 : Int32))) (35 : Int32) (39 : Int32) (-5 : Int32))) 7 4 (0 : Int32)) H := hP
            exact e_void S hr hlk hK hS (gP_eq (show w_X6_readThing u  = up (up (w_X6_takesBehind (up (w_X6_takesNumber (w_X6_takes (up (w_X6_takes (up (up (up u 0 12 (0 : Int32)) 0 11 ((u 0 11) + (1 : Int32))) 7 0 (u 6 (sN (u 0) 11))) (48 : Int32) (55 : Int32)) 7 1 (v_X6_takes (up (up (up u 0 12 (0 : Int32)) 0 11 ((u 0 11) + (1 : Int32))) 7 0 (u 6 (sN (u 0) 11))) (48 : Int32) (55 : Int32))) (58 : Int32) (58 : Int32)) (1 : Int32) (99999 : Int32)) 7 2 (v_X6_takesNumber (w_X6_takes (up (w_X6_takes (up (up (up u 0 12 (0 : Int32)) 0 11 ((u 0 11) + (1 : Int32))) 7 0 (u 6 (sN (u 0) 11))) (48 : Int32) (55 : Int32)) 7 1 (v_X6_takes (up (up (up u 0 12 (0 : Int32)) 0 11 ((u 0 11) + (1 : Int32))) 7 0 (u 6 (sN (u 0) 11))) (48 : Int32) (55 : Int32))) (58 : Int32) (58 : Int32)) (1 : Int32) (99999 : Int32))) (35 : Int32) (39 : Int32) (-5 : Int32)) 7 3 (v_X6_takesBehind (up (w_X6_takesNumber (w_X6_takes (up (w_X6_takes (up (up (up u 0 12 (0 : Int32)) 0 11 ((u 0 11) + (1 : Int32))) 7 0 (u 6 (sN (u 0) 11))) (48 : Int32) (55 : Int32)) 7 1 (v_X6_takes (up (up (up u 0 12 (0 : Int32)) 0 11 ((u 0 11) + (1 : Int32))) 7 0 (u 6 (sN (u 0) 11))) (48 : Int32) (55 : Int32))) (58 : Int32) (58 : Int32)) (1 : Int32) (99999 : Int32)) 7 2 (v_X6_takesNumber (w_X6_takes (up (w_X6_takes (up (up (up u 0 12 (0 : Int32)) 0 11 ((u 0 11) + (1 : Int32))) 7 0 (u 6 (sN (u 0) 11))) (48 : Int32) (55 : Int32)) 7 1 (v_X6_takes (up (up (up u 0 12 (0 : Int32)) 0 11 ((u 0 11) + (1 : Int32))) 7 0 (u 6 (sN (u 0) 11))) (48 : Int32) (55 : Int32))) (58 : Int32) (58 : Int32)) (1 : Int32) (99999 : Int32))) (35 : Int32) (39 : Int32) (-5 : Int32))) 7 4 (0 : Int32) from (if_neg c1).trans ((if_pos c3).trans ((if_neg c7).trans ((if_pos c9).trans ((if_neg c10).trans rfl))))) hP) dX6_readThing_236
          · skip
            refine lv_aload_n hx hb dX6_readThing_99 rfl (lv_at hl 1 rfl) ?_
            refine g_get S hK hP (i := 0) (by omega) mC0 rfl inlX6 13 (by decide) k_75 (v := .ref (a 7)) rfl dX6_readThing_100 ?_
            refine lv_iconst (v := 1) hx hb dX6_readThing_103 (by decide) ?_
            refine lv_aload_n hx hb dX6_readThing_104 rfl (lv_at hl 1 rfl) ?_
            refine lv_iconst (v := 1) hx hb dX6_readThing_105 (by decide) ?_
            refine lv_bipush (v := 99) hx hb dX6_readThing_106 (by decide) ?_
            refine r_callI S hK hP (c_X6_takesNumber l G a hI (up (up (up u 0 12 (0 : Int32)) 0 11 ((u 0 11) + (1 : Int32))) 7 0 (u 6 (sN (u 0) 11))) _ _ (TI_up7 (TI_g hT hlt)) (by decide)) (r_cw S k_601 k_598 k_599 k_600 k_5 q_X6_takesNumber ⟨Nat.le_of_ble_eq_true rfl, Nat.le_of_ble_eq_true rfl⟩ rfl rfl) (g_recv hK hP (i := 0) (by omega) mC0 rfl) rfl hl.1 rfl (Nat.le_of_ble_eq_true rfl) dX6_readThing_108 ⟨Nat.zero_le _, Nat.zero_le _⟩ hS (fun _ h => h) (fun H locs hP _ _ hS => ?_)
            have hP : mP G a (w_X6_takesNumber (up (up (up u 0 12 (0 : Int32)) 0 11 ((u 0 11) + (1 : Int32))) 7 0 (u 6 (sN (u 0) 11))) (1 : Int32) (99 : Int32)) H := hP
            refine g_astN S hK hP hI hS (i := 7) (by omega) mC7 (k := 1) (by omega) (by decide) dX6_readThing_111 (fun H locs hP hS => ?_)
            have hP : mP G a (up (w_X6_takesNumber (up (up (up u 0 12 (0 : Int32)) 0 11 ((u 0 11) + (1 : Int32))) 7 0 (u 6 (sN (u 0) 11))) (1 : Int32) (99 : Int32)) 7 1 (v_X6_takesNumber (up (up (up u 0 12 (0 : Int32)) 0 11 ((u 0 11) + (1 : Int32))) 7 0 (u 6 (sN (u 0) 11))) (1 : Int32) (99 : Int32))) H := hP
            refine lv_goto (tgt := 236) hx hb dX6_readThing_112 (by decide) ?_
            exact e_void S hr hlk hK hS (gP_eq (show w_X6_readThing u  = up (w_X6_takesNumber (up (up (up u 0 12 (0 : Int32)) 0 11 ((u 0 11) + (1 : Int32))) 7 0 (u 6 (sN (u 0) 11))) (1 : Int32) (99 : Int32)) 7 1 (v_X6_takesNumber (up (up (up u 0 12 (0 : Int32)) 0 11 ((u 0 11) + (1 : Int32))) 7 0 (u 6 (sN (u 0) 11))) (1 : Int32) (99 : Int32)) from (if_neg c1).trans ((if_pos c3).trans ((if_neg c7).trans ((if_pos c9).trans ((if_pos c10).trans rfl))))) hP) dX6_readThing_236
        · skip
          refine lv_iload_n hx hb dX6_readThing_45 rfl (lv_at hl 0 rfl) ?_
          refine lv_bipush (v := 114) hx hb dX6_readThing_46 (by decide) ?_
          refine lv_icmp_eq (tgt := 61) hx hb dX6_readThing_48 (by decide) (fun c11 => ?_) (fun c11 => ?_)
          · skip
            refine lv_iconst (v := 0) hx hb dX6_readThing_61 (by decide) ?_
            refine g_put S hK hP hI hS (i := 0) (by omega) mC0 rfl inlX6 tyX6 tyX6_ok nmX6 mF_n 12 (by decide) k_587 rfl pZ rfl rfl (fun _ => rfl) dX6_readThing_62 (fun H locs hP hS => ?_)
            have hP : mP G a (up u 0 12 (0 : Int32)) H := hP
            refine lv_aload_n hx hb dX6_readThing_65 rfl (lv_at hl 1 rfl) ?_
            refine lv_dup hx hb dX6_readThing_66 rfl ?_
            refine g_get S hK hP (i := 0) (by omega) mC0 rfl inlX6 11 (by decide) k_588 (v := .int (u 0 11)) (congrArg Value.int ((up_nk (by omega)).trans rfl)) dX6_readThing_67 ?_
            refine lv_aload_n hx hb dX6_readThing_70 rfl (lv_at hl 1 rfl) ?_
            refine g_get S hK hP (i := 0) (by omega) mC0 rfl inlX6 12 (by decide) k_587 (v := .int (0 : Int32)) (congrArg Value.int (up_same)) dX6_readThing_71 ?_
            refine lv_if_eq (tgt := 81) hx hb dX6_readThing_74 (by decide) (fun _ => ?_) (fun c => absurd (by decide) c)
            refine lv_iconst (v := 1) hx hb dX6_readThing_81 (by decide) ?_
            refine lv_iadd hx hb dX6_readThing_82 ?_
            refine g_put S hK hP hI hS (i := 0) (by omega) mC0 rfl inlX6 tyX6 tyX6_ok nmX6 mF_n 11 (by decide) k_588 rfl pI rfl rfl (fun _ => rfl) dX6_readThing_83 (fun H locs hP hS => ?_)
            have hP : mP G a (up (up u 0 12 (0 : Int32)) 0 11 ((u 0 11) + (1 : Int32))) H := hP
            refine lv_aload_n hx hb dX6_readThing_86 rfl (lv_at hl 1 rfl) ?_
            refine g_get S hK hP (i := 0) (by omega) mC0 rfl inlX6 13 (by decide) k_75 (v := .ref (a 7)) rfl dX6_readThing_87 ?_
            refine lv_iconst (v := 0) hx hb dX6_readThing_90 (by decide) ?_
            refine lv_iload_n hx hb dX6_readThing_91 rfl (lv_at hl 0 rfl) ?_
            refine g_astN S hK hP hI hS (i := 7) (by omega) mC7 (k := 0) (by omega) (by decide) dX6_readThing_92 (fun H locs hP hS => ?_)
            have hP : mP G a (up (up (up u 0 12 (0 : Int32)) 0 11 ((u 0 11) + (1 : Int32))) 7 0 (u 6 (sN (u 0) 11))) H := hP
            refine lv_iload_n hx hb dX6_readThing_93 rfl (lv_at hl 0 rfl) ?_
            refine lv_bipush (v := 46) hx hb dX6_readThing_94 (by decide) ?_
            refine lv_icmp_ne (tgt := 115) hx hb dX6_readThing_96 (by decide) (fun c12 => ?_) (fun c12 => ?_)
            · skip
              refine lv_iload_n hx hb dX6_readThing_115 rfl (lv_at hl 0 rfl) ?_
              refine lv_bipush (v := 98) hx hb dX6_readThing_116 (by decide) ?_
              refine lv_icmp_eq (tgt := 127) hx hb dX6_readThing_118 (by decide) (fun c => absurd c c7) (fun _ => ?_)
              refine lv_iload_n hx hb dX6_readThing_121 rfl (lv_at hl 0 rfl) ?_
              refine lv_bipush (v := 112) hx hb dX6_readThing_122 (by decide) ?_
              refine lv_icmp_ne (tgt := 236) hx hb dX6_readThing_124 (by decide) (fun _ => ?_) (fun c => absurd c c9)
              exact e_void S hr hlk hK hS (gP_eq (show w_X6_readThing u  = up (up (up u 0 12 (0 : Int32)) 0 11 ((u 0 11) + (1 : Int32))) 7 0 (u 6 (sN (u 0) 11)) from (if_neg c1).trans ((if_pos c3).trans ((if_neg c7).trans ((if_neg c9).trans ((if_pos c11).trans ((if_neg c12).trans rfl)))))) hP) dX6_readThing_236
            · skip
              refine lv_aload_n hx hb dX6_readThing_99 rfl (lv_at hl 1 rfl) ?_
              refine g_get S hK hP (i := 0) (by omega) mC0 rfl inlX6 13 (by decide) k_75 (v := .ref (a 7)) rfl dX6_readThing_100 ?_
              refine lv_iconst (v := 1) hx hb dX6_readThing_103 (by decide) ?_
              refine lv_aload_n hx hb dX6_readThing_104 rfl (lv_at hl 1 rfl) ?_
              refine lv_iconst (v := 1) hx hb dX6_readThing_105 (by decide) ?_
              refine lv_bipush (v := 99) hx hb dX6_readThing_106 (by decide) ?_
              refine r_callI S hK hP (c_X6_takesNumber l G a hI (up (up (up u 0 12 (0 : Int32)) 0 11 ((u 0 11) + (1 : Int32))) 7 0 (u 6 (sN (u 0) 11))) _ _ (TI_up7 (TI_g hT hlt)) (by decide)) (r_cw S k_601 k_598 k_599 k_600 k_5 q_X6_takesNumber ⟨Nat.le_of_ble_eq_true rfl, Nat.le_of_ble_eq_true rfl⟩ rfl rfl) (g_recv hK hP (i := 0) (by omega) mC0 rfl) rfl hl.1 rfl (Nat.le_of_ble_eq_true rfl) dX6_readThing_108 ⟨Nat.zero_le _, Nat.zero_le _⟩ hS (fun _ h => h) (fun H locs hP _ _ hS => ?_)
              have hP : mP G a (w_X6_takesNumber (up (up (up u 0 12 (0 : Int32)) 0 11 ((u 0 11) + (1 : Int32))) 7 0 (u 6 (sN (u 0) 11))) (1 : Int32) (99 : Int32)) H := hP
              refine g_astN S hK hP hI hS (i := 7) (by omega) mC7 (k := 1) (by omega) (by decide) dX6_readThing_111 (fun H locs hP hS => ?_)
              have hP : mP G a (up (w_X6_takesNumber (up (up (up u 0 12 (0 : Int32)) 0 11 ((u 0 11) + (1 : Int32))) 7 0 (u 6 (sN (u 0) 11))) (1 : Int32) (99 : Int32)) 7 1 (v_X6_takesNumber (up (up (up u 0 12 (0 : Int32)) 0 11 ((u 0 11) + (1 : Int32))) 7 0 (u 6 (sN (u 0) 11))) (1 : Int32) (99 : Int32))) H := hP
              refine lv_goto (tgt := 236) hx hb dX6_readThing_112 (by decide) ?_
              exact e_void S hr hlk hK hS (gP_eq (show w_X6_readThing u  = up (w_X6_takesNumber (up (up (up u 0 12 (0 : Int32)) 0 11 ((u 0 11) + (1 : Int32))) 7 0 (u 6 (sN (u 0) 11))) (1 : Int32) (99 : Int32)) 7 1 (v_X6_takesNumber (up (up (up u 0 12 (0 : Int32)) 0 11 ((u 0 11) + (1 : Int32))) 7 0 (u 6 (sN (u 0) 11))) (1 : Int32) (99 : Int32)) from (if_neg c1).trans ((if_pos c3).trans ((if_neg c7).trans ((if_neg c9).trans ((if_pos c11).trans ((if_pos c12).trans rfl)))))) hP) dX6_readThing_236
          · skip
            refine lv_iload_n hx hb dX6_readThing_51 rfl (lv_at hl 0 rfl) ?_
            refine lv_bipush (v := 46) hx hb dX6_readThing_52 (by decide) ?_
            refine lv_icmp_eq (tgt := 61) hx hb dX6_readThing_54 (by decide) (fun c13 => ?_) (fun c13 => ?_)
            · skip
              refine lv_iconst (v := 0) hx hb dX6_readThing_61 (by decide) ?_
              refine g_put S hK hP hI hS (i := 0) (by omega) mC0 rfl inlX6 tyX6 tyX6_ok nmX6 mF_n 12 (by decide) k_587 rfl pZ rfl rfl (fun _ => rfl) dX6_readThing_62 (fun H locs hP hS => ?_)
              have hP : mP G a (up u 0 12 (0 : Int32)) H := hP
              refine lv_aload_n hx hb dX6_readThing_65 rfl (lv_at hl 1 rfl) ?_
              refine lv_dup hx hb dX6_readThing_66 rfl ?_
              refine g_get S hK hP (i := 0) (by omega) mC0 rfl inlX6 11 (by decide) k_588 (v := .int (u 0 11)) (congrArg Value.int ((up_nk (by omega)).trans rfl)) dX6_readThing_67 ?_
              refine lv_aload_n hx hb dX6_readThing_70 rfl (lv_at hl 1 rfl) ?_
              refine g_get S hK hP (i := 0) (by omega) mC0 rfl inlX6 12 (by decide) k_587 (v := .int (0 : Int32)) (congrArg Value.int (up_same)) dX6_readThing_71 ?_
              refine lv_if_eq (tgt := 81) hx hb dX6_readThing_74 (by decide) (fun _ => ?_) (fun c => absurd (by decide) c)
              refine lv_iconst (v := 1) hx hb dX6_readThing_81 (by decide) ?_
              refine lv_iadd hx hb dX6_readThing_82 ?_
              refine g_put S hK hP hI hS (i := 0) (by omega) mC0 rfl inlX6 tyX6 tyX6_ok nmX6 mF_n 11 (by decide) k_588 rfl pI rfl rfl (fun _ => rfl) dX6_readThing_83 (fun H locs hP hS => ?_)
              have hP : mP G a (up (up u 0 12 (0 : Int32)) 0 11 ((u 0 11) + (1 : Int32))) H := hP
              refine lv_aload_n hx hb dX6_readThing_86 rfl (lv_at hl 1 rfl) ?_
              refine g_get S hK hP (i := 0) (by omega) mC0 rfl inlX6 13 (by decide) k_75 (v := .ref (a 7)) rfl dX6_readThing_87 ?_
              refine lv_iconst (v := 0) hx hb dX6_readThing_90 (by decide) ?_
              refine lv_iload_n hx hb dX6_readThing_91 rfl (lv_at hl 0 rfl) ?_
              refine g_astN S hK hP hI hS (i := 7) (by omega) mC7 (k := 0) (by omega) (by decide) dX6_readThing_92 (fun H locs hP hS => ?_)
              have hP : mP G a (up (up (up u 0 12 (0 : Int32)) 0 11 ((u 0 11) + (1 : Int32))) 7 0 (u 6 (sN (u 0) 11))) H := hP
              refine lv_iload_n hx hb dX6_readThing_93 rfl (lv_at hl 0 rfl) ?_
              refine lv_bipush (v := 46) hx hb dX6_readThing_94 (by decide) ?_
              refine lv_icmp_ne (tgt := 115) hx hb dX6_readThing_96 (by decide) (fun c => absurd c13 c) (fun _ => ?_)
              refine lv_aload_n hx hb dX6_readThing_99 rfl (lv_at hl 1 rfl) ?_
              refine g_get S hK hP (i := 0) (by omega) mC0 rfl inlX6 13 (by decide) k_75 (v := .ref (a 7)) rfl dX6_readThing_100 ?_
              refine lv_iconst (v := 1) hx hb dX6_readThing_103 (by decide) ?_
              refine lv_aload_n hx hb dX6_readThing_104 rfl (lv_at hl 1 rfl) ?_
              refine lv_iconst (v := 1) hx hb dX6_readThing_105 (by decide) ?_
              refine lv_bipush (v := 99) hx hb dX6_readThing_106 (by decide) ?_
              refine r_callI S hK hP (c_X6_takesNumber l G a hI (up (up (up u 0 12 (0 : Int32)) 0 11 ((u 0 11) + (1 : Int32))) 7 0 (u 6 (sN (u 0) 11))) _ _ (TI_up7 (TI_g hT hlt)) (by decide)) (r_cw S k_601 k_598 k_599 k_600 k_5 q_X6_takesNumber ⟨Nat.le_of_ble_eq_true rfl, Nat.le_of_ble_eq_true rfl⟩ rfl rfl) (g_recv hK hP (i := 0) (by omega) mC0 rfl) rfl hl.1 rfl (Nat.le_of_ble_eq_true rfl) dX6_readThing_108 ⟨Nat.zero_le _, Nat.zero_le _⟩ hS (fun _ h => h) (fun H locs hP _ _ hS => ?_)
              have hP : mP G a (w_X6_takesNumber (up (up (up u 0 12 (0 : Int32)) 0 11 ((u 0 11) + (1 : Int32))) 7 0 (u 6 (sN (u 0) 11))) (1 : Int32) (99 : Int32)) H := hP
              refine g_astN S hK hP hI hS (i := 7) (by omega) mC7 (k := 1) (by omega) (by decide) dX6_readThing_111 (fun H locs hP hS => ?_)
              have hP : mP G a (up (w_X6_takesNumber (up (up (up u 0 12 (0 : Int32)) 0 11 ((u 0 11) + (1 : Int32))) 7 0 (u 6 (sN (u 0) 11))) (1 : Int32) (99 : Int32)) 7 1 (v_X6_takesNumber (up (up (up u 0 12 (0 : Int32)) 0 11 ((u 0 11) + (1 : Int32))) 7 0 (u 6 (sN (u 0) 11))) (1 : Int32) (99 : Int32))) H := hP
              refine lv_goto (tgt := 236) hx hb dX6_readThing_112 (by decide) ?_
              exact e_void S hr hlk hK hS (gP_eq (show w_X6_readThing u  = up (w_X6_takesNumber (up (up (up u 0 12 (0 : Int32)) 0 11 ((u 0 11) + (1 : Int32))) 7 0 (u 6 (sN (u 0) 11))) (1 : Int32) (99 : Int32)) 7 1 (v_X6_takesNumber (up (up (up u 0 12 (0 : Int32)) 0 11 ((u 0 11) + (1 : Int32))) 7 0 (u 6 (sN (u 0) 11))) (1 : Int32) (99 : Int32)) from (if_neg c1).trans ((if_pos c3).trans ((if_neg c7).trans ((if_neg c9).trans ((if_neg c11).trans ((if_pos c13).trans rfl)))))) hP) dX6_readThing_236
            · skip
              refine lv_iconst (v := 1) hx hb dX6_readThing_57 (by decide) ?_
              refine lv_goto (tgt := 62) hx hb dX6_readThing_58 (by decide) ?_
              refine g_put S hK hP hI hS (i := 0) (by omega) mC0 rfl inlX6 tyX6 tyX6_ok nmX6 mF_n 12 (by decide) k_587 rfl pZ rfl rfl (fun _ => rfl) dX6_readThing_62 (fun H locs hP hS => ?_)
              have hP : mP G a (up u 0 12 (1 : Int32)) H := hP
              refine lv_aload_n hx hb dX6_readThing_65 rfl (lv_at hl 1 rfl) ?_
              refine lv_dup hx hb dX6_readThing_66 rfl ?_
              refine g_get S hK hP (i := 0) (by omega) mC0 rfl inlX6 11 (by decide) k_588 (v := .int (u 0 11)) (congrArg Value.int ((up_nk (by omega)).trans rfl)) dX6_readThing_67 ?_
              refine lv_aload_n hx hb dX6_readThing_70 rfl (lv_at hl 1 rfl) ?_
              refine g_get S hK hP (i := 0) (by omega) mC0 rfl inlX6 12 (by decide) k_587 (v := .int (1 : Int32)) (congrArg Value.int (up_same)) dX6_readThing_71 ?_
              refine lv_if_eq (tgt := 81) hx hb dX6_readThing_74 (by decide) (fun c => absurd c (by decide)) (fun _ => ?_)
              refine lv_iconst (v := 0) hx hb dX6_readThing_77 (by decide) ?_
              refine lv_goto (tgt := 82) hx hb dX6_readThing_78 (by decide) ?_
              refine lv_iadd hx hb dX6_readThing_82 ?_
              refine g_put S hK hP hI hS (i := 0) (by omega) mC0 rfl inlX6 tyX6 tyX6_ok nmX6 mF_n 11 (by decide) k_588 rfl pI rfl rfl (fun _ => rfl) dX6_readThing_83 (fun H locs hP hS => ?_)
              have hP : mP G a (up (up u 0 12 (1 : Int32)) 0 11 ((u 0 11) + (0 : Int32))) H := hP
              refine lv_aload_n hx hb dX6_readThing_86 rfl (lv_at hl 1 rfl) ?_
              refine g_get S hK hP (i := 0) (by omega) mC0 rfl inlX6 13 (by decide) k_75 (v := .ref (a 7)) rfl dX6_readThing_87 ?_
              refine lv_iconst (v := 0) hx hb dX6_readThing_90 (by decide) ?_
              refine lv_iload_n hx hb dX6_readThing_91 rfl (lv_at hl 0 rfl) ?_
              refine g_astN S hK hP hI hS (i := 7) (by omega) mC7 (k := 0) (by omega) (by decide) dX6_readThing_92 (fun H locs hP hS => ?_)
              have hP : mP G a (up (up (up u 0 12 (1 : Int32)) 0 11 ((u 0 11) + (0 : Int32))) 7 0 (u 6 (sN (u 0) 11))) H := hP
              refine lv_iload_n hx hb dX6_readThing_93 rfl (lv_at hl 0 rfl) ?_
              refine lv_bipush (v := 46) hx hb dX6_readThing_94 (by decide) ?_
              refine lv_icmp_ne (tgt := 115) hx hb dX6_readThing_96 (by decide) (fun _ => ?_) (fun c => absurd c c13)
              refine lv_iload_n hx hb dX6_readThing_115 rfl (lv_at hl 0 rfl) ?_
              refine lv_bipush (v := 98) hx hb dX6_readThing_116 (by decide) ?_
              refine lv_icmp_eq (tgt := 127) hx hb dX6_readThing_118 (by decide) (fun c => absurd c c7) (fun _ => ?_)
              refine lv_iload_n hx hb dX6_readThing_121 rfl (lv_at hl 0 rfl) ?_
              refine lv_bipush (v := 112) hx hb dX6_readThing_122 (by decide) ?_
              refine lv_icmp_ne (tgt := 236) hx hb dX6_readThing_124 (by decide) (fun _ => ?_) (fun c => absurd c c9)
              exact e_void S hr hlk hK hS (gP_eq (show w_X6_readThing u  = up (up (up u 0 12 (1 : Int32)) 0 11 ((u 0 11) + (0 : Int32))) 7 0 (u 6 (sN (u 0) 11)) from (if_neg c1).trans ((if_pos c3).trans ((if_neg c7).trans ((if_neg c9).trans ((if_neg c11).trans ((if_neg c13).trans rfl)))))) hP) dX6_readThing_236
