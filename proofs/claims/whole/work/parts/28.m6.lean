def v_X6_paidByText (u : Nat → Nat → Int32) (cu : Nat) (p2 : Int32) (p3 : Int32) : Int32 := if p3 = (-5 : Int32) then (if v_X6_wouldBeTooMuch u cu p2 = 0 then (v_X6_paysAll (w_X6_wouldBeTooMuch u cu p2) cu p2) else (-3 : Int32)) else if v_X6_isBill u p3 = 0 then (-1 : Int32) else if u 1 (233 + 12 * p3.toNatClampNeg + 0) = nI cu then (if 0 ≤ v_X6_refusalOn u p3.toNatClampNeg p2 then (v_X6_paidOn (w_X6_refusalOn u p3.toNatClampNeg p2) p3.toNatClampNeg p2) else v_X6_refusalOn u p3.toNatClampNeg p2) else (-4 : Int32)
def w_X6_paidByText (u : Nat → Nat → Int32) (cu : Nat) (p2 : Int32) (p3 : Int32) : Nat → Nat → Int32 := if p3 = (-5 : Int32) then (if v_X6_wouldBeTooMuch u cu p2 = 0 then (w_X6_paysAll (w_X6_wouldBeTooMuch u cu p2) cu p2) else w_X6_wouldBeTooMuch u cu p2) else if v_X6_isBill u p3 = 0 then u else if u 1 (233 + 12 * p3.toNatClampNeg + 0) = nI cu then (if 0 ≤ v_X6_refusalOn u p3.toNatClampNeg p2 then (w_X6_paidOn (w_X6_refusalOn u p3.toNatClampNeg p2) p3.toNatClampNeg p2) else w_X6_refusalOn u p3.toNatClampNeg p2) else u
theorem q_X6_paidByText : yX6_paidByText.cls ≠ "java/lang/invoke/MethodHandle" ∧ yX6_paidByText.cls ≠ "java/lang/invoke/VarHandle" ∧ (parseMethodDescriptor yX6_paidByText.desc).map (fun d => d.parameters.length) = some 3 := ⟨by decide, by decide, by decide +kernel⟩
set_option maxHeartbeats 4000000 in
set_option maxRecDepth 100000 in
theorem c_X6_paidByText (l : Launch) (G : kG) (a : Nat → Nat) (hI : gI 8 a) (u : Nat → Nat → Int32) (cu : Nat) (hcu : cu < 8) (p2 : Int32) (p3 : Int32) (hm : SI (u 1)) : Met l yX6_paidByText (Cond.code yX6_paidByText cX6_paidByText 5 (some .int) :: BIG) (rmK 8) (pcG G (mP G a u) [.ref (a 0), .int (nI cu), .int p2, .int p3]) (qcI G (gA 8 a) (mP G a (w_X6_paidByText u cu p2 p3)) (v_X6_paidByText u cu p2 p3)) 0 0 (gA 8 a) := by
  refine m_start (by decide) (Nat.le_of_ble_eq_true rfl) ?_
  intro p e s m args below meth c S hr hlk hnm hP hK ls hl
  have hx := S.1
  have hb := S.2.1
  have hown := S.2.2.2.1
  have hS : va_S (gA 8 a) s.heap s.heap [] := va_S.rf
  have hl : lv_has ls 5 [(0, .ref (a 0)), (1, .int (nI cu)), (2, .int p2), (3, .int p3)] := hl
  refine lv_iload_n hx hb dX6_paidByText_0 rfl (lv_at hl 3 rfl) ?_
  refine lv_bipush (v := -5) hx hb dX6_paidByText_1 (by decide) ?_
  refine lv_icmp_ne (tgt := 27) hx hb dX6_paidByText_3 (by decide) (fun c1 => ?_) (fun c1 => ?_)
  · skip
    refine lv_aload_n hx hb dX6_paidByText_27 rfl (lv_at hl 0 rfl) ?_
    refine lv_iload_n hx hb dX6_paidByText_28 rfl (lv_at hl 3 rfl) ?_
    refine r_callI S hK hP (c_X6_isBill l G a hI u _ ) (r_cw S k_320 k_317 k_318 k_319 k_5 q_X6_isBill ⟨Nat.le_of_ble_eq_true rfl, Nat.le_of_ble_eq_true rfl⟩ rfl rfl) (g_recv hK hP (i := 0) (by omega) mC0 rfl) rfl hl.1 rfl (Nat.le_of_ble_eq_true rfl) dX6_paidByText_29 ⟨Nat.zero_le _, Nat.zero_le _⟩ hS (fun _ h => h) (fun H locs hP _ _ hS => ?_)
    have hP : mP G a u H := hP
    refine lv_if_ne (tgt := 37) hx hb dX6_paidByText_32 (by decide) (fun c2 => ?_) (fun c2 => ?_)
    · skip
      refine lv_aload_n hx hb dX6_paidByText_37 rfl (lv_at hl 0 rfl) ?_
      refine g_get S hK hP (i := 0) (by omega) mC0 rfl inlX6 0 (by decide) k_67 (v := .ref (a 1)) rfl dX6_paidByText_38 ?_
      refine lv_iload_n hx hb dX6_paidByText_41 rfl (lv_at hl 3 rfl) ?_
      have hq_p3 : p3.toNatClampNeg < 40 := vp_lt ((vp_X6_isBill hm c2) : vp_in p3 40)
      refine r_top (v := nI p3.toNatClampNeg) (vp_nI ((vp_X6_isBill hm c2) : vp_in p3 40)) ?_
      refine lv_iconst (v := 0) hx hb dX6_paidByText_42 (by decide) ?_
      refine r_callS S hK hP (c_X6_of l G (mP G a u) (gA 8 a) p3.toNatClampNeg 0 trivial trivial ) (r_cs S k_221 k_219 k_220 k_5 q_X6_of ⟨Nat.le_of_ble_eq_true rfl, Nat.le_of_ble_eq_true rfl⟩ rfl rfl) rfl hl.1 rfl (Nat.le_of_ble_eq_true rfl) dX6_paidByText_43 ⟨Nat.zero_le _, Nat.zero_le _⟩ hS (fun _ h => h) (fun H locs hP _ _ hS => ?_)
      have hP : mP G a u H := hP
      refine r_top (v := nI (233 + 12 * p3.toNatClampNeg + 0)) rfl ?_
      refine g_aldN S hK hP (i := 1) (by omega) mC1 (k := 233 + 12 * p3.toNatClampNeg + 0) (by omega) (by decide) (v := u 1 (233 + 12 * p3.toNatClampNeg + 0)) (rfl) dX6_paidByText_46 ?_
      refine lv_iload_n hx hb dX6_paidByText_47 rfl (lv_at hl 1 rfl) ?_
      refine lv_icmp_eq (tgt := 54) hx hb dX6_paidByText_48 (by decide) (fun c3 => ?_) (fun c3 => ?_)
      · skip
        refine lv_aload_n hx hb dX6_paidByText_54 rfl (lv_at hl 0 rfl) ?_
        refine lv_iload_n hx hb dX6_paidByText_55 rfl (lv_at hl 3 rfl) ?_
        have hq_p3 : p3.toNatClampNeg < 40 := vp_lt ((vp_X6_isBill hm c2) : vp_in p3 40)
        refine r_top (v := nI p3.toNatClampNeg) (vp_nI ((vp_X6_isBill hm c2) : vp_in p3 40)) ?_
        refine lv_iload_n hx hb dX6_paidByText_56 rfl (lv_at hl 2 rfl) ?_
        refine r_callI S hK hP (c_X6_refusalOn l G a hI u p3.toNatClampNeg (by omega) _ hm) (r_cw S k_324 k_321 k_322 k_323 k_5 q_X6_refusalOn ⟨Nat.le_of_ble_eq_true rfl, Nat.le_of_ble_eq_true rfl⟩ rfl rfl) (g_recv hK hP (i := 0) (by omega) mC0 rfl) rfl hl.1 rfl (Nat.le_of_ble_eq_true rfl) dX6_paidByText_57 ⟨Nat.zero_le _, Nat.zero_le _⟩ hS (fun _ h => h) (fun H locs hP _ _ hS => ?_)
        have hP : mP G a (w_X6_refusalOn u p3.toNatClampNeg p2) H := hP
        refine lv_istore (lv' := [(4, .int (v_X6_refusalOn u p3.toNatClampNeg p2)), (0, .ref (a 0)), (1, .int (nI cu)), (2, .int p2), (3, .int p3)]) hx hb dX6_paidByText_60 hl (by decide) rfl (fun ls hl => ?_)
        refine lv_iload hx hb dX6_paidByText_62 (lv_at hl 0 rfl) ?_
        refine lv_if_ge (tgt := 72) hx hb dX6_paidByText_64 (by decide) (fun c4 => ?_) (fun c4 => ?_)
        · skip
          refine lv_aload_n hx hb dX6_paidByText_72 rfl (lv_at hl 1 rfl) ?_
          refine lv_iload_n hx hb dX6_paidByText_73 rfl (lv_at hl 4 rfl) ?_
          have hq_p3 : p3.toNatClampNeg < 40 := vp_lt ((vp_X6_isBill hm c2) : vp_in p3 40)
          refine r_top (v := nI p3.toNatClampNeg) (vp_nI ((vp_X6_isBill hm c2) : vp_in p3 40)) ?_
          refine lv_iload_n hx hb dX6_paidByText_74 rfl (lv_at hl 3 rfl) ?_
          refine r_callI S hK hP (c_X6_paidOn l G a hI (w_X6_refusalOn u p3.toNatClampNeg p2) p3.toNatClampNeg (by omega) _ (refusal_SI hm (by omega))) (r_cw S k_328 k_325 k_326 k_327 k_5 q_X6_paidOn ⟨Nat.le_of_ble_eq_true rfl, Nat.le_of_ble_eq_true rfl⟩ rfl rfl) (g_recv hK hP (i := 0) (by omega) mC0 rfl) rfl hl.1 rfl (Nat.le_of_ble_eq_true rfl) dX6_paidByText_75 ⟨Nat.zero_le _, Nat.zero_le _⟩ hS (fun _ h => h) (fun H locs hP _ _ hS => ?_)
          have hP : mP G a (w_X6_paidOn (w_X6_refusalOn u p3.toNatClampNeg p2) p3.toNatClampNeg p2) H := hP
          exact e_int S hr hlk rfl hK hS (gP_eq (show w_X6_paidByText u cu p2 p3 = w_X6_paidOn (w_X6_refusalOn u p3.toNatClampNeg p2) p3.toNatClampNeg p2 from (if_neg c1).trans ((if_neg c2).trans ((if_pos c3).trans ((if_pos c4).trans rfl)))) hP) (show v_X6_paidByText u cu p2 p3 = v_X6_paidOn (w_X6_refusalOn u p3.toNatClampNeg p2) p3.toNatClampNeg p2 from (if_neg c1).trans ((if_neg c2).trans ((if_pos c3).trans ((if_pos c4).trans rfl)))).symm dX6_paidByText_78
        · skip
          refine lv_iload hx hb dX6_paidByText_67 (lv_at hl 0 rfl) ?_
          refine lv_goto (tgt := 78) hx hb dX6_paidByText_69 (by decide) ?_
          exact e_int S hr hlk rfl hK hS (gP_eq (show w_X6_paidByText u cu p2 p3 = w_X6_refusalOn u p3.toNatClampNeg p2 from (if_neg c1).trans ((if_neg c2).trans ((if_pos c3).trans ((if_neg c4).trans rfl)))) hP) (show v_X6_paidByText u cu p2 p3 = v_X6_refusalOn u p3.toNatClampNeg p2 from (if_neg c1).trans ((if_neg c2).trans ((if_pos c3).trans ((if_neg c4).trans rfl)))).symm dX6_paidByText_78
      · skip
        refine lv_bipush (v := -4) hx hb dX6_paidByText_51 (by decide) ?_
        exact e_int S hr hlk rfl hK hS (gP_eq (show w_X6_paidByText u cu p2 p3 = u from (if_neg c1).trans ((if_neg c2).trans ((if_neg c3).trans rfl))) hP) (show v_X6_paidByText u cu p2 p3 = (-4 : Int32) from (if_neg c1).trans ((if_neg c2).trans ((if_neg c3).trans rfl))).symm dX6_paidByText_53
    · skip
      refine lv_iconst (v := -1) hx hb dX6_paidByText_35 (by decide) ?_
      exact e_int S hr hlk rfl hK hS (gP_eq (show w_X6_paidByText u cu p2 p3 = u from (if_neg c1).trans ((if_pos c2).trans rfl)) hP) (show v_X6_paidByText u cu p2 p3 = (-1 : Int32) from (if_neg c1).trans ((if_pos c2).trans rfl)).symm dX6_paidByText_36
  · skip
    refine lv_aload_n hx hb dX6_paidByText_6 rfl (lv_at hl 0 rfl) ?_
    refine lv_iload_n hx hb dX6_paidByText_7 rfl (lv_at hl 1 rfl) ?_
    refine lv_iload_n hx hb dX6_paidByText_8 rfl (lv_at hl 2 rfl) ?_
    refine r_callI S hK hP (c_X6_wouldBeTooMuch l G a hI u cu (by omega) _ hm) (r_cw S k_274 k_271 k_272 k_273 k_5 q_X6_wouldBeTooMuch ⟨Nat.le_of_ble_eq_true rfl, Nat.le_of_ble_eq_true rfl⟩ rfl rfl) (g_recv hK hP (i := 0) (by omega) mC0 rfl) rfl hl.1 rfl (Nat.le_of_ble_eq_true rfl) dX6_paidByText_9 ⟨Nat.zero_le _, Nat.zero_le _⟩ hS (fun _ h => h) (fun H locs hP _ _ hS => ?_)
    have hP : mP G a (w_X6_wouldBeTooMuch u cu p2) H := hP
    refine lv_if_eq (tgt := 20) hx hb dX6_paidByText_12 (by decide) (fun c5 => ?_) (fun c5 => ?_)
    · skip
      refine lv_aload_n hx hb dX6_paidByText_20 rfl (lv_at hl 0 rfl) ?_
      refine lv_iload_n hx hb dX6_paidByText_21 rfl (lv_at hl 1 rfl) ?_
      refine lv_iload_n hx hb dX6_paidByText_22 rfl (lv_at hl 2 rfl) ?_
      refine r_callI S hK hP (c_X6_paysAll l G a hI (w_X6_wouldBeTooMuch u cu p2) cu (by omega) _ (would_SI hm (by omega))) (r_cw S k_282 k_279 k_280 k_281 k_5 q_X6_paysAll ⟨Nat.le_of_ble_eq_true rfl, Nat.le_of_ble_eq_true rfl⟩ rfl rfl) (g_recv hK hP (i := 0) (by omega) mC0 rfl) rfl hl.1 rfl (Nat.le_of_ble_eq_true rfl) dX6_paidByText_23 ⟨Nat.zero_le _, Nat.zero_le _⟩ hS (fun _ h => h) (fun H locs hP _ _ hS => ?_)
      have hP : mP G a (w_X6_paysAll (w_X6_wouldBeTooMuch u cu p2) cu p2) H := hP
      exact e_int S hr hlk rfl hK hS (gP_eq (show w_X6_paidByText u cu p2 p3 = w_X6_paysAll (w_X6_wouldBeTooMuch u cu p2) cu p2 from (if_pos c1).trans ((if_pos c5).trans rfl)) hP) (show v_X6_paidByText u cu p2 p3 = v_X6_paysAll (w_X6_wouldBeTooMuch u cu p2) cu p2 from (if_pos c1).trans ((if_pos c5).trans rfl)).symm dX6_paidByText_26
    · skip
      refine lv_bipush (v := -3) hx hb dX6_paidByText_15 (by decide) ?_
      refine lv_goto (tgt := 26) hx hb dX6_paidByText_17 (by decide) ?_
      exact e_int S hr hlk rfl hK hS (gP_eq (show w_X6_paidByText u cu p2 p3 = w_X6_wouldBeTooMuch u cu p2 from (if_pos c1).trans ((if_neg c5).trans rfl)) hP) (show v_X6_paidByText u cu p2 p3 = (-3 : Int32) from (if_pos c1).trans ((if_neg c5).trans rfl)).symm dX6_paidByText_26

/-- the thing that was read may be done -/
def HD (u : Nat → Nat → Int32) : Prop := (u 7 0 = (98 : Int32) ∨ u 7 0 = (112 : Int32) → ∃ c : Nat, c < 8 ∧ u 7 1 = nI c) ∧ (u 7 0 = (98 : Int32) → ∃ r : Nat, r ≤ 40 ∧ u 7 3 = nI r) ∧ (¬ u 7 0 = (98 : Int32) → ¬ u 7 0 = (112 : Int32) → ¬ u 7 0 = (114 : Int32) → ∃ d : Nat, d ≤ 99 ∧ u 7 1 = nI d)
theorem HD_n {u : Nat → Nat → Int32} (h : HD u) (hc : u 7 0 = (98 : Int32) ∨ u 7 0 = (112 : Int32)) : u 7 1 = nI (sN (u 7) 1) := by
  obtain ⟨c, h1, h2⟩ := h.1 hc
  exact (sN_of h2 (by omega)).1
theorem HD_c {u : Nat → Nat → Int32} (h : HD u) (hc : u 7 0 = (98 : Int32) ∨ u 7 0 = (112 : Int32)) : sN (u 7) 1 < 8 := by
  obtain ⟨c, h1, h2⟩ := h.1 hc
  rw [(sN_of h2 (by omega)).2]; exact h1

def v_X6_does (u : Nat → Nat → Int32) : Int32 := if u 7 0 = 98 then (v_X6_billed u (sN (u 7) 1) (u 7 2) (u 7 3) (u 7 4)) else if u 7 0 = 112 then (v_X6_paidByText u (sN (u 7) 1) (u 7 2) (u 7 3)) else if u 7 0 = 114 then (v_X6_reminds u) else if (9999 : Int32) < (u 1 0) + (u 7 1) then (-3 : Int32) else (0 : Int32)
def w_X6_does (u : Nat → Nat → Int32) : Nat → Nat → Int32 := if u 7 0 = 98 then (w_X6_billed u (sN (u 7) 1) (u 7 2) (u 7 3) (u 7 4)) else if u 7 0 = 112 then (w_X6_paidByText u (sN (u 7) 1) (u 7 2) (u 7 3)) else if u 7 0 = 114 then (w_X6_reminds u) else if (9999 : Int32) < (u 1 0) + (u 7 1) then (up u 1 0 ((u 1 0) + (0 : Int32))) else up u 1 0 ((u 1 0) + (u 7 1))
theorem q_X6_does : yX6_does.cls ≠ "java/lang/invoke/MethodHandle" ∧ yX6_does.cls ≠ "java/lang/invoke/VarHandle" ∧ (parseMethodDescriptor yX6_does.desc).map (fun d => d.parameters.length) = some 0 := ⟨by decide, by decide, by decide +kernel⟩
set_option maxHeartbeats 4000000 in
set_option maxRecDepth 100000 in
theorem c_X6_does (l : Launch) (G : kG) (a : Nat → Nat) (hI : gI 8 a) (u : Nat → Nat → Int32) (hm : SI (u 1)) (hD : HD u) : Met l yX6_does (Cond.code yX6_does cX6_does 2 (some .int) :: BIG) (rmK 9) (pcG G (mP G a u) [.ref (a 0)]) (qcI G (gA 8 a) (mP G a (w_X6_does u)) (v_X6_does u)) 0 0 (gA 8 a) := by
  refine m_start (by decide) (Nat.le_of_ble_eq_true rfl) ?_
  intro p e s m args below meth c S hr hlk hnm hP hK ls hl
  have hx := S.1
  have hb := S.2.1
  have hown := S.2.2.2.1
  have hS : va_S (gA 8 a) s.heap s.heap [] := va_S.rf
  have hl : lv_has ls 2 [(0, .ref (a 0))] := hl
  refine lv_aload_n hx hb dX6_does_0 rfl (lv_at hl 0 rfl) ?_
  refine g_get S hK hP (i := 0) (by omega) mC0 rfl inlX6 13 (by decide) k_75 (v := .ref (a 7)) rfl dX6_does_1 ?_
  refine lv_iconst (v := 0) hx hb dX6_does_4 (by decide) ?_
  refine g_aldN S hK hP (i := 7) (by omega) mC7 (k := 0) (by omega) (by decide) (v := u 7 0) (rfl) dX6_does_5 ?_
  refine (Classical.em (u 7 0 = 98)).elim (fun c1 => ?_) (fun c1 => ?_)
  · refine lv_lookup (off := 34) (tgt := 40) hx hb dX6_does_6 rfl (by rw [c1]; rfl) (by decide) ?_
    refine lv_aload_n hx hb dX6_does_40 rfl (lv_at hl 0 rfl) ?_
    refine lv_aload_n hx hb dX6_does_41 rfl (lv_at hl 0 rfl) ?_
    refine g_get S hK hP (i := 0) (by omega) mC0 rfl inlX6 13 (by decide) k_75 (v := .ref (a 7)) rfl dX6_does_42 ?_
    refine lv_iconst (v := 1) hx hb dX6_does_45 (by decide) ?_
    refine g_aldN S hK hP (i := 7) (by omega) mC7 (k := 1) (by omega) (by decide) (v := u 7 1) (rfl) dX6_does_46 ?_
    have hcu := HD_c hD (Or.inl c1)
    refine r_top (v := nI (sN (u 7) 1)) (HD_n hD (Or.inl c1)) ?_
    refine lv_aload_n hx hb dX6_does_47 rfl (lv_at hl 0 rfl) ?_
    refine g_get S hK hP (i := 0) (by omega) mC0 rfl inlX6 13 (by decide) k_75 (v := .ref (a 7)) rfl dX6_does_48 ?_
    refine lv_iconst (v := 2) hx hb dX6_does_51 (by decide) ?_
    refine g_aldN S hK hP (i := 7) (by omega) mC7 (k := 2) (by omega) (by decide) (v := u 7 2) (rfl) dX6_does_52 ?_
    refine lv_aload_n hx hb dX6_does_53 rfl (lv_at hl 0 rfl) ?_
    refine g_get S hK hP (i := 0) (by omega) mC0 rfl inlX6 13 (by decide) k_75 (v := .ref (a 7)) rfl dX6_does_54 ?_
    refine lv_iconst (v := 3) hx hb dX6_does_57 (by decide) ?_
    refine g_aldN S hK hP (i := 7) (by omega) mC7 (k := 3) (by omega) (by decide) (v := u 7 3) (rfl) dX6_does_58 ?_
    refine lv_aload_n hx hb dX6_does_59 rfl (lv_at hl 0 rfl) ?_
    refine g_get S hK hP (i := 0) (by omega) mC0 rfl inlX6 13 (by decide) k_75 (v := .ref (a 7)) rfl dX6_does_60 ?_
    refine lv_iconst (v := 4) hx hb dX6_does_63 (by decide) ?_
    refine g_aldN S hK hP (i := 7) (by omega) mC7 (k := 4) (by omega) (by decide) (v := u 7 4) (rfl) dX6_does_64 ?_
    refine r_callI S hK hP (c_X6_billed l G a hI u (sN (u 7) 1) (by omega) _ _ _ hm (hD.2.1 c1)) (r_cw S k_218 k_215 k_216 k_217 k_5 q_X6_billed ⟨Nat.le_of_ble_eq_true rfl, Nat.le_of_ble_eq_true rfl⟩ rfl rfl) (g_recv hK hP (i := 0) (by omega) mC0 rfl) rfl hl.1 rfl (Nat.le_of_ble_eq_true rfl) dX6_does_65 ⟨Nat.zero_le _, Nat.zero_le _⟩ hS (fun _ h => h) (fun H locs hP _ _ hS => ?_)
    have hP : mP G a (w_X6_billed u (sN (u 7) 1) (u 7 2) (u 7 3) (u 7 4)) H := hP
    exact e_int S hr hlk rfl hK hS (gP_eq (show w_X6_does u  = w_X6_billed u (sN (u 7) 1) (u 7 2) (u 7 3) (u 7 4) from (if_pos c1).trans rfl) hP) (show v_X6_does u  = v_X6_billed u (sN (u 7) 1) (u 7 2) (u 7 3) (u 7 4) from (if_pos c1).trans rfl).symm dX6_does_68
  refine (Classical.em (u 7 0 = 112)).elim (fun c2 => ?_) (fun c2 => ?_)
  · refine lv_lookup (off := 63) (tgt := 69) hx hb dX6_does_6 rfl (by rw [c2]; rfl) (by decide) ?_
    refine lv_aload_n hx hb dX6_does_69 rfl (lv_at hl 0 rfl) ?_
    refine lv_aload_n hx hb dX6_does_70 rfl (lv_at hl 0 rfl) ?_
    refine g_get S hK hP (i := 0) (by omega) mC0 rfl inlX6 13 (by decide) k_75 (v := .ref (a 7)) rfl dX6_does_71 ?_
    refine lv_iconst (v := 1) hx hb dX6_does_74 (by decide) ?_
    refine g_aldN S hK hP (i := 7) (by omega) mC7 (k := 1) (by omega) (by decide) (v := u 7 1) (rfl) dX6_does_75 ?_
    have hcu := HD_c hD (Or.inr c2)
    refine r_top (v := nI (sN (u 7) 1)) (HD_n hD (Or.inr c2)) ?_
    refine lv_aload_n hx hb dX6_does_76 rfl (lv_at hl 0 rfl) ?_
    refine g_get S hK hP (i := 0) (by omega) mC0 rfl inlX6 13 (by decide) k_75 (v := .ref (a 7)) rfl dX6_does_77 ?_
    refine lv_iconst (v := 2) hx hb dX6_does_80 (by decide) ?_
    refine g_aldN S hK hP (i := 7) (by omega) mC7 (k := 2) (by omega) (by decide) (v := u 7 2) (rfl) dX6_does_81 ?_
    refine lv_aload_n hx hb dX6_does_82 rfl (lv_at hl 0 rfl) ?_
    refine g_get S hK hP (i := 0) (by omega) mC0 rfl inlX6 13 (by decide) k_75 (v := .ref (a 7)) rfl dX6_does_83 ?_
    refine lv_iconst (v := 3) hx hb dX6_does_86 (by decide) ?_
    refine g_aldN S hK hP (i := 7) (by omega) mC7 (k := 3) (by omega) (by decide) (v := u 7 3) (rfl) dX6_does_87 ?_
    refine r_callI S hK hP (c_X6_paidByText l G a hI u (sN (u 7) 1) (by omega) _ _ hm) (r_cw S k_621 k_618 k_619 k_620 k_5 q_X6_paidByText ⟨Nat.le_of_ble_eq_true rfl, Nat.le_of_ble_eq_true rfl⟩ rfl rfl) (g_recv hK hP (i := 0) (by omega) mC0 rfl) rfl hl.1 rfl (Nat.le_of_ble_eq_true rfl) dX6_does_88 ⟨Nat.zero_le _, Nat.zero_le _⟩ hS (fun _ h => h) (fun H locs hP _ _ hS => ?_)
    have hP : mP G a (w_X6_paidByText u (sN (u 7) 1) (u 7 2) (u 7 3)) H := hP
    exact e_int S hr hlk rfl hK hS (gP_eq (show w_X6_does u  = w_X6_paidByText u (sN (u 7) 1) (u 7 2) (u 7 3) from (if_neg c1).trans ((if_pos c2).trans rfl)) hP) (show v_X6_does u  = v_X6_paidByText u (sN (u 7) 1) (u 7 2) (u 7 3) from (if_neg c1).trans ((if_pos c2).trans rfl)).symm dX6_does_91
  refine (Classical.em (u 7 0 = 114)).elim (fun c3 => ?_) (fun c3 => ?_)
  · refine lv_lookup (off := 86) (tgt := 92) hx hb dX6_does_6 rfl (by rw [c3]; rfl) (by decide) ?_
    refine lv_aload_n hx hb dX6_does_92 rfl (lv_at hl 0 rfl) ?_
    refine r_callI S hK hP (c_X6_reminds l G a hI u hm) (r_cw S k_409 k_406 k_407 k_408 k_5 q_X6_reminds ⟨Nat.le_of_ble_eq_true rfl, Nat.le_of_ble_eq_true rfl⟩ rfl rfl) (g_recv hK hP (i := 0) (by omega) mC0 rfl) rfl hl.1 rfl (Nat.le_of_ble_eq_true rfl) dX6_does_93 ⟨Nat.zero_le _, Nat.zero_le _⟩ hS (fun _ h => h) (fun H locs hP _ _ hS => ?_)
    have hP : mP G a (w_X6_reminds u) H := hP
    exact e_int S hr hlk rfl hK hS (gP_eq (show w_X6_does u  = w_X6_reminds u from (if_neg c1).trans ((if_neg c2).trans ((if_pos c3).trans rfl))) hP) (show v_X6_does u  = v_X6_reminds u from (if_neg c1).trans ((if_neg c2).trans ((if_pos c3).trans rfl))).symm dX6_does_96
  refine lv_lookup (off := 91) (tgt := 97) hx hb dX6_does_6 rfl ((lv_osw c1 rfl).trans ((lv_osw c2 rfl).trans ((lv_osw c3 rfl).trans rfl))) (by decide) ?_
  refine lv_aload_n hx hb dX6_does_97 rfl (lv_at hl 0 rfl) ?_
  refine g_get S hK hP (i := 0) (by omega) mC0 rfl inlX6 0 (by decide) k_67 (v := .ref (a 1)) rfl dX6_does_98 ?_
  refine lv_iconst (v := 0) hx hb dX6_does_101 (by decide) ?_
  refine g_aldN S hK hP (i := 1) (by omega) mC1 (k := 0) (by omega) (by decide) (v := u 1 0) (rfl) dX6_does_102 ?_
  refine lv_aload_n hx hb dX6_does_103 rfl (lv_at hl 0 rfl) ?_
  refine g_get S hK hP (i := 0) (by omega) mC0 rfl inlX6 13 (by decide) k_75 (v := .ref (a 7)) rfl dX6_does_104 ?_
  refine lv_iconst (v := 1) hx hb dX6_does_107 (by decide) ?_
  refine g_aldN S hK hP (i := 7) (by omega) mC7 (k := 1) (by omega) (by decide) (v := u 7 1) (rfl) dX6_does_108 ?_
  refine lv_iadd hx hb dX6_does_109 ?_
  refine lv_sipush (v := 9999) hx hb dX6_does_110 (by decide) ?_
  refine lv_icmp_gt (tgt := 120) hx hb dX6_does_113 (by decide) (fun c4 => ?_) (fun c4 => ?_)
  · skip
    refine lv_iconst (v := 0) hx hb dX6_does_120 (by decide) ?_
    refine lv_istore_n (lv' := [(1, .int (0 : Int32)), (0, .ref (a 0))]) hx hb dX6_does_121 rfl hl (by decide) rfl (fun ls hl => ?_)
    refine lv_aload_n hx hb dX6_does_122 rfl (lv_at hl 1 rfl) ?_
    refine g_get S hK hP (i := 0) (by omega) mC0 rfl inlX6 0 (by decide) k_67 (v := .ref (a 1)) rfl dX6_does_123 ?_
    refine lv_iconst (v := 0) hx hb dX6_does_126 (by decide) ?_
    refine lv_dup2_11 hx hb dX6_does_127 rfl rfl ?_
    refine g_aldN S hK hP (i := 1) (by omega) mC1 (k := 0) (by omega) (by decide) (v := u 1 0) (rfl) dX6_does_128 ?_
    refine lv_iload_n hx hb dX6_does_129 rfl (lv_at hl 0 rfl) ?_
    refine lv_if_eq (tgt := 142) hx hb dX6_does_130 (by decide) (fun _ => ?_) (fun c => absurd (by decide) c)
    refine lv_iconst (v := 0) hx hb dX6_does_142 (by decide) ?_
    refine lv_iadd hx hb dX6_does_143 ?_
    refine g_astN S hK hP hI hS (i := 1) (by omega) mC1 (k := 0) (by omega) (by decide) dX6_does_144 (fun H locs hP hS => ?_)
    have hP : mP G a (up u 1 0 ((u 1 0) + (0 : Int32))) H := hP
    refine lv_iload_n hx hb dX6_does_145 rfl (lv_at hl 0 rfl) ?_
    refine lv_if_eq (tgt := 153) hx hb dX6_does_146 (by decide) (fun _ => ?_) (fun c => absurd (by decide) c)
    refine lv_bipush (v := -3) hx hb dX6_does_153 (by decide) ?_
    exact e_int S hr hlk rfl hK hS (gP_eq (show w_X6_does u  = up u 1 0 ((u 1 0) + (0 : Int32)) from (if_neg c1).trans ((if_neg c2).trans ((if_neg c3).trans ((if_pos c4).trans rfl)))) hP) (show v_X6_does u  = (-3 : Int32) from (if_neg c1).trans ((if_neg c2).trans ((if_neg c3).trans ((if_pos c4).trans rfl)))).symm dX6_does_155
  · skip
    refine lv_iconst (v := 1) hx hb dX6_does_116 (by decide) ?_
    refine lv_goto (tgt := 121) hx hb dX6_does_117 (by decide) ?_
    refine lv_istore_n (lv' := [(1, .int (1 : Int32)), (0, .ref (a 0))]) hx hb dX6_does_121 rfl hl (by decide) rfl (fun ls hl => ?_)
    refine lv_aload_n hx hb dX6_does_122 rfl (lv_at hl 1 rfl) ?_
    refine g_get S hK hP (i := 0) (by omega) mC0 rfl inlX6 0 (by decide) k_67 (v := .ref (a 1)) rfl dX6_does_123 ?_
    refine lv_iconst (v := 0) hx hb dX6_does_126 (by decide) ?_
    refine lv_dup2_11 hx hb dX6_does_127 rfl rfl ?_
    refine g_aldN S hK hP (i := 1) (by omega) mC1 (k := 0) (by omega) (by decide) (v := u 1 0) (rfl) dX6_does_128 ?_
    refine lv_iload_n hx hb dX6_does_129 rfl (lv_at hl 0 rfl) ?_
    refine lv_if_eq (tgt := 142) hx hb dX6_does_130 (by decide) (fun c => absurd c (by decide)) (fun _ => ?_)
    refine lv_aload_n hx hb dX6_does_133 rfl (lv_at hl 1 rfl) ?_
    refine g_get S hK hP (i := 0) (by omega) mC0 rfl inlX6 13 (by decide) k_75 (v := .ref (a 7)) rfl dX6_does_134 ?_
    refine lv_iconst (v := 1) hx hb dX6_does_137 (by decide) ?_
    refine g_aldN S hK hP (i := 7) (by omega) mC7 (k := 1) (by omega) (by decide) (v := u 7 1) (rfl) dX6_does_138 ?_
    refine lv_goto (tgt := 143) hx hb dX6_does_139 (by decide) ?_
    refine lv_iadd hx hb dX6_does_143 ?_
    refine g_astN S hK hP hI hS (i := 1) (by omega) mC1 (k := 0) (by omega) (by decide) dX6_does_144 (fun H locs hP hS => ?_)
    have hP : mP G a (up u 1 0 ((u 1 0) + (u 7 1))) H := hP
    refine lv_iload_n hx hb dX6_does_145 rfl (lv_at hl 0 rfl) ?_
    refine lv_if_eq (tgt := 153) hx hb dX6_does_146 (by decide) (fun c => absurd c (by decide)) (fun _ => ?_)
    refine lv_iconst (v := 0) hx hb dX6_does_149 (by decide) ?_
    refine lv_goto (tgt := 155) hx hb dX6_does_150 (by decide) ?_
    exact e_int S hr hlk rfl hK hS (gP_eq (show w_X6_does u  = up u 1 0 ((u 1 0) + (u 7 1)) from (if_neg c1).trans ((if_neg c2).trans ((if_neg c3).trans ((if_neg c4).trans rfl)))) hP) (show v_X6_does u  = (0 : Int32) from (if_neg c1).trans ((if_neg c2).trans ((if_neg c3).trans ((if_neg c4).trans rfl)))).symm dX6_does_155
