def v_X5_billOf (z : CS) (p1 : Int32) (p2 : Int32) : Int32 := oel (v_X1_billAt (z.2 (z.1 0)) p1) ((-1 : Int32)) (fun jo1 => if p2 = 0 then (z.2 (z.1 0) (jo1 + 7) 1) else if p2 = 1 then (z.2 (z.1 0) (jo1 + 7) 2) else if p2 = 2 then (z.2 (z.1 0) (jo1 + 7) 4) else if p2 = 3 then (z.2 (z.1 0) (jo1 + 7) 5) else if p2 = 4 then (z.2 (z.1 0) (jo1 + 7) 6) else if p2 = 5 then (v_X0_dueDay (z.2 (z.1 0)) jo1) else if p2 = 6 then (z.2 (z.1 0) (jo1 + 7) 0) else if p2 = 7 then (z.2 (z.1 0) (jo1 + 7) 8) else if p2 = 8 then (z.2 (z.1 0) (jo1 + 7) 9) else if p2 = 9 then (z.2 (z.1 0) (jo1 + 7) 10) else if p2 = 10 then (v_X0_owed (z.2 (z.1 0)) jo1) else if p2 = 11 then (z.2 (z.1 0) (jo1 + 7) 11) else if p2 = 12 then (z.2 (z.1 0) (jo1 + 7) 13) else if p2 = 13 then (if v_X0_isOverdue (z.2 (z.1 0)) jo1 (z.2 (z.1 0) 0 5) = 0 then (0 : Int32) else (1 : Int32)) else (-2 : Int32))
theorem q_X5_billOf : yX5_billOf.cls ≠ "java/lang/invoke/MethodHandle" ∧ yX5_billOf.cls ≠ "java/lang/invoke/VarHandle" ∧ (parseMethodDescriptor yX5_billOf.desc).map (fun d => d.parameters.length) = some 2 := ⟨by decide, by decide, by decide +kernel⟩
set_option maxHeartbeats 4000000 in
set_option maxRecDepth 100000 in
theorem c_X5_billOf (l : Launch) (G : kG) (a : Nat → Nat) (hI : gI 334 a) (z : CS) (p1 : Int32) (p2 : Int32) (hR : RI z.1) (hJ : RJ z.1) : Met l yX5_billOf (Cond.code yX5_billOf cX5_billOf 4 (some .int) :: BIG) (rmK 1) (pcG G (cP G a z) [.ref (a 329), .int p1, .int p2]) (qcI G (gA 334 a) (cP G a z) (v_X5_billOf z p1 p2)) 0 0 (gA 334 a) := by
  refine m_start (by decide) (Nat.le_of_ble_eq_true rfl) ?_
  intro p e s m args below meth c S hr hlk hnm hP hK ls hl
  have hx := S.1
  have hb := S.2.1
  have hown := S.2.2.2.1
  have hS : va_S (gA 334 a) s.heap s.heap [] := va_S.rf
  have hl : lv_has ls 4 [(0, .ref (a 329)), (1, .int p1), (2, .int p2)] := hl
  refine lv_aload_n hx hb dX5_billOf_0 rfl (lv_at hl 0 rfl) ?_
  refine g_get S hK hP (i := 329) (by omega) cC0 rfl inlX5 0 (by decide) k_12 (v := .ref (a (47 * (z.1 0)))) rfl dX5_billOf_1 ?_
  refine lv_iload_n hx hb dX5_billOf_4 rfl (lv_at hl 1 rfl) ?_
  have hB := cP_book (r := z.1 0) hP (hR 0 (by decide))
  refine r_callQ S hK hB (c_X1_billAt l G (fun t => a (47 * (z.1 0) + t)) (gI_book hI (hR 0 (by decide))) (z.2 (z.1 0)) _ ) (r_cw S k_168 k_165 k_166 k_167 k_11 q_X1_billAt ⟨Nat.le_of_ble_eq_true rfl, Nat.le_of_ble_eq_true rfl⟩ rfl rfl) (g_recv hK hB (i := 0) (by omega) bC0 rfl) rfl hl.1 rfl (Nat.le_of_ble_eq_true rfl) dX5_billOf_5 ⟨Nat.zero_le _, Nat.zero_le _⟩ hS (fun _ h => gA_book (hR 0 (by decide)) h) (fun H locs hB hk1 hz1 hS => ?_)
  have hP := cP_join0 hI (hR 0 (by decide)) hP hB hk1
  have hP : cP G a z H := hP
  refine r_opt (fun o1 => ?_) (fun jo1 o1 => ?_)
  · skip
    refine lv_astore_nN (lv' := [(3, .null), (0, .ref (a 329)), (1, .int p1), (2, .int p2)]) hx hb dX5_billOf_8 rfl hl (by decide) rfl (fun ls hl => ?_)
    refine lv_aload_nN hx hb dX5_billOf_9 rfl (lv_at hl 0 rfl) ?_
    refine lv_ifnonnullN hx hb dX5_billOf_10 ?_
    refine lv_iconst (v := -1) hx hb dX5_billOf_13 (by decide) ?_
    exact e_int S hr hlk rfl hK hS hP (show v_X5_billOf z p1 p2 = (-1 : Int32) from (oel_n o1).trans rfl).symm dX5_billOf_14
  · have hjo1 : jo1 < 40 := billAt_lt o1
    refine lv_astore_n (lv' := [(3, .ref (a (47 * (z.1 0) + (jo1 + 7)))), (0, .ref (a 329)), (1, .int p1), (2, .int p2)]) hx hb dX5_billOf_8 rfl hl (by decide) rfl (fun ls hl => ?_)
    refine lv_aload_n hx hb dX5_billOf_9 rfl (lv_at hl 0 rfl) ?_
    refine lv_ifnonnull (tgt := 15) hx hb dX5_billOf_10 (by decide) ?_
    refine lv_iload_n hx hb dX5_billOf_15 rfl (lv_at hl 3 rfl) ?_
    refine (Classical.em (p2 = 0)).elim (fun c2 => ?_) (fun c2 => ?_)
    · refine lv_tableIn (tgt := 88)  hx hb dX5_billOf_16 (by rw [c2]; decide) (by rw [c2]; decide) (by rw [c2]; rfl) (by decide) ?_
      refine lv_aload_n hx hb dX5_billOf_88 rfl (lv_at hl 0 rfl) ?_
      have hB := cP_book (r := z.1 0) hP (hR 0 (by decide))
      refine g_get S hK hB (i := jo1 + 7) (by omega) bC7 rfl inlX0 1 (by decide) k_154 (v := .int (z.2 (z.1 0) (jo1 + 7) 1)) rfl dX5_billOf_89 ?_
      exact e_int S hr hlk rfl hK hS hP (show v_X5_billOf z p1 p2 = z.2 (z.1 0) (jo1 + 7) 1 from (oel_s o1).trans ((if_pos c2).trans rfl)).symm dX5_billOf_92
    refine (Classical.em (p2 = 1)).elim (fun c3 => ?_) (fun c3 => ?_)
    · refine lv_tableIn (tgt := 93)  hx hb dX5_billOf_16 (by rw [c3]; decide) (by rw [c3]; decide) (by rw [c3]; rfl) (by decide) ?_
      refine lv_aload_n hx hb dX5_billOf_93 rfl (lv_at hl 0 rfl) ?_
      have hB := cP_book (r := z.1 0) hP (hR 0 (by decide))
      refine g_get S hK hB (i := jo1 + 7) (by omega) bC7 rfl inlX0 2 (by decide) k_155 (v := .int (z.2 (z.1 0) (jo1 + 7) 2)) rfl dX5_billOf_94 ?_
      exact e_int S hr hlk rfl hK hS hP (show v_X5_billOf z p1 p2 = z.2 (z.1 0) (jo1 + 7) 2 from (oel_s o1).trans ((if_neg c2).trans ((if_pos c3).trans rfl))).symm dX5_billOf_97
    refine (Classical.em (p2 = 2)).elim (fun c4 => ?_) (fun c4 => ?_)
    · refine lv_tableIn (tgt := 98)  hx hb dX5_billOf_16 (by rw [c4]; decide) (by rw [c4]; decide) (by rw [c4]; rfl) (by decide) ?_
      refine lv_aload_n hx hb dX5_billOf_98 rfl (lv_at hl 0 rfl) ?_
      have hB := cP_book (r := z.1 0) hP (hR 0 (by decide))
      refine g_get S hK hB (i := jo1 + 7) (by omega) bC7 rfl inlX0 4 (by decide) k_156 (v := .int (z.2 (z.1 0) (jo1 + 7) 4)) rfl dX5_billOf_99 ?_
      exact e_int S hr hlk rfl hK hS hP (show v_X5_billOf z p1 p2 = z.2 (z.1 0) (jo1 + 7) 4 from (oel_s o1).trans ((if_neg c2).trans ((if_neg c3).trans ((if_pos c4).trans rfl)))).symm dX5_billOf_102
    refine (Classical.em (p2 = 3)).elim (fun c5 => ?_) (fun c5 => ?_)
    · refine lv_tableIn (tgt := 103)  hx hb dX5_billOf_16 (by rw [c5]; decide) (by rw [c5]; decide) (by rw [c5]; rfl) (by decide) ?_
      refine lv_aload_n hx hb dX5_billOf_103 rfl (lv_at hl 0 rfl) ?_
      have hB := cP_book (r := z.1 0) hP (hR 0 (by decide))
      refine g_get S hK hB (i := jo1 + 7) (by omega) bC7 rfl inlX0 5 (by decide) k_157 (v := .int (z.2 (z.1 0) (jo1 + 7) 5)) rfl dX5_billOf_104 ?_
      exact e_int S hr hlk rfl hK hS hP (show v_X5_billOf z p1 p2 = z.2 (z.1 0) (jo1 + 7) 5 from (oel_s o1).trans ((if_neg c2).trans ((if_neg c3).trans ((if_neg c4).trans ((if_pos c5).trans rfl))))).symm dX5_billOf_107
    refine (Classical.em (p2 = 4)).elim (fun c6 => ?_) (fun c6 => ?_)
    · refine lv_tableIn (tgt := 108)  hx hb dX5_billOf_16 (by rw [c6]; decide) (by rw [c6]; decide) (by rw [c6]; rfl) (by decide) ?_
      refine lv_aload_n hx hb dX5_billOf_108 rfl (lv_at hl 0 rfl) ?_
      have hB := cP_book (r := z.1 0) hP (hR 0 (by decide))
      refine g_get S hK hB (i := jo1 + 7) (by omega) bC7 rfl inlX0 6 (by decide) k_158 (v := .int (z.2 (z.1 0) (jo1 + 7) 6)) rfl dX5_billOf_109 ?_
      exact e_int S hr hlk rfl hK hS hP (show v_X5_billOf z p1 p2 = z.2 (z.1 0) (jo1 + 7) 6 from (oel_s o1).trans ((if_neg c2).trans ((if_neg c3).trans ((if_neg c4).trans ((if_neg c5).trans ((if_pos c6).trans rfl)))))).symm dX5_billOf_112
    refine (Classical.em (p2 = 5)).elim (fun c7 => ?_) (fun c7 => ?_)
    · refine lv_tableIn (tgt := 113)  hx hb dX5_billOf_16 (by rw [c7]; decide) (by rw [c7]; decide) (by rw [c7]; rfl) (by decide) ?_
      refine lv_aload_n hx hb dX5_billOf_113 rfl (lv_at hl 0 rfl) ?_
      have hB := cP_book (r := z.1 0) hP (hR 0 (by decide))
      refine r_callI S hK hB (c_X0_dueDay l G (fun t => a (47 * (z.1 0) + t)) (gI_book hI (hR 0 (by decide))) (z.2 (z.1 0)) jo1 (by omega) ) (r_cw S k_173 k_170 k_171 k_172 k_38 q_X0_dueDay ⟨Nat.le_of_ble_eq_true rfl, Nat.le_of_ble_eq_true rfl⟩ rfl rfl) (g_recv hK hB (i := jo1 + 7) (by omega) bC7 rfl) rfl hl.1 rfl (Nat.le_of_ble_eq_true rfl) dX5_billOf_114 ⟨Nat.zero_le _, Nat.zero_le _⟩ hS (fun _ h => gA_book (hR 0 (by decide)) h) (fun H locs hB hk1 hz1 hS => ?_)
      have hP := cP_join0 hI (hR 0 (by decide)) hP hB hk1
      have hP : cP G a z H := hP
      exact e_int S hr hlk rfl hK hS hP (show v_X5_billOf z p1 p2 = v_X0_dueDay (z.2 (z.1 0)) jo1 from (oel_s o1).trans ((if_neg c2).trans ((if_neg c3).trans ((if_neg c4).trans ((if_neg c5).trans ((if_neg c6).trans ((if_pos c7).trans rfl))))))).symm dX5_billOf_117
    refine (Classical.em (p2 = 6)).elim (fun c8 => ?_) (fun c8 => ?_)
    · refine lv_tableIn (tgt := 118)  hx hb dX5_billOf_16 (by rw [c8]; decide) (by rw [c8]; decide) (by rw [c8]; rfl) (by decide) ?_
      refine lv_aload_n hx hb dX5_billOf_118 rfl (lv_at hl 0 rfl) ?_
      have hB := cP_book (r := z.1 0) hP (hR 0 (by decide))
      refine g_get S hK hB (i := jo1 + 7) (by omega) bC7 rfl inlX0 0 (by decide) k_159 (v := .int (z.2 (z.1 0) (jo1 + 7) 0)) rfl dX5_billOf_119 ?_
      exact e_int S hr hlk rfl hK hS hP (show v_X5_billOf z p1 p2 = z.2 (z.1 0) (jo1 + 7) 0 from (oel_s o1).trans ((if_neg c2).trans ((if_neg c3).trans ((if_neg c4).trans ((if_neg c5).trans ((if_neg c6).trans ((if_neg c7).trans ((if_pos c8).trans rfl)))))))).symm dX5_billOf_122
    refine (Classical.em (p2 = 7)).elim (fun c9 => ?_) (fun c9 => ?_)
    · refine lv_tableIn (tgt := 123)  hx hb dX5_billOf_16 (by rw [c9]; decide) (by rw [c9]; decide) (by rw [c9]; rfl) (by decide) ?_
      refine lv_aload_n hx hb dX5_billOf_123 rfl (lv_at hl 0 rfl) ?_
      have hB := cP_book (r := z.1 0) hP (hR 0 (by decide))
      refine g_get S hK hB (i := jo1 + 7) (by omega) bC7 rfl inlX0 8 (by decide) k_160 (v := .int (z.2 (z.1 0) (jo1 + 7) 8)) rfl dX5_billOf_124 ?_
      exact e_int S hr hlk rfl hK hS hP (show v_X5_billOf z p1 p2 = z.2 (z.1 0) (jo1 + 7) 8 from (oel_s o1).trans ((if_neg c2).trans ((if_neg c3).trans ((if_neg c4).trans ((if_neg c5).trans ((if_neg c6).trans ((if_neg c7).trans ((if_neg c8).trans ((if_pos c9).trans rfl))))))))).symm dX5_billOf_127
    refine (Classical.em (p2 = 8)).elim (fun c10 => ?_) (fun c10 => ?_)
    · refine lv_tableIn (tgt := 128)  hx hb dX5_billOf_16 (by rw [c10]; decide) (by rw [c10]; decide) (by rw [c10]; rfl) (by decide) ?_
      refine lv_aload_n hx hb dX5_billOf_128 rfl (lv_at hl 0 rfl) ?_
      have hB := cP_book (r := z.1 0) hP (hR 0 (by decide))
      refine g_get S hK hB (i := jo1 + 7) (by omega) bC7 rfl inlX0 9 (by decide) k_161 (v := .int (z.2 (z.1 0) (jo1 + 7) 9)) rfl dX5_billOf_129 ?_
      exact e_int S hr hlk rfl hK hS hP (show v_X5_billOf z p1 p2 = z.2 (z.1 0) (jo1 + 7) 9 from (oel_s o1).trans ((if_neg c2).trans ((if_neg c3).trans ((if_neg c4).trans ((if_neg c5).trans ((if_neg c6).trans ((if_neg c7).trans ((if_neg c8).trans ((if_neg c9).trans ((if_pos c10).trans rfl)))))))))).symm dX5_billOf_132
    refine (Classical.em (p2 = 9)).elim (fun c11 => ?_) (fun c11 => ?_)
    · refine lv_tableIn (tgt := 133)  hx hb dX5_billOf_16 (by rw [c11]; decide) (by rw [c11]; decide) (by rw [c11]; rfl) (by decide) ?_
      refine lv_aload_n hx hb dX5_billOf_133 rfl (lv_at hl 0 rfl) ?_
      have hB := cP_book (r := z.1 0) hP (hR 0 (by decide))
      refine g_get S hK hB (i := jo1 + 7) (by omega) bC7 rfl inlX0 10 (by decide) k_162 (v := .int (z.2 (z.1 0) (jo1 + 7) 10)) rfl dX5_billOf_134 ?_
      exact e_int S hr hlk rfl hK hS hP (show v_X5_billOf z p1 p2 = z.2 (z.1 0) (jo1 + 7) 10 from (oel_s o1).trans ((if_neg c2).trans ((if_neg c3).trans ((if_neg c4).trans ((if_neg c5).trans ((if_neg c6).trans ((if_neg c7).trans ((if_neg c8).trans ((if_neg c9).trans ((if_neg c10).trans ((if_pos c11).trans rfl))))))))))).symm dX5_billOf_137
    refine (Classical.em (p2 = 10)).elim (fun c12 => ?_) (fun c12 => ?_)
    · refine lv_tableIn (tgt := 138)  hx hb dX5_billOf_16 (by rw [c12]; decide) (by rw [c12]; decide) (by rw [c12]; rfl) (by decide) ?_
      refine lv_aload_n hx hb dX5_billOf_138 rfl (lv_at hl 0 rfl) ?_
      have hB := cP_book (r := z.1 0) hP (hR 0 (by decide))
      refine r_callI S hK hB (c_X0_owed l G (fun t => a (47 * (z.1 0) + t)) (gI_book hI (hR 0 (by decide))) (z.2 (z.1 0)) jo1 (by omega) ) (r_cw S k_101 k_174 k_99 k_100 k_38 q_X0_owed ⟨Nat.le_of_ble_eq_true rfl, Nat.le_of_ble_eq_true rfl⟩ rfl rfl) (g_recv hK hB (i := jo1 + 7) (by omega) bC7 rfl) rfl hl.1 rfl (Nat.le_of_ble_eq_true rfl) dX5_billOf_139 ⟨Nat.zero_le _, Nat.zero_le _⟩ hS (fun _ h => gA_book (hR 0 (by decide)) h) (fun H locs hB hk1 hz1 hS => ?_)
      have hP := cP_join0 hI (hR 0 (by decide)) hP hB hk1
      have hP : cP G a z H := hP
      exact e_int S hr hlk rfl hK hS hP (show v_X5_billOf z p1 p2 = v_X0_owed (z.2 (z.1 0)) jo1 from (oel_s o1).trans ((if_neg c2).trans ((if_neg c3).trans ((if_neg c4).trans ((if_neg c5).trans ((if_neg c6).trans ((if_neg c7).trans ((if_neg c8).trans ((if_neg c9).trans ((if_neg c10).trans ((if_neg c11).trans ((if_pos c12).trans rfl)))))))))))).symm dX5_billOf_142
    refine (Classical.em (p2 = 11)).elim (fun c13 => ?_) (fun c13 => ?_)
    · refine lv_tableIn (tgt := 143)  hx hb dX5_billOf_16 (by rw [c13]; decide) (by rw [c13]; decide) (by rw [c13]; rfl) (by decide) ?_
      refine lv_aload_n hx hb dX5_billOf_143 rfl (lv_at hl 0 rfl) ?_
      have hB := cP_book (r := z.1 0) hP (hR 0 (by decide))
      refine g_get S hK hB (i := jo1 + 7) (by omega) bC7 rfl inlX0 11 (by decide) k_163 (v := .int (z.2 (z.1 0) (jo1 + 7) 11)) rfl dX5_billOf_144 ?_
      exact e_int S hr hlk rfl hK hS hP (show v_X5_billOf z p1 p2 = z.2 (z.1 0) (jo1 + 7) 11 from (oel_s o1).trans ((if_neg c2).trans ((if_neg c3).trans ((if_neg c4).trans ((if_neg c5).trans ((if_neg c6).trans ((if_neg c7).trans ((if_neg c8).trans ((if_neg c9).trans ((if_neg c10).trans ((if_neg c11).trans ((if_neg c12).trans ((if_pos c13).trans rfl))))))))))))).symm dX5_billOf_147
    refine (Classical.em (p2 = 12)).elim (fun c14 => ?_) (fun c14 => ?_)
    · refine lv_tableIn (tgt := 148)  hx hb dX5_billOf_16 (by rw [c14]; decide) (by rw [c14]; decide) (by rw [c14]; rfl) (by decide) ?_
      refine lv_aload_n hx hb dX5_billOf_148 rfl (lv_at hl 0 rfl) ?_
      have hB := cP_book (r := z.1 0) hP (hR 0 (by decide))
      refine g_get S hK hB (i := jo1 + 7) (by omega) bC7 rfl inlX0 13 (by decide) k_164 (v := .int (z.2 (z.1 0) (jo1 + 7) 13)) rfl dX5_billOf_149 ?_
      exact e_int S hr hlk rfl hK hS hP (show v_X5_billOf z p1 p2 = z.2 (z.1 0) (jo1 + 7) 13 from (oel_s o1).trans ((if_neg c2).trans ((if_neg c3).trans ((if_neg c4).trans ((if_neg c5).trans ((if_neg c6).trans ((if_neg c7).trans ((if_neg c8).trans ((if_neg c9).trans ((if_neg c10).trans ((if_neg c11).trans ((if_neg c12).trans ((if_neg c13).trans ((if_pos c14).trans rfl)))))))))))))).symm dX5_billOf_152
    refine (Classical.em (p2 = 13)).elim (fun c15 => ?_) (fun c15 => ?_)
    · refine lv_tableIn (tgt := 153)  hx hb dX5_billOf_16 (by rw [c15]; decide) (by rw [c15]; decide) (by rw [c15]; rfl) (by decide) ?_
      refine lv_aload_n hx hb dX5_billOf_153 rfl (lv_at hl 0 rfl) ?_
      refine lv_aload_n hx hb dX5_billOf_154 rfl (lv_at hl 1 rfl) ?_
      refine g_get S hK hP (i := 329) (by omega) cC0 rfl inlX5 0 (by decide) k_12 (v := .ref (a (47 * (z.1 0)))) rfl dX5_billOf_155 ?_
      have hB := cP_book (r := z.1 0) hP (hR 0 (by decide))
      refine g_get S hK hB (i := 0) (by omega) bC0 rfl inlX1 5 (by decide) k_68 (v := .int (z.2 (z.1 0) 0 5)) rfl dX5_billOf_158 ?_
      have hB := cP_book (r := z.1 0) hP (hR 0 (by decide))
      refine r_callI S hK hB (c_X0_isOverdue l G (fun t => a (47 * (z.1 0) + t)) (gI_book hI (hR 0 (by decide))) (z.2 (z.1 0)) jo1 (by omega) _ ) (r_cw S k_91 k_175 k_89 k_90 k_38 q_X0_isOverdue ⟨Nat.le_of_ble_eq_true rfl, Nat.le_of_ble_eq_true rfl⟩ rfl rfl) (g_recv hK hB (i := jo1 + 7) (by omega) bC7 rfl) rfl hl.1 rfl (Nat.le_of_ble_eq_true rfl) dX5_billOf_161 ⟨Nat.zero_le _, Nat.zero_le _⟩ hS (fun _ h => gA_book (hR 0 (by decide)) h) (fun H locs hB hk1 hz1 hS => ?_)
      have hP := cP_join0 hI (hR 0 (by decide)) hP hB hk1
      have hP : cP G a z H := hP
      refine lv_if_eq (tgt := 171) hx hb dX5_billOf_164 (by decide) (fun c16 => ?_) (fun c16 => ?_)
      · skip
        refine lv_iconst (v := 0) hx hb dX5_billOf_171 (by decide) ?_
        exact e_int S hr hlk rfl hK hS hP (show v_X5_billOf z p1 p2 = (0 : Int32) from (oel_s o1).trans ((if_neg c2).trans ((if_neg c3).trans ((if_neg c4).trans ((if_neg c5).trans ((if_neg c6).trans ((if_neg c7).trans ((if_neg c8).trans ((if_neg c9).trans ((if_neg c10).trans ((if_neg c11).trans ((if_neg c12).trans ((if_neg c13).trans ((if_neg c14).trans ((if_pos c15).trans ((if_pos c16).trans rfl)))))))))))))))).symm dX5_billOf_172
      · skip
        refine lv_iconst (v := 1) hx hb dX5_billOf_167 (by decide) ?_
        refine lv_goto (tgt := 172) hx hb dX5_billOf_168 (by decide) ?_
        exact e_int S hr hlk rfl hK hS hP (show v_X5_billOf z p1 p2 = (1 : Int32) from (oel_s o1).trans ((if_neg c2).trans ((if_neg c3).trans ((if_neg c4).trans ((if_neg c5).trans ((if_neg c6).trans ((if_neg c7).trans ((if_neg c8).trans ((if_neg c9).trans ((if_neg c10).trans ((if_neg c11).trans ((if_neg c12).trans ((if_neg c13).trans ((if_neg c14).trans ((if_pos c15).trans ((if_neg c16).trans rfl)))))))))))))))).symm dX5_billOf_172
    refine lv_tableOut (tgt := 173) hx hb dX5_billOf_16 (by have h0 := lv_neT c2 (a := 0) (by decide); have h1 := lv_neT c3 (a := 1) (by decide); have h2 := lv_neT c4 (a := 2) (by decide); have h3 := lv_neT c5 (a := 3) (by decide); have h4 := lv_neT c6 (a := 4) (by decide); have h5 := lv_neT c7 (a := 5) (by decide); have h6 := lv_neT c8 (a := 6) (by decide); have h7 := lv_neT c9 (a := 7) (by decide); have h8 := lv_neT c10 (a := 8) (by decide); have h9 := lv_neT c11 (a := 9) (by decide); have h10 := lv_neT c12 (a := 10) (by decide); have h11 := lv_neT c13 (a := 11) (by decide); have h12 := lv_neT c14 (a := 12) (by decide); have h13 := lv_neT c15 (a := 13) (by decide); omega) (by decide) ?_
    refine lv_bipush (v := -2) hx hb dX5_billOf_173 (by decide) ?_
    exact e_int S hr hlk rfl hK hS hP (show v_X5_billOf z p1 p2 = (-2 : Int32) from (oel_s o1).trans ((if_neg c2).trans ((if_neg c3).trans ((if_neg c4).trans ((if_neg c5).trans ((if_neg c6).trans ((if_neg c7).trans ((if_neg c8).trans ((if_neg c9).trans ((if_neg c10).trans ((if_neg c11).trans ((if_neg c12).trans ((if_neg c13).trans ((if_neg c14).trans ((if_neg c15).trans rfl))))))))))))))).symm dX5_billOf_175

def v_X5_customer (z : CS) (p1 : Int32) (p2 : Int32) : Int32 := if v_X5_isCustomer p1 = 0 then (-1 : Int32) else if p2 = 0 then (v_X1_countBills (z.2 (z.1 0)) p1 (-9 : Int32)) else if p2 = 1 then (v_X1_countBills (z.2 (z.1 0)) p1 (0 : Int32)) else if p2 = 2 then (v_X1_owedOn (z.2 (z.1 0)) p1 (0 : Int32)) else if p2 = 3 then (v_X1_creditOf (z.2 (z.1 0)) p1) else if p2 = 4 then ((v_X1_paidOn (z.2 (z.1 0)) p1) + (v_X1_creditOf (z.2 (z.1 0)) p1)) else if p2 = 5 then (v_X1_owedOn (z.2 (z.1 0)) p1 (2 : Int32)) else if p2 = 6 then (v_X1_oldestOpenBill (z.2 (z.1 0)) p1) else (-2 : Int32)
theorem q_X5_customer : yX5_customer.cls ≠ "java/lang/invoke/MethodHandle" ∧ yX5_customer.cls ≠ "java/lang/invoke/VarHandle" ∧ (parseMethodDescriptor yX5_customer.desc).map (fun d => d.parameters.length) = some 2 := ⟨by decide, by decide, by decide +kernel⟩
set_option maxHeartbeats 4000000 in
set_option maxRecDepth 100000 in
theorem c_X5_customer (l : Launch) (G : kG) (a : Nat → Nat) (hI : gI 334 a) (z : CS) (p1 : Int32) (p2 : Int32) (hR : RI z.1) (hJ : RJ z.1) : Met l yX5_customer (Cond.code yX5_customer cX5_customer 3 (some .int) :: BIG) (rmK 2) (pcG G (cP G a z) [.ref (a 329), .int p1, .int p2]) (qcI G (gA 334 a) (cP G a z) (v_X5_customer z p1 p2)) 0 0 (gA 334 a) := by
  refine m_start (by decide) (Nat.le_of_ble_eq_true rfl) ?_
  intro p e s m args below meth c S hr hlk hnm hP hK ls hl
  have hx := S.1
  have hb := S.2.1
  have hown := S.2.2.2.1
  have hS : va_S (gA 334 a) s.heap s.heap [] := va_S.rf
  have hl : lv_has ls 3 [(0, .ref (a 329)), (1, .int p1), (2, .int p2)] := hl
  refine lv_iload_n hx hb dX5_customer_0 rfl (lv_at hl 1 rfl) ?_
  refine r_callS S hK hP (c_X5_isCustomer l G (cP G a z) (gA 334 a) _ ) (r_cs S k_218 k_216 k_217 k_2 q_X5_isCustomer ⟨Nat.le_of_ble_eq_true rfl, Nat.le_of_ble_eq_true rfl⟩ rfl rfl) rfl hl.1 rfl (Nat.le_of_ble_eq_true rfl) dX5_customer_1 ⟨Nat.zero_le _, Nat.zero_le _⟩ hS (fun _ h => h) (fun H locs hP _ _ hS => ?_)
  have hP : cP G a z H := hP
  refine lv_if_ne (tgt := 9) hx hb dX5_customer_4 (by decide) (fun c1 => ?_) (fun c1 => ?_)
  · skip
    refine lv_iload_n hx hb dX5_customer_9 rfl (lv_at hl 2 rfl) ?_
    refine (Classical.em (p2 = 0)).elim (fun c2 => ?_) (fun c2 => ?_)
    · refine lv_tableIn (tgt := 52)  hx hb dX5_customer_10 (by rw [c2]; decide) (by rw [c2]; decide) (by rw [c2]; rfl) (by decide) ?_
      refine lv_aload_n hx hb dX5_customer_52 rfl (lv_at hl 0 rfl) ?_
      refine g_get S hK hP (i := 329) (by omega) cC0 rfl inlX5 0 (by decide) k_12 (v := .ref (a (47 * (z.1 0)))) rfl dX5_customer_53 ?_
      refine lv_iload_n hx hb dX5_customer_56 rfl (lv_at hl 1 rfl) ?_
      refine lv_bipush (v := -9) hx hb dX5_customer_57 (by decide) ?_
      have hB := cP_book (r := z.1 0) hP (hR 0 (by decide))
      refine r_callI S hK hB (c_X1_countBills l G (fun t => a (47 * (z.1 0) + t)) (gI_book hI (hR 0 (by decide))) (z.2 (z.1 0)) _ _ ) (r_cw S k_77 k_74 k_75 k_76 k_11 q_X1_countBills ⟨Nat.le_of_ble_eq_true rfl, Nat.le_of_ble_eq_true rfl⟩ rfl rfl) (g_recv hK hB (i := 0) (by omega) bC0 rfl) rfl hl.1 rfl (Nat.le_of_ble_eq_true rfl) dX5_customer_59 ⟨Nat.zero_le _, Nat.zero_le _⟩ hS (fun _ h => gA_book (hR 0 (by decide)) h) (fun H locs hB hk1 hz1 hS => ?_)
      have hP := cP_join0 hI (hR 0 (by decide)) hP hB hk1
      have hP : cP G a z H := hP
      exact e_int S hr hlk rfl hK hS hP (show v_X5_customer z p1 p2 = v_X1_countBills (z.2 (z.1 0)) p1 (-9 : Int32) from (if_neg c1).trans ((if_pos c2).trans rfl)).symm dX5_customer_62
    refine (Classical.em (p2 = 1)).elim (fun c3 => ?_) (fun c3 => ?_)
    · refine lv_tableIn (tgt := 63)  hx hb dX5_customer_10 (by rw [c3]; decide) (by rw [c3]; decide) (by rw [c3]; rfl) (by decide) ?_
      refine lv_aload_n hx hb dX5_customer_63 rfl (lv_at hl 0 rfl) ?_
      refine g_get S hK hP (i := 329) (by omega) cC0 rfl inlX5 0 (by decide) k_12 (v := .ref (a (47 * (z.1 0)))) rfl dX5_customer_64 ?_
      refine lv_iload_n hx hb dX5_customer_67 rfl (lv_at hl 1 rfl) ?_
      refine lv_iconst (v := 0) hx hb dX5_customer_68 (by decide) ?_
      have hB := cP_book (r := z.1 0) hP (hR 0 (by decide))
      refine r_callI S hK hB (c_X1_countBills l G (fun t => a (47 * (z.1 0) + t)) (gI_book hI (hR 0 (by decide))) (z.2 (z.1 0)) _ _ ) (r_cw S k_77 k_74 k_75 k_76 k_11 q_X1_countBills ⟨Nat.le_of_ble_eq_true rfl, Nat.le_of_ble_eq_true rfl⟩ rfl rfl) (g_recv hK hB (i := 0) (by omega) bC0 rfl) rfl hl.1 rfl (Nat.le_of_ble_eq_true rfl) dX5_customer_69 ⟨Nat.zero_le _, Nat.zero_le _⟩ hS (fun _ h => gA_book (hR 0 (by decide)) h) (fun H locs hB hk1 hz1 hS => ?_)
      have hP := cP_join0 hI (hR 0 (by decide)) hP hB hk1
      have hP : cP G a z H := hP
      exact e_int S hr hlk rfl hK hS hP (show v_X5_customer z p1 p2 = v_X1_countBills (z.2 (z.1 0)) p1 (0 : Int32) from (if_neg c1).trans ((if_neg c2).trans ((if_pos c3).trans rfl))).symm dX5_customer_72
    refine (Classical.em (p2 = 2)).elim (fun c4 => ?_) (fun c4 => ?_)
    · refine lv_tableIn (tgt := 73)  hx hb dX5_customer_10 (by rw [c4]; decide) (by rw [c4]; decide) (by rw [c4]; rfl) (by decide) ?_
      refine lv_aload_n hx hb dX5_customer_73 rfl (lv_at hl 0 rfl) ?_
      refine g_get S hK hP (i := 329) (by omega) cC0 rfl inlX5 0 (by decide) k_12 (v := .ref (a (47 * (z.1 0)))) rfl dX5_customer_74 ?_
      refine lv_iload_n hx hb dX5_customer_77 rfl (lv_at hl 1 rfl) ?_
      refine lv_iconst (v := 0) hx hb dX5_customer_78 (by decide) ?_
      have hB := cP_book (r := z.1 0) hP (hR 0 (by decide))
      refine r_callI S hK hB (c_X1_owedOn l G (fun t => a (47 * (z.1 0) + t)) (gI_book hI (hR 0 (by decide))) (z.2 (z.1 0)) _ _ ) (r_cw S k_97 k_94 k_95 k_96 k_11 q_X1_owedOn ⟨Nat.le_of_ble_eq_true rfl, Nat.le_of_ble_eq_true rfl⟩ rfl rfl) (g_recv hK hB (i := 0) (by omega) bC0 rfl) rfl hl.1 rfl (Nat.le_of_ble_eq_true rfl) dX5_customer_79 ⟨Nat.zero_le _, Nat.zero_le _⟩ hS (fun _ h => gA_book (hR 0 (by decide)) h) (fun H locs hB hk1 hz1 hS => ?_)
      have hP := cP_join0 hI (hR 0 (by decide)) hP hB hk1
      have hP : cP G a z H := hP
      exact e_int S hr hlk rfl hK hS hP (show v_X5_customer z p1 p2 = v_X1_owedOn (z.2 (z.1 0)) p1 (0 : Int32) from (if_neg c1).trans ((if_neg c2).trans ((if_neg c3).trans ((if_pos c4).trans rfl)))).symm dX5_customer_82
    refine (Classical.em (p2 = 3)).elim (fun c5 => ?_) (fun c5 => ?_)
    · refine lv_tableIn (tgt := 83)  hx hb dX5_customer_10 (by rw [c5]; decide) (by rw [c5]; decide) (by rw [c5]; rfl) (by decide) ?_
      refine lv_aload_n hx hb dX5_customer_83 rfl (lv_at hl 0 rfl) ?_
      refine g_get S hK hP (i := 329) (by omega) cC0 rfl inlX5 0 (by decide) k_12 (v := .ref (a (47 * (z.1 0)))) rfl dX5_customer_84 ?_
      refine lv_iload_n hx hb dX5_customer_87 rfl (lv_at hl 1 rfl) ?_
      have hB := cP_book (r := z.1 0) hP (hR 0 (by decide))
      refine r_callI S hK hB (c_X1_creditOf l G (fun t => a (47 * (z.1 0) + t)) (gI_book hI (hR 0 (by decide))) (z.2 (z.1 0)) _ ) (r_cw S k_222 k_219 k_220 k_221 k_11 q_X1_creditOf ⟨Nat.le_of_ble_eq_true rfl, Nat.le_of_ble_eq_true rfl⟩ rfl rfl) (g_recv hK hB (i := 0) (by omega) bC0 rfl) rfl hl.1 rfl (Nat.le_of_ble_eq_true rfl) dX5_customer_88 ⟨Nat.zero_le _, Nat.zero_le _⟩ hS (fun _ h => gA_book (hR 0 (by decide)) h) (fun H locs hB hk1 hz1 hS => ?_)
      have hP := cP_join0 hI (hR 0 (by decide)) hP hB hk1
      have hP : cP G a z H := hP
      exact e_int S hr hlk rfl hK hS hP (show v_X5_customer z p1 p2 = v_X1_creditOf (z.2 (z.1 0)) p1 from (if_neg c1).trans ((if_neg c2).trans ((if_neg c3).trans ((if_neg c4).trans ((if_pos c5).trans rfl))))).symm dX5_customer_91
    refine (Classical.em (p2 = 4)).elim (fun c6 => ?_) (fun c6 => ?_)
    · refine lv_tableIn (tgt := 92)  hx hb dX5_customer_10 (by rw [c6]; decide) (by rw [c6]; decide) (by rw [c6]; rfl) (by decide) ?_
      refine lv_aload_n hx hb dX5_customer_92 rfl (lv_at hl 0 rfl) ?_
      refine g_get S hK hP (i := 329) (by omega) cC0 rfl inlX5 0 (by decide) k_12 (v := .ref (a (47 * (z.1 0)))) rfl dX5_customer_93 ?_
      refine lv_iload_n hx hb dX5_customer_96 rfl (lv_at hl 1 rfl) ?_
      have hB := cP_book (r := z.1 0) hP (hR 0 (by decide))
      refine r_callI S hK hB (c_X1_paidOn l G (fun t => a (47 * (z.1 0) + t)) (gI_book hI (hR 0 (by decide))) (z.2 (z.1 0)) _ ) (r_cw S k_113 k_110 k_111 k_112 k_11 q_X1_paidOn ⟨Nat.le_of_ble_eq_true rfl, Nat.le_of_ble_eq_true rfl⟩ rfl rfl) (g_recv hK hB (i := 0) (by omega) bC0 rfl) rfl hl.1 rfl (Nat.le_of_ble_eq_true rfl) dX5_customer_97 ⟨Nat.zero_le _, Nat.zero_le _⟩ hS (fun _ h => gA_book (hR 0 (by decide)) h) (fun H locs hB hk1 hz1 hS => ?_)
      have hP := cP_join0 hI (hR 0 (by decide)) hP hB hk1
      have hP : cP G a z H := hP
      refine lv_aload_n hx hb dX5_customer_100 rfl (lv_at hl 0 rfl) ?_
      refine g_get S hK hP (i := 329) (by omega) cC0 rfl inlX5 0 (by decide) k_12 (v := .ref (a (47 * (z.1 0)))) rfl dX5_customer_101 ?_
      refine lv_iload_n hx hb dX5_customer_104 rfl (lv_at hl 1 rfl) ?_
      have hB := cP_book (r := z.1 0) hP (hR 0 (by decide))
      refine r_callI S hK hB (c_X1_creditOf l G (fun t => a (47 * (z.1 0) + t)) (gI_book hI (hR 0 (by decide))) (z.2 (z.1 0)) _ ) (r_cw S k_222 k_219 k_220 k_221 k_11 q_X1_creditOf ⟨Nat.le_of_ble_eq_true rfl, Nat.le_of_ble_eq_true rfl⟩ rfl rfl) (g_recv hK hB (i := 0) (by omega) bC0 rfl) rfl hl.1 rfl (Nat.le_of_ble_eq_true rfl) dX5_customer_105 ⟨Nat.zero_le _, Nat.zero_le _⟩ hS (fun _ h => gA_book (hR 0 (by decide)) h) (fun H locs hB hk1 hz1 hS => ?_)
      have hP := cP_join0 hI (hR 0 (by decide)) hP hB hk1
      have hP : cP G a z H := hP
      refine lv_iadd hx hb dX5_customer_108 ?_
      exact e_int S hr hlk rfl hK hS hP (show v_X5_customer z p1 p2 = (v_X1_paidOn (z.2 (z.1 0)) p1) + (v_X1_creditOf (z.2 (z.1 0)) p1) from (if_neg c1).trans ((if_neg c2).trans ((if_neg c3).trans ((if_neg c4).trans ((if_neg c5).trans ((if_pos c6).trans rfl)))))).symm dX5_customer_109
    refine (Classical.em (p2 = 5)).elim (fun c7 => ?_) (fun c7 => ?_)
    · refine lv_tableIn (tgt := 110)  hx hb dX5_customer_10 (by rw [c7]; decide) (by rw [c7]; decide) (by rw [c7]; rfl) (by decide) ?_
      refine lv_aload_n hx hb dX5_customer_110 rfl (lv_at hl 0 rfl) ?_
      refine g_get S hK hP (i := 329) (by omega) cC0 rfl inlX5 0 (by decide) k_12 (v := .ref (a (47 * (z.1 0)))) rfl dX5_customer_111 ?_
      refine lv_iload_n hx hb dX5_customer_114 rfl (lv_at hl 1 rfl) ?_
      refine lv_iconst (v := 2) hx hb dX5_customer_115 (by decide) ?_
      have hB := cP_book (r := z.1 0) hP (hR 0 (by decide))
      refine r_callI S hK hB (c_X1_owedOn l G (fun t => a (47 * (z.1 0) + t)) (gI_book hI (hR 0 (by decide))) (z.2 (z.1 0)) _ _ ) (r_cw S k_97 k_94 k_95 k_96 k_11 q_X1_owedOn ⟨Nat.le_of_ble_eq_true rfl, Nat.le_of_ble_eq_true rfl⟩ rfl rfl) (g_recv hK hB (i := 0) (by omega) bC0 rfl) rfl hl.1 rfl (Nat.le_of_ble_eq_true rfl) dX5_customer_116 ⟨Nat.zero_le _, Nat.zero_le _⟩ hS (fun _ h => gA_book (hR 0 (by decide)) h) (fun H locs hB hk1 hz1 hS => ?_)
      have hP := cP_join0 hI (hR 0 (by decide)) hP hB hk1
      have hP : cP G a z H := hP
      exact e_int S hr hlk rfl hK hS hP (show v_X5_customer z p1 p2 = v_X1_owedOn (z.2 (z.1 0)) p1 (2 : Int32) from (if_neg c1).trans ((if_neg c2).trans ((if_neg c3).trans ((if_neg c4).trans ((if_neg c5).trans ((if_neg c6).trans ((if_pos c7).trans rfl))))))).symm dX5_customer_119
    refine (Classical.em (p2 = 6)).elim (fun c8 => ?_) (fun c8 => ?_)
    · refine lv_tableIn (tgt := 120)  hx hb dX5_customer_10 (by rw [c8]; decide) (by rw [c8]; decide) (by rw [c8]; rfl) (by decide) ?_
      refine lv_aload_n hx hb dX5_customer_120 rfl (lv_at hl 0 rfl) ?_
      refine g_get S hK hP (i := 329) (by omega) cC0 rfl inlX5 0 (by decide) k_12 (v := .ref (a (47 * (z.1 0)))) rfl dX5_customer_121 ?_
      refine lv_iload_n hx hb dX5_customer_124 rfl (lv_at hl 1 rfl) ?_
      have hB := cP_book (r := z.1 0) hP (hR 0 (by decide))
      refine r_callI S hK hB (c_X1_oldestOpenBill l G (fun t => a (47 * (z.1 0) + t)) (gI_book hI (hR 0 (by decide))) (z.2 (z.1 0)) _ ) (r_cw S k_226 k_223 k_224 k_225 k_11 q_X1_oldestOpenBill ⟨Nat.le_of_ble_eq_true rfl, Nat.le_of_ble_eq_true rfl⟩ rfl rfl) (g_recv hK hB (i := 0) (by omega) bC0 rfl) rfl hl.1 rfl (Nat.le_of_ble_eq_true rfl) dX5_customer_125 ⟨Nat.zero_le _, Nat.zero_le _⟩ hS (fun _ h => gA_book (hR 0 (by decide)) h) (fun H locs hB hk1 hz1 hS => ?_)
      have hP := cP_join0 hI (hR 0 (by decide)) hP hB hk1
      have hP : cP G a z H := hP
      exact e_int S hr hlk rfl hK hS hP (show v_X5_customer z p1 p2 = v_X1_oldestOpenBill (z.2 (z.1 0)) p1 from (if_neg c1).trans ((if_neg c2).trans ((if_neg c3).trans ((if_neg c4).trans ((if_neg c5).trans ((if_neg c6).trans ((if_neg c7).trans ((if_pos c8).trans rfl)))))))).symm dX5_customer_128
    refine lv_tableOut (tgt := 129) hx hb dX5_customer_10 (by have h0 := lv_neT c2 (a := 0) (by decide); have h1 := lv_neT c3 (a := 1) (by decide); have h2 := lv_neT c4 (a := 2) (by decide); have h3 := lv_neT c5 (a := 3) (by decide); have h4 := lv_neT c6 (a := 4) (by decide); have h5 := lv_neT c7 (a := 5) (by decide); have h6 := lv_neT c8 (a := 6) (by decide); omega) (by decide) ?_
    refine lv_bipush (v := -2) hx hb dX5_customer_129 (by decide) ?_
    exact e_int S hr hlk rfl hK hS hP (show v_X5_customer z p1 p2 = (-2 : Int32) from (if_neg c1).trans ((if_neg c2).trans ((if_neg c3).trans ((if_neg c4).trans ((if_neg c5).trans ((if_neg c6).trans ((if_neg c7).trans ((if_neg c8).trans rfl)))))))).symm dX5_customer_131
  · skip
    refine lv_iconst (v := -1) hx hb dX5_customer_7 (by decide) ?_
    exact e_int S hr hlk rfl hK hS hP (show v_X5_customer z p1 p2 = (-1 : Int32) from (if_pos c1).trans rfl).symm dX5_customer_8

def v_X5_tax (z : CS) (p1 : Int32) (p2 : Int32) : Int32 := if v_X5_isYear p1 = 0 then (-1 : Int32) else if p2 < 0 then (-2 : Int32) else if p2 ≤ (2 : Int32) then (if p2 = (2 : Int32) then (v_X1_taxTold (z.2 (z.1 0)) p1) else v_X1_taxOf (z.2 (z.1 0)) p1 p2) else (-2 : Int32)
theorem q_X5_tax : yX5_tax.cls ≠ "java/lang/invoke/MethodHandle" ∧ yX5_tax.cls ≠ "java/lang/invoke/VarHandle" ∧ (parseMethodDescriptor yX5_tax.desc).map (fun d => d.parameters.length) = some 2 := ⟨by decide, by decide, by decide +kernel⟩
set_option maxHeartbeats 4000000 in
set_option maxRecDepth 100000 in
theorem c_X5_tax (l : Launch) (G : kG) (a : Nat → Nat) (hI : gI 334 a) (z : CS) (p1 : Int32) (p2 : Int32) (hR : RI z.1) (hJ : RJ z.1) : Met l yX5_tax (Cond.code yX5_tax cX5_tax 3 (some .int) :: BIG) (rmK 2) (pcG G (cP G a z) [.ref (a 329), .int p1, .int p2]) (qcI G (gA 334 a) (cP G a z) (v_X5_tax z p1 p2)) 0 0 (gA 334 a) := by
  refine m_start (by decide) (Nat.le_of_ble_eq_true rfl) ?_
  intro p e s m args below meth c S hr hlk hnm hP hK ls hl
  have hx := S.1
  have hb := S.2.1
  have hown := S.2.2.2.1
  have hS : va_S (gA 334 a) s.heap s.heap [] := va_S.rf
  have hl : lv_has ls 3 [(0, .ref (a 329)), (1, .int p1), (2, .int p2)] := hl
  refine lv_iload_n hx hb dX5_tax_0 rfl (lv_at hl 1 rfl) ?_
  refine r_callS S hK hP (c_X5_isYear l G (cP G a z) (gA 334 a) _ ) (r_cs S k_252 k_250 k_251 k_2 q_X5_isYear ⟨Nat.le_of_ble_eq_true rfl, Nat.le_of_ble_eq_true rfl⟩ rfl rfl) rfl hl.1 rfl (Nat.le_of_ble_eq_true rfl) dX5_tax_1 ⟨Nat.zero_le _, Nat.zero_le _⟩ hS (fun _ h => h) (fun H locs hP _ _ hS => ?_)
  have hP : cP G a z H := hP
  refine lv_if_ne (tgt := 9) hx hb dX5_tax_4 (by decide) (fun c1 => ?_) (fun c1 => ?_)
  · skip
    refine lv_iload_n hx hb dX5_tax_9 rfl (lv_at hl 2 rfl) ?_
    refine lv_if_lt (tgt := 18) hx hb dX5_tax_10 (by decide) (fun c2 => ?_) (fun c2 => ?_)
    · skip
      refine lv_bipush (v := -2) hx hb dX5_tax_18 (by decide) ?_
      exact e_int S hr hlk rfl hK hS hP (show v_X5_tax z p1 p2 = (-2 : Int32) from (if_neg c1).trans ((if_pos c2).trans rfl)).symm dX5_tax_20
    · skip
      refine lv_iload_n hx hb dX5_tax_13 rfl (lv_at hl 2 rfl) ?_
      refine lv_iconst (v := 2) hx hb dX5_tax_14 (by decide) ?_
      refine lv_icmp_le (tgt := 21) hx hb dX5_tax_15 (by decide) (fun c3 => ?_) (fun c3 => ?_)
      · skip
        refine lv_iload_n hx hb dX5_tax_21 rfl (lv_at hl 2 rfl) ?_
        refine lv_iconst (v := 2) hx hb dX5_tax_22 (by decide) ?_
        refine lv_icmp_ne (tgt := 37) hx hb dX5_tax_23 (by decide) (fun c4 => ?_) (fun c4 => ?_)
        · skip
          refine lv_aload_n hx hb dX5_tax_37 rfl (lv_at hl 0 rfl) ?_
          refine g_get S hK hP (i := 329) (by omega) cC0 rfl inlX5 0 (by decide) k_12 (v := .ref (a (47 * (z.1 0)))) rfl dX5_tax_38 ?_
          refine lv_iload_n hx hb dX5_tax_41 rfl (lv_at hl 1 rfl) ?_
          refine lv_iload_n hx hb dX5_tax_42 rfl (lv_at hl 2 rfl) ?_
          have hB := cP_book (r := z.1 0) hP (hR 0 (by decide))
          refine r_callI S hK hB (c_X1_taxOf l G (fun t => a (47 * (z.1 0) + t)) (gI_book hI (hR 0 (by decide))) (z.2 (z.1 0)) _ _ ) (r_cw S k_261 k_258 k_259 k_260 k_11 q_X1_taxOf ⟨Nat.le_of_ble_eq_true rfl, Nat.le_of_ble_eq_true rfl⟩ rfl rfl) (g_recv hK hB (i := 0) (by omega) bC0 rfl) rfl hl.1 rfl (Nat.le_of_ble_eq_true rfl) dX5_tax_43 ⟨Nat.zero_le _, Nat.zero_le _⟩ hS (fun _ h => gA_book (hR 0 (by decide)) h) (fun H locs hB hk1 hz1 hS => ?_)
          have hP := cP_join0 hI (hR 0 (by decide)) hP hB hk1
          have hP : cP G a z H := hP
          exact e_int S hr hlk rfl hK hS hP (show v_X5_tax z p1 p2 = v_X1_taxOf (z.2 (z.1 0)) p1 p2 from (if_neg c1).trans ((if_neg c2).trans ((if_pos c3).trans ((if_neg c4).trans rfl)))).symm dX5_tax_46
        · skip
          refine lv_aload_n hx hb dX5_tax_26 rfl (lv_at hl 0 rfl) ?_
          refine g_get S hK hP (i := 329) (by omega) cC0 rfl inlX5 0 (by decide) k_12 (v := .ref (a (47 * (z.1 0)))) rfl dX5_tax_27 ?_
          refine lv_iload_n hx hb dX5_tax_30 rfl (lv_at hl 1 rfl) ?_
          have hB := cP_book (r := z.1 0) hP (hR 0 (by decide))
          refine r_callI S hK hB (c_X1_taxTold l G (fun t => a (47 * (z.1 0) + t)) (gI_book hI (hR 0 (by decide))) (z.2 (z.1 0)) _ ) (r_cw S k_256 k_253 k_254 k_255 k_11 q_X1_taxTold ⟨Nat.le_of_ble_eq_true rfl, Nat.le_of_ble_eq_true rfl⟩ rfl rfl) (g_recv hK hB (i := 0) (by omega) bC0 rfl) rfl hl.1 rfl (Nat.le_of_ble_eq_true rfl) dX5_tax_31 ⟨Nat.zero_le _, Nat.zero_le _⟩ hS (fun _ h => gA_book (hR 0 (by decide)) h) (fun H locs hB hk1 hz1 hS => ?_)
          have hP := cP_join0 hI (hR 0 (by decide)) hP hB hk1
          have hP : cP G a z H := hP
          refine lv_goto (tgt := 46) hx hb dX5_tax_34 (by decide) ?_
          exact e_int S hr hlk rfl hK hS hP (show v_X5_tax z p1 p2 = v_X1_taxTold (z.2 (z.1 0)) p1 from (if_neg c1).trans ((if_neg c2).trans ((if_pos c3).trans ((if_pos c4).trans rfl)))).symm dX5_tax_46
      · skip
        refine lv_bipush (v := -2) hx hb dX5_tax_18 (by decide) ?_
        exact e_int S hr hlk rfl hK hS hP (show v_X5_tax z p1 p2 = (-2 : Int32) from (if_neg c1).trans ((if_neg c2).trans ((if_neg c3).trans rfl))).symm dX5_tax_20
  · skip
    refine lv_iconst (v := -1) hx hb dX5_tax_7 (by decide) ?_
    exact e_int S hr hlk rfl hK hS hP (show v_X5_tax z p1 p2 = (-1 : Int32) from (if_pos c1).trans rfl).symm dX5_tax_8

def v_X5_reason (z : CS) (p1 : Int32) : Int32 := oel (v_X1_billAt (z.2 (z.1 0)) p1) ((-1 : Int32)) (fun jo1 => v_X0_whyNoReminder (z.2 (z.1 0)) jo1 (z.2 (z.1 0) 0 5) (v_X3_reminderDays (z.2 (z.1 0))))
theorem q_X5_reason : yX5_reason.cls ≠ "java/lang/invoke/MethodHandle" ∧ yX5_reason.cls ≠ "java/lang/invoke/VarHandle" ∧ (parseMethodDescriptor yX5_reason.desc).map (fun d => d.parameters.length) = some 1 := ⟨by decide, by decide, by decide +kernel⟩
set_option maxHeartbeats 4000000 in
set_option maxRecDepth 100000 in
theorem c_X5_reason (l : Launch) (G : kG) (a : Nat → Nat) (hI : gI 334 a) (z : CS) (p1 : Int32) (hR : RI z.1) (hJ : RJ z.1) : Met l yX5_reason (Cond.code yX5_reason cX5_reason 3 (some .int) :: BIG) (rmK 3) (pcG G (cP G a z) [.ref (a 329), .int p1]) (qcI G (gA 334 a) (cP G a z) (v_X5_reason z p1)) 0 0 (gA 334 a) := by
  refine m_start (by decide) (Nat.le_of_ble_eq_true rfl) ?_
  intro p e s m args below meth c S hr hlk hnm hP hK ls hl
  have hx := S.1
  have hb := S.2.1
  have hown := S.2.2.2.1
  have hS : va_S (gA 334 a) s.heap s.heap [] := va_S.rf
  have hl : lv_has ls 3 [(0, .ref (a 329)), (1, .int p1)] := hl
  refine lv_aload_n hx hb dX5_reason_0 rfl (lv_at hl 0 rfl) ?_
  refine g_get S hK hP (i := 329) (by omega) cC0 rfl inlX5 0 (by decide) k_12 (v := .ref (a (47 * (z.1 0)))) rfl dX5_reason_1 ?_
  refine lv_iload_n hx hb dX5_reason_4 rfl (lv_at hl 1 rfl) ?_
  have hB := cP_book (r := z.1 0) hP (hR 0 (by decide))
  refine r_callQ S hK hB (c_X1_billAt l G (fun t => a (47 * (z.1 0) + t)) (gI_book hI (hR 0 (by decide))) (z.2 (z.1 0)) _ ) (r_cw S k_168 k_165 k_166 k_167 k_11 q_X1_billAt ⟨Nat.le_of_ble_eq_true rfl, Nat.le_of_ble_eq_true rfl⟩ rfl rfl) (g_recv hK hB (i := 0) (by omega) bC0 rfl) rfl hl.1 rfl (Nat.le_of_ble_eq_true rfl) dX5_reason_5 ⟨Nat.zero_le _, Nat.zero_le _⟩ hS (fun _ h => gA_book (hR 0 (by decide)) h) (fun H locs hB hk1 hz1 hS => ?_)
  have hP := cP_join0 hI (hR 0 (by decide)) hP hB hk1
  have hP : cP G a z H := hP
  refine r_opt (fun o1 => ?_) (fun jo1 o1 => ?_)
  · skip
    refine lv_astore_nN (lv' := [(2, .null), (0, .ref (a 329)), (1, .int p1)]) hx hb dX5_reason_8 rfl hl (by decide) rfl (fun ls hl => ?_)
    refine lv_aload_nN hx hb dX5_reason_9 rfl (lv_at hl 0 rfl) ?_
    refine lv_ifnonnullN hx hb dX5_reason_10 ?_
    refine lv_iconst (v := -1) hx hb dX5_reason_13 (by decide) ?_
    exact e_int S hr hlk rfl hK hS hP (show v_X5_reason z p1 = (-1 : Int32) from (oel_n o1).trans rfl).symm dX5_reason_14
  · have hjo1 : jo1 < 40 := billAt_lt o1
    refine lv_astore_n (lv' := [(2, .ref (a (47 * (z.1 0) + (jo1 + 7)))), (0, .ref (a 329)), (1, .int p1)]) hx hb dX5_reason_8 rfl hl (by decide) rfl (fun ls hl => ?_)
    refine lv_aload_n hx hb dX5_reason_9 rfl (lv_at hl 0 rfl) ?_
    refine lv_ifnonnull (tgt := 15) hx hb dX5_reason_10 (by decide) ?_
    refine lv_aload_n hx hb dX5_reason_15 rfl (lv_at hl 0 rfl) ?_
    refine lv_aload_n hx hb dX5_reason_16 rfl (lv_at hl 1 rfl) ?_
    refine g_get S hK hP (i := 329) (by omega) cC0 rfl inlX5 0 (by decide) k_12 (v := .ref (a (47 * (z.1 0)))) rfl dX5_reason_17 ?_
    have hB := cP_book (r := z.1 0) hP (hR 0 (by decide))
    refine g_get S hK hB (i := 0) (by omega) bC0 rfl inlX1 5 (by decide) k_68 (v := .int (z.2 (z.1 0) 0 5)) rfl dX5_reason_20 ?_
    refine lv_aload_n hx hb dX5_reason_23 rfl (lv_at hl 1 rfl) ?_
    refine g_get S hK hP (i := 329) (by omega) cC0 rfl inlX5 0 (by decide) k_12 (v := .ref (a (47 * (z.1 0)))) rfl dX5_reason_24 ?_
    have hB := cP_book (r := z.1 0) hP (hR 0 (by decide))
    refine g_get S hK hB (i := 0) (by omega) bC0 rfl inlX1 4 (by decide) k_71 (v := .ref (a (47 * (z.1 0) + 5))) rfl dX5_reason_27 ?_
    have hB := cP_book (r := z.1 0) hP (hR 0 (by decide))
    refine r_callI S hK hB (c_X3_reminderDays l G (fun t => a (47 * (z.1 0) + t)) (gI_book hI (hR 0 (by decide))) (z.2 (z.1 0)) ) (r_cw S k_141 k_138 k_139 k_140 k_35 q_X3_reminderDays ⟨Nat.le_of_ble_eq_true rfl, Nat.le_of_ble_eq_true rfl⟩ rfl rfl) (g_recv hK hB (i := 5) (by omega) bC5 rfl) rfl hl.1 rfl (Nat.le_of_ble_eq_true rfl) dX5_reason_30 ⟨Nat.zero_le _, Nat.zero_le _⟩ hS (fun _ h => gA_book (hR 0 (by decide)) h) (fun H locs hB hk1 hz1 hS => ?_)
    have hP := cP_join0 hI (hR 0 (by decide)) hP hB hk1
    have hP : cP G a z H := hP
    have hB := cP_book (r := z.1 0) hP (hR 0 (by decide))
    refine r_callI S hK hB (c_X0_whyNoReminder l G (fun t => a (47 * (z.1 0) + t)) (gI_book hI (hR 0 (by decide))) (z.2 (z.1 0)) jo1 (by omega) _ _ ) (r_cw S k_186 k_183 k_184 k_185 k_38 q_X0_whyNoReminder ⟨Nat.le_of_ble_eq_true rfl, Nat.le_of_ble_eq_true rfl⟩ rfl rfl) (g_recv hK hB (i := jo1 + 7) (by omega) bC7 rfl) rfl hl.1 rfl (Nat.le_of_ble_eq_true rfl) dX5_reason_33 ⟨Nat.zero_le _, Nat.zero_le _⟩ hS (fun _ h => gA_book (hR 0 (by decide)) h) (fun H locs hB hk1 hz1 hS => ?_)
    have hP := cP_join0 hI (hR 0 (by decide)) hP hB hk1
    have hP : cP G a z H := hP
    exact e_int S hr hlk rfl hK hS hP (show v_X5_reason z p1 = v_X0_whyNoReminder (z.2 (z.1 0)) jo1 (z.2 (z.1 0) 0 5) (v_X3_reminderDays (z.2 (z.1 0))) from (oel_s o1).trans rfl).symm dX5_reason_36

def v_X5_settles (z : CS) (p1 : Int32) : Int32 := if v_X5_isCustomer p1 = 0 then (-1 : Int32) else v_X1_leastToPayAll (z.2 (z.1 0)) p1
theorem q_X5_settles : yX5_settles.cls ≠ "java/lang/invoke/MethodHandle" ∧ yX5_settles.cls ≠ "java/lang/invoke/VarHandle" ∧ (parseMethodDescriptor yX5_settles.desc).map (fun d => d.parameters.length) = some 1 := ⟨by decide, by decide, by decide +kernel⟩
set_option maxHeartbeats 4000000 in
set_option maxRecDepth 100000 in
theorem c_X5_settles (l : Launch) (G : kG) (a : Nat → Nat) (hI : gI 334 a) (z : CS) (p1 : Int32) (hR : RI z.1) (hJ : RJ z.1) : Met l yX5_settles (Cond.code yX5_settles cX5_settles 2 (some .int) :: BIG) (rmK 3) (pcG G (cP G a z) [.ref (a 329), .int p1]) (qcI G (gA 334 a) (cP G a z) (v_X5_settles z p1)) 0 0 (gA 334 a) := by
  refine m_start (by decide) (Nat.le_of_ble_eq_true rfl) ?_
  intro p e s m args below meth c S hr hlk hnm hP hK ls hl
  have hx := S.1
  have hb := S.2.1
  have hown := S.2.2.2.1
  have hS : va_S (gA 334 a) s.heap s.heap [] := va_S.rf
  have hl : lv_has ls 2 [(0, .ref (a 329)), (1, .int p1)] := hl
  refine lv_iload_n hx hb dX5_settles_0 rfl (lv_at hl 1 rfl) ?_
  refine r_callS S hK hP (c_X5_isCustomer l G (cP G a z) (gA 334 a) _ ) (r_cs S k_218 k_216 k_217 k_2 q_X5_isCustomer ⟨Nat.le_of_ble_eq_true rfl, Nat.le_of_ble_eq_true rfl⟩ rfl rfl) rfl hl.1 rfl (Nat.le_of_ble_eq_true rfl) dX5_settles_1 ⟨Nat.zero_le _, Nat.zero_le _⟩ hS (fun _ h => h) (fun H locs hP _ _ hS => ?_)
  have hP : cP G a z H := hP
  refine lv_if_eq (tgt := 18) hx hb dX5_settles_4 (by decide) (fun c1 => ?_) (fun c1 => ?_)
  · skip
    refine lv_iconst (v := -1) hx hb dX5_settles_18 (by decide) ?_
    exact e_int S hr hlk rfl hK hS hP (show v_X5_settles z p1 = (-1 : Int32) from (if_pos c1).trans rfl).symm dX5_settles_19
  · skip
    refine lv_aload_n hx hb dX5_settles_7 rfl (lv_at hl 0 rfl) ?_
    refine g_get S hK hP (i := 329) (by omega) cC0 rfl inlX5 0 (by decide) k_12 (v := .ref (a (47 * (z.1 0)))) rfl dX5_settles_8 ?_
    refine lv_iload_n hx hb dX5_settles_11 rfl (lv_at hl 1 rfl) ?_
    have hB := cP_book (r := z.1 0) hP (hR 0 (by decide))
    refine r_callI S hK hB (c_X1_leastToPayAll l G (fun t => a (47 * (z.1 0) + t)) (gI_book hI (hR 0 (by decide))) (z.2 (z.1 0)) _ ) (r_cw S k_234 k_231 k_232 k_233 k_11 q_X1_leastToPayAll ⟨Nat.le_of_ble_eq_true rfl, Nat.le_of_ble_eq_true rfl⟩ rfl rfl) (g_recv hK hB (i := 0) (by omega) bC0 rfl) rfl hl.1 rfl (Nat.le_of_ble_eq_true rfl) dX5_settles_12 ⟨Nat.zero_le _, Nat.zero_le _⟩ hS (fun _ h => gA_book (hR 0 (by decide)) h) (fun H locs hB hk1 hz1 hS => ?_)
    have hP := cP_join0 hI (hR 0 (by decide)) hP hB hk1
    have hP : cP G a z H := hP
    refine lv_goto (tgt := 19) hx hb dX5_settles_15 (by decide) ?_
    exact e_int S hr hlk rfl hK hS hP (show v_X5_settles z p1 = v_X1_leastToPayAll (z.2 (z.1 0)) p1 from (if_neg c1).trans rfl).symm dX5_settles_19

def v_X5_nextReminder (z : CS) (p1 : Int32) : Int32 := oel (v_X1_billAt (z.2 (z.1 0)) p1) ((-1 : Int32)) (fun jo1 => if v_X0_awaitsReminder (z.2 (z.1 0)) jo1 = 0 then (-5 : Int32) else if (9999 : Int32) < if z.2 (z.1 0) 0 5 < v_X0_reminderDay (z.2 (z.1 0)) jo1 (v_X3_reminderDays (z.2 (z.1 0))) then v_X0_reminderDay (z.2 (z.1 0)) jo1 (v_X3_reminderDays (z.2 (z.1 0))) else z.2 (z.1 0) 0 5 then (-5 : Int32) else if z.2 (z.1 0) 0 5 < v_X0_reminderDay (z.2 (z.1 0)) jo1 (v_X3_reminderDays (z.2 (z.1 0))) then v_X0_reminderDay (z.2 (z.1 0)) jo1 (v_X3_reminderDays (z.2 (z.1 0))) else z.2 (z.1 0) 0 5)
theorem q_X5_nextReminder : yX5_nextReminder.cls ≠ "java/lang/invoke/MethodHandle" ∧ yX5_nextReminder.cls ≠ "java/lang/invoke/VarHandle" ∧ (parseMethodDescriptor yX5_nextReminder.desc).map (fun d => d.parameters.length) = some 1 := ⟨by decide, by decide, by decide +kernel⟩
set_option maxHeartbeats 4000000 in
set_option maxRecDepth 100000 in
theorem c_X5_nextReminder (l : Launch) (G : kG) (a : Nat → Nat) (hI : gI 334 a) (z : CS) (p1 : Int32) (hR : RI z.1) (hJ : RJ z.1) : Met l yX5_nextReminder (Cond.code yX5_nextReminder cX5_nextReminder 4 (some .int) :: BIG) (rmK 2) (pcG G (cP G a z) [.ref (a 329), .int p1]) (qcI G (gA 334 a) (cP G a z) (v_X5_nextReminder z p1)) 0 0 (gA 334 a) := by
  refine m_start (by decide) (Nat.le_of_ble_eq_true rfl) ?_
  intro p e s m args below meth c S hr hlk hnm hP hK ls hl
  have hx := S.1
  have hb := S.2.1
  have hown := S.2.2.2.1
  have hS : va_S (gA 334 a) s.heap s.heap [] := va_S.rf
  have hl : lv_has ls 4 [(0, .ref (a 329)), (1, .int p1)] := hl
  refine lv_aload_n hx hb dX5_nextReminder_0 rfl (lv_at hl 0 rfl) ?_
  refine g_get S hK hP (i := 329) (by omega) cC0 rfl inlX5 0 (by decide) k_12 (v := .ref (a (47 * (z.1 0)))) rfl dX5_nextReminder_1 ?_
  refine lv_iload_n hx hb dX5_nextReminder_4 rfl (lv_at hl 1 rfl) ?_
  have hB := cP_book (r := z.1 0) hP (hR 0 (by decide))
  refine r_callQ S hK hB (c_X1_billAt l G (fun t => a (47 * (z.1 0) + t)) (gI_book hI (hR 0 (by decide))) (z.2 (z.1 0)) _ ) (r_cw S k_168 k_165 k_166 k_167 k_11 q_X1_billAt ⟨Nat.le_of_ble_eq_true rfl, Nat.le_of_ble_eq_true rfl⟩ rfl rfl) (g_recv hK hB (i := 0) (by omega) bC0 rfl) rfl hl.1 rfl (Nat.le_of_ble_eq_true rfl) dX5_nextReminder_5 ⟨Nat.zero_le _, Nat.zero_le _⟩ hS (fun _ h => gA_book (hR 0 (by decide)) h) (fun H locs hB hk1 hz1 hS => ?_)
  have hP := cP_join0 hI (hR 0 (by decide)) hP hB hk1
  have hP : cP G a z H := hP
  refine r_opt (fun o1 => ?_) (fun jo1 o1 => ?_)
  · skip
    refine lv_astore_nN (lv' := [(2, .null), (0, .ref (a 329)), (1, .int p1)]) hx hb dX5_nextReminder_8 rfl hl (by decide) rfl (fun ls hl => ?_)
    refine lv_aload_nN hx hb dX5_nextReminder_9 rfl (lv_at hl 0 rfl) ?_
    refine lv_ifnonnullN hx hb dX5_nextReminder_10 ?_
    refine lv_iconst (v := -1) hx hb dX5_nextReminder_13 (by decide) ?_
    exact e_int S hr hlk rfl hK hS hP (show v_X5_nextReminder z p1 = (-1 : Int32) from (oel_n o1).trans rfl).symm dX5_nextReminder_14
  · have hjo1 : jo1 < 40 := billAt_lt o1
    refine lv_astore_n (lv' := [(2, .ref (a (47 * (z.1 0) + (jo1 + 7)))), (0, .ref (a 329)), (1, .int p1)]) hx hb dX5_nextReminder_8 rfl hl (by decide) rfl (fun ls hl => ?_)
    refine lv_aload_n hx hb dX5_nextReminder_9 rfl (lv_at hl 0 rfl) ?_
    refine lv_ifnonnull (tgt := 15) hx hb dX5_nextReminder_10 (by decide) ?_
    refine lv_aload_n hx hb dX5_nextReminder_15 rfl (lv_at hl 0 rfl) ?_
    have hB := cP_book (r := z.1 0) hP (hR 0 (by decide))
    refine r_callI S hK hB (c_X0_awaitsReminder l G (fun t => a (47 * (z.1 0) + t)) (gI_book hI (hR 0 (by decide))) (z.2 (z.1 0)) jo1 (by omega) ) (r_cw S k_206 k_203 k_204 k_205 k_38 q_X0_awaitsReminder ⟨Nat.le_of_ble_eq_true rfl, Nat.le_of_ble_eq_true rfl⟩ rfl rfl) (g_recv hK hB (i := jo1 + 7) (by omega) bC7 rfl) rfl hl.1 rfl (Nat.le_of_ble_eq_true rfl) dX5_nextReminder_16 ⟨Nat.zero_le _, Nat.zero_le _⟩ hS (fun _ h => gA_book (hR 0 (by decide)) h) (fun H locs hB hk1 hz1 hS => ?_)
    have hP := cP_join0 hI (hR 0 (by decide)) hP hB hk1
    have hP : cP G a z H := hP
    refine lv_if_ne (tgt := 25) hx hb dX5_nextReminder_19 (by decide) (fun c2 => ?_) (fun c2 => ?_)
    · skip
      refine lv_aload_n hx hb dX5_nextReminder_25 rfl (lv_at hl 1 rfl) ?_
      refine g_get S hK hP (i := 329) (by omega) cC0 rfl inlX5 0 (by decide) k_12 (v := .ref (a (47 * (z.1 0)))) rfl dX5_nextReminder_26 ?_
      have hB := cP_book (r := z.1 0) hP (hR 0 (by decide))
      refine g_get S hK hB (i := 0) (by omega) bC0 rfl inlX1 5 (by decide) k_68 (v := .int (z.2 (z.1 0) 0 5)) rfl dX5_nextReminder_29 ?_
      refine lv_aload_n hx hb dX5_nextReminder_32 rfl (lv_at hl 0 rfl) ?_
      refine lv_aload_n hx hb dX5_nextReminder_33 rfl (lv_at hl 1 rfl) ?_
      refine g_get S hK hP (i := 329) (by omega) cC0 rfl inlX5 0 (by decide) k_12 (v := .ref (a (47 * (z.1 0)))) rfl dX5_nextReminder_34 ?_
      have hB := cP_book (r := z.1 0) hP (hR 0 (by decide))
      refine g_get S hK hB (i := 0) (by omega) bC0 rfl inlX1 4 (by decide) k_71 (v := .ref (a (47 * (z.1 0) + 5))) rfl dX5_nextReminder_37 ?_
      have hB := cP_book (r := z.1 0) hP (hR 0 (by decide))
      refine r_callI S hK hB (c_X3_reminderDays l G (fun t => a (47 * (z.1 0) + t)) (gI_book hI (hR 0 (by decide))) (z.2 (z.1 0)) ) (r_cw S k_141 k_138 k_139 k_140 k_35 q_X3_reminderDays ⟨Nat.le_of_ble_eq_true rfl, Nat.le_of_ble_eq_true rfl⟩ rfl rfl) (g_recv hK hB (i := 5) (by omega) bC5 rfl) rfl hl.1 rfl (Nat.le_of_ble_eq_true rfl) dX5_nextReminder_40 ⟨Nat.zero_le _, Nat.zero_le _⟩ hS (fun _ h => gA_book (hR 0 (by decide)) h) (fun H locs hB hk1 hz1 hS => ?_)
      have hP := cP_join0 hI (hR 0 (by decide)) hP hB hk1
      have hP : cP G a z H := hP
      have hB := cP_book (r := z.1 0) hP (hR 0 (by decide))
      refine r_callI S hK hB (c_X0_reminderDay l G (fun t => a (47 * (z.1 0) + t)) (gI_book hI (hR 0 (by decide))) (z.2 (z.1 0)) jo1 (by omega) _ ) (r_cw S k_192 k_207 k_190 k_191 k_38 q_X0_reminderDay ⟨Nat.le_of_ble_eq_true rfl, Nat.le_of_ble_eq_true rfl⟩ rfl rfl) (g_recv hK hB (i := jo1 + 7) (by omega) bC7 rfl) rfl hl.1 rfl (Nat.le_of_ble_eq_true rfl) dX5_nextReminder_43 ⟨Nat.zero_le _, Nat.zero_le _⟩ hS (fun _ h => gA_book (hR 0 (by decide)) h) (fun H locs hB hk1 hz1 hS => ?_)
      have hP := cP_join0 hI (hR 0 (by decide)) hP hB hk1
      have hP : cP G a z H := hP
      refine va_mmax hx hb (by rw [S.2.2.1]; exact hl.1.symm) hown (S.2.2.2.2 _ k_199) (S.2.2.2.2 _ k_200) (S.2.2.2.2 _ k_201) (S.2.2.2.2 _ k_202) (Nat.le_of_ble_eq_true rfl) (Nat.le_of_ble_eq_true rfl) (Nat.zero_le _) (Nat.zero_le _) dX5_nextReminder_46 ?_
      refine lv_istore_n (lv' := [(3, .int (if z.2 (z.1 0) 0 5 < v_X0_reminderDay (z.2 (z.1 0)) jo1 (v_X3_reminderDays (z.2 (z.1 0))) then v_X0_reminderDay (z.2 (z.1 0)) jo1 (v_X3_reminderDays (z.2 (z.1 0))) else z.2 (z.1 0) 0 5)), (2, .ref (a (47 * (z.1 0) + (jo1 + 7)))), (0, .ref (a 329)), (1, .int p1)]) hx hb dX5_nextReminder_49 rfl hl (by decide) rfl (fun ls hl => ?_)
      refine lv_iload_n hx hb dX5_nextReminder_50 rfl (lv_at hl 0 rfl) ?_
      refine lv_sipush (v := 9999) hx hb dX5_nextReminder_51 (by decide) ?_
      refine lv_icmp_gt (tgt := 61) hx hb dX5_nextReminder_54 (by decide) (fun c3 => ?_) (fun c3 => ?_)
      · skip
        refine lv_bipush (v := -5) hx hb dX5_nextReminder_61 (by decide) ?_
        exact e_int S hr hlk rfl hK hS hP (show v_X5_nextReminder z p1 = (-5 : Int32) from (oel_s o1).trans ((if_neg c2).trans ((if_pos c3).trans rfl))).symm dX5_nextReminder_63
      · skip
        refine lv_iload_n hx hb dX5_nextReminder_57 rfl (lv_at hl 0 rfl) ?_
        refine lv_goto (tgt := 63) hx hb dX5_nextReminder_58 (by decide) ?_
        exact e_int S hr hlk rfl hK hS hP (show v_X5_nextReminder z p1 = if z.2 (z.1 0) 0 5 < v_X0_reminderDay (z.2 (z.1 0)) jo1 (v_X3_reminderDays (z.2 (z.1 0))) then v_X0_reminderDay (z.2 (z.1 0)) jo1 (v_X3_reminderDays (z.2 (z.1 0))) else z.2 (z.1 0) 0 5 from (oel_s o1).trans ((if_neg c2).trans ((if_neg c3).trans rfl))).symm dX5_nextReminder_63
    · skip
      refine lv_bipush (v := -5) hx hb dX5_nextReminder_22 (by decide) ?_
      exact e_int S hr hlk rfl hK hS hP (show v_X5_nextReminder z p1 = (-5 : Int32) from (oel_s o1).trans ((if_pos c2).trans rfl)).symm dX5_nextReminder_24

def v_X5_count (z : CS) (p1 : Int32) : Int32 := if p1 = 0 then (z.2 (z.1 0) 0 5) else if p1 = 1 then (v_X1_countBills (z.2 (z.1 0)) (-9 : Int32) (-9 : Int32)) else if p1 = 2 then (v_X1_countBills (z.2 (z.1 0)) (-9 : Int32) (0 : Int32)) else if p1 = 3 then (v_X1_countBills (z.2 (z.1 0)) (-9 : Int32) (1 : Int32)) else if p1 = 4 then (v_X1_countBills (z.2 (z.1 0)) (-9 : Int32) (2 : Int32)) else if p1 = 5 then (v_X1_countOverdue (z.2 (z.1 0))) else if p1 = 6 then (v_X1_owedOn (z.2 (z.1 0)) (-9 : Int32) (0 : Int32)) else if p1 = 7 then (v_X1_owedOn (z.2 (z.1 0)) (-9 : Int32) (2 : Int32)) else if p1 = 8 then (v_X1_allCredit (z.2 (z.1 0))) else if p1 = 9 then (((v_X1_paidOn (z.2 (z.1 0)) (-9 : Int32)) + (v_X1_allCredit (z.2 (z.1 0)))) + (z.2 (z.1 0) 0 7)) else if p1 = 10 then (z.2 (z.1 0) 0 7) else if p1 = 11 then (v_X1_allDiscounts (z.2 (z.1 0))) else if p1 = 12 then (v_X1_allFees (z.2 (z.1 0))) else if p1 = 13 then (v_X1_allReminders (z.2 (z.1 0))) else if p1 = 14 then (z.2 (z.1 0) 0 6) else if p1 = 15 then (v_X3_discountDays (z.2 (z.1 0))) else if p1 = 16 then (v_X3_discountPercent (z.2 (z.1 0))) else if p1 = 17 then (v_X3_reminderDays (z.2 (z.1 0))) else if p1 = 18 then (v_X3_reminderFee (z.2 (z.1 0))) else if p1 = 19 then (v_X3_taxWay (z.2 (z.1 0))) else if p1 = 20 then (z.2 7 1 1) else if p1 = 21 then (z.2 8 0 1) else (-2 : Int32)
theorem q_X5_count : yX5_count.cls ≠ "java/lang/invoke/MethodHandle" ∧ yX5_count.cls ≠ "java/lang/invoke/VarHandle" ∧ (parseMethodDescriptor yX5_count.desc).map (fun d => d.parameters.length) = some 1 := ⟨by decide, by decide, by decide +kernel⟩
set_option maxHeartbeats 4000000 in
set_option maxRecDepth 100000 in
theorem c_X5_count (l : Launch) (G : kG) (a : Nat → Nat) (hI : gI 334 a) (z : CS) (p1 : Int32) (hR : RI z.1) (hJ : RJ z.1) : Met l yX5_count (Cond.code yX5_count cX5_count 2 (some .int) :: BIG) (rmK 2) (pcG G (cP G a z) [.ref (a 329), .int p1]) (qcI G (gA 334 a) (cP G a z) (v_X5_count z p1)) 0 0 (gA 334 a) := by
  refine m_start (by decide) (Nat.le_of_ble_eq_true rfl) ?_
  intro p e s m args below meth c S hr hlk hnm hP hK ls hl
  have hx := S.1
  have hb := S.2.1
  have hown := S.2.2.2.1
  have hS : va_S (gA 334 a) s.heap s.heap [] := va_S.rf
  have hl : lv_has ls 2 [(0, .ref (a 329)), (1, .int p1)] := hl
  refine lv_iload_n hx hb dX5_count_0 rfl (lv_at hl 1 rfl) ?_
  refine (Classical.em (p1 = 0)).elim (fun c1 => ?_) (fun c1 => ?_)
  · refine lv_tableIn (tgt := 104)  hx hb dX5_count_1 (by rw [c1]; decide) (by rw [c1]; decide) (by rw [c1]; rfl) (by decide) ?_
    refine lv_aload_n hx hb dX5_count_104 rfl (lv_at hl 0 rfl) ?_
    refine g_get S hK hP (i := 329) (by omega) cC0 rfl inlX5 0 (by decide) k_12 (v := .ref (a (47 * (z.1 0)))) rfl dX5_count_105 ?_
    have hB := cP_book (r := z.1 0) hP (hR 0 (by decide))
    refine g_get S hK hB (i := 0) (by omega) bC0 rfl inlX1 5 (by decide) k_68 (v := .int (z.2 (z.1 0) 0 5)) rfl dX5_count_108 ?_
    exact e_int S hr hlk rfl hK hS hP (show v_X5_count z p1 = z.2 (z.1 0) 0 5 from (if_pos c1).trans rfl).symm dX5_count_111
  refine (Classical.em (p1 = 1)).elim (fun c2 => ?_) (fun c2 => ?_)
  · refine lv_tableIn (tgt := 112)  hx hb dX5_count_1 (by rw [c2]; decide) (by rw [c2]; decide) (by rw [c2]; rfl) (by decide) ?_
    refine lv_aload_n hx hb dX5_count_112 rfl (lv_at hl 0 rfl) ?_
    refine g_get S hK hP (i := 329) (by omega) cC0 rfl inlX5 0 (by decide) k_12 (v := .ref (a (47 * (z.1 0)))) rfl dX5_count_113 ?_
    refine lv_bipush (v := -9) hx hb dX5_count_116 (by decide) ?_
    refine lv_bipush (v := -9) hx hb dX5_count_118 (by decide) ?_
    have hB := cP_book (r := z.1 0) hP (hR 0 (by decide))
    refine r_callI S hK hB (c_X1_countBills l G (fun t => a (47 * (z.1 0) + t)) (gI_book hI (hR 0 (by decide))) (z.2 (z.1 0)) _ _ ) (r_cw S k_77 k_74 k_75 k_76 k_11 q_X1_countBills ⟨Nat.le_of_ble_eq_true rfl, Nat.le_of_ble_eq_true rfl⟩ rfl rfl) (g_recv hK hB (i := 0) (by omega) bC0 rfl) rfl hl.1 rfl (Nat.le_of_ble_eq_true rfl) dX5_count_120 ⟨Nat.zero_le _, Nat.zero_le _⟩ hS (fun _ h => gA_book (hR 0 (by decide)) h) (fun H locs hB hk1 hz1 hS => ?_)
    have hP := cP_join0 hI (hR 0 (by decide)) hP hB hk1
    have hP : cP G a z H := hP
    exact e_int S hr hlk rfl hK hS hP (show v_X5_count z p1 = v_X1_countBills (z.2 (z.1 0)) (-9 : Int32) (-9 : Int32) from (if_neg c1).trans ((if_pos c2).trans rfl)).symm dX5_count_123
  refine (Classical.em (p1 = 2)).elim (fun c3 => ?_) (fun c3 => ?_)
  · refine lv_tableIn (tgt := 124)  hx hb dX5_count_1 (by rw [c3]; decide) (by rw [c3]; decide) (by rw [c3]; rfl) (by decide) ?_
    refine lv_aload_n hx hb dX5_count_124 rfl (lv_at hl 0 rfl) ?_
    refine g_get S hK hP (i := 329) (by omega) cC0 rfl inlX5 0 (by decide) k_12 (v := .ref (a (47 * (z.1 0)))) rfl dX5_count_125 ?_
    refine lv_bipush (v := -9) hx hb dX5_count_128 (by decide) ?_
    refine lv_iconst (v := 0) hx hb dX5_count_130 (by decide) ?_
    have hB := cP_book (r := z.1 0) hP (hR 0 (by decide))
    refine r_callI S hK hB (c_X1_countBills l G (fun t => a (47 * (z.1 0) + t)) (gI_book hI (hR 0 (by decide))) (z.2 (z.1 0)) _ _ ) (r_cw S k_77 k_74 k_75 k_76 k_11 q_X1_countBills ⟨Nat.le_of_ble_eq_true rfl, Nat.le_of_ble_eq_true rfl⟩ rfl rfl) (g_recv hK hB (i := 0) (by omega) bC0 rfl) rfl hl.1 rfl (Nat.le_of_ble_eq_true rfl) dX5_count_131 ⟨Nat.zero_le _, Nat.zero_le _⟩ hS (fun _ h => gA_book (hR 0 (by decide)) h) (fun H locs hB hk1 hz1 hS => ?_)
    have hP := cP_join0 hI (hR 0 (by decide)) hP hB hk1
    have hP : cP G a z H := hP
    exact e_int S hr hlk rfl hK hS hP (show v_X5_count z p1 = v_X1_countBills (z.2 (z.1 0)) (-9 : Int32) (0 : Int32) from (if_neg c1).trans ((if_neg c2).trans ((if_pos c3).trans rfl))).symm dX5_count_134
  refine (Classical.em (p1 = 3)).elim (fun c4 => ?_) (fun c4 => ?_)
  · refine lv_tableIn (tgt := 135)  hx hb dX5_count_1 (by rw [c4]; decide) (by rw [c4]; decide) (by rw [c4]; rfl) (by decide) ?_
    refine lv_aload_n hx hb dX5_count_135 rfl (lv_at hl 0 rfl) ?_
    refine g_get S hK hP (i := 329) (by omega) cC0 rfl inlX5 0 (by decide) k_12 (v := .ref (a (47 * (z.1 0)))) rfl dX5_count_136 ?_
    refine lv_bipush (v := -9) hx hb dX5_count_139 (by decide) ?_
    refine lv_iconst (v := 1) hx hb dX5_count_141 (by decide) ?_
    have hB := cP_book (r := z.1 0) hP (hR 0 (by decide))
    refine r_callI S hK hB (c_X1_countBills l G (fun t => a (47 * (z.1 0) + t)) (gI_book hI (hR 0 (by decide))) (z.2 (z.1 0)) _ _ ) (r_cw S k_77 k_74 k_75 k_76 k_11 q_X1_countBills ⟨Nat.le_of_ble_eq_true rfl, Nat.le_of_ble_eq_true rfl⟩ rfl rfl) (g_recv hK hB (i := 0) (by omega) bC0 rfl) rfl hl.1 rfl (Nat.le_of_ble_eq_true rfl) dX5_count_142 ⟨Nat.zero_le _, Nat.zero_le _⟩ hS (fun _ h => gA_book (hR 0 (by decide)) h) (fun H locs hB hk1 hz1 hS => ?_)
    have hP := cP_join0 hI (hR 0 (by decide)) hP hB hk1
    have hP : cP G a z H := hP
    exact e_int S hr hlk rfl hK hS hP (show v_X5_count z p1 = v_X1_countBills (z.2 (z.1 0)) (-9 : Int32) (1 : Int32) from (if_neg c1).trans ((if_neg c2).trans ((if_neg c3).trans ((if_pos c4).trans rfl)))).symm dX5_count_145
  refine (Classical.em (p1 = 4)).elim (fun c5 => ?_) (fun c5 => ?_)
  · refine lv_tableIn (tgt := 146)  hx hb dX5_count_1 (by rw [c5]; decide) (by rw [c5]; decide) (by rw [c5]; rfl) (by decide) ?_
    refine lv_aload_n hx hb dX5_count_146 rfl (lv_at hl 0 rfl) ?_
    refine g_get S hK hP (i := 329) (by omega) cC0 rfl inlX5 0 (by decide) k_12 (v := .ref (a (47 * (z.1 0)))) rfl dX5_count_147 ?_
    refine lv_bipush (v := -9) hx hb dX5_count_150 (by decide) ?_
    refine lv_iconst (v := 2) hx hb dX5_count_152 (by decide) ?_
    have hB := cP_book (r := z.1 0) hP (hR 0 (by decide))
    refine r_callI S hK hB (c_X1_countBills l G (fun t => a (47 * (z.1 0) + t)) (gI_book hI (hR 0 (by decide))) (z.2 (z.1 0)) _ _ ) (r_cw S k_77 k_74 k_75 k_76 k_11 q_X1_countBills ⟨Nat.le_of_ble_eq_true rfl, Nat.le_of_ble_eq_true rfl⟩ rfl rfl) (g_recv hK hB (i := 0) (by omega) bC0 rfl) rfl hl.1 rfl (Nat.le_of_ble_eq_true rfl) dX5_count_153 ⟨Nat.zero_le _, Nat.zero_le _⟩ hS (fun _ h => gA_book (hR 0 (by decide)) h) (fun H locs hB hk1 hz1 hS => ?_)
    have hP := cP_join0 hI (hR 0 (by decide)) hP hB hk1
    have hP : cP G a z H := hP
    exact e_int S hr hlk rfl hK hS hP (show v_X5_count z p1 = v_X1_countBills (z.2 (z.1 0)) (-9 : Int32) (2 : Int32) from (if_neg c1).trans ((if_neg c2).trans ((if_neg c3).trans ((if_neg c4).trans ((if_pos c5).trans rfl))))).symm dX5_count_156
  refine (Classical.em (p1 = 5)).elim (fun c6 => ?_) (fun c6 => ?_)
  · refine lv_tableIn (tgt := 157)  hx hb dX5_count_1 (by rw [c6]; decide) (by rw [c6]; decide) (by rw [c6]; rfl) (by decide) ?_
    refine lv_aload_n hx hb dX5_count_157 rfl (lv_at hl 0 rfl) ?_
    refine g_get S hK hP (i := 329) (by omega) cC0 rfl inlX5 0 (by decide) k_12 (v := .ref (a (47 * (z.1 0)))) rfl dX5_count_158 ?_
    have hB := cP_book (r := z.1 0) hP (hR 0 (by decide))
    refine r_callI S hK hB (c_X1_countOverdue l G (fun t => a (47 * (z.1 0) + t)) (gI_book hI (hR 0 (by decide))) (z.2 (z.1 0)) ) (r_cw S k_86 k_83 k_84 k_85 k_11 q_X1_countOverdue ⟨Nat.le_of_ble_eq_true rfl, Nat.le_of_ble_eq_true rfl⟩ rfl rfl) (g_recv hK hB (i := 0) (by omega) bC0 rfl) rfl hl.1 rfl (Nat.le_of_ble_eq_true rfl) dX5_count_161 ⟨Nat.zero_le _, Nat.zero_le _⟩ hS (fun _ h => gA_book (hR 0 (by decide)) h) (fun H locs hB hk1 hz1 hS => ?_)
    have hP := cP_join0 hI (hR 0 (by decide)) hP hB hk1
    have hP : cP G a z H := hP
    exact e_int S hr hlk rfl hK hS hP (show v_X5_count z p1 = v_X1_countOverdue (z.2 (z.1 0)) from (if_neg c1).trans ((if_neg c2).trans ((if_neg c3).trans ((if_neg c4).trans ((if_neg c5).trans ((if_pos c6).trans rfl)))))).symm dX5_count_164
  refine (Classical.em (p1 = 6)).elim (fun c7 => ?_) (fun c7 => ?_)
  · refine lv_tableIn (tgt := 165)  hx hb dX5_count_1 (by rw [c7]; decide) (by rw [c7]; decide) (by rw [c7]; rfl) (by decide) ?_
    refine lv_aload_n hx hb dX5_count_165 rfl (lv_at hl 0 rfl) ?_
    refine g_get S hK hP (i := 329) (by omega) cC0 rfl inlX5 0 (by decide) k_12 (v := .ref (a (47 * (z.1 0)))) rfl dX5_count_166 ?_
    refine lv_bipush (v := -9) hx hb dX5_count_169 (by decide) ?_
    refine lv_iconst (v := 0) hx hb dX5_count_171 (by decide) ?_
    have hB := cP_book (r := z.1 0) hP (hR 0 (by decide))
    refine r_callI S hK hB (c_X1_owedOn l G (fun t => a (47 * (z.1 0) + t)) (gI_book hI (hR 0 (by decide))) (z.2 (z.1 0)) _ _ ) (r_cw S k_97 k_94 k_95 k_96 k_11 q_X1_owedOn ⟨Nat.le_of_ble_eq_true rfl, Nat.le_of_ble_eq_true rfl⟩ rfl rfl) (g_recv hK hB (i := 0) (by omega) bC0 rfl) rfl hl.1 rfl (Nat.le_of_ble_eq_true rfl) dX5_count_172 ⟨Nat.zero_le _, Nat.zero_le _⟩ hS (fun _ h => gA_book (hR 0 (by decide)) h) (fun H locs hB hk1 hz1 hS => ?_)
    have hP := cP_join0 hI (hR 0 (by decide)) hP hB hk1
    have hP : cP G a z H := hP
    exact e_int S hr hlk rfl hK hS hP (show v_X5_count z p1 = v_X1_owedOn (z.2 (z.1 0)) (-9 : Int32) (0 : Int32) from (if_neg c1).trans ((if_neg c2).trans ((if_neg c3).trans ((if_neg c4).trans ((if_neg c5).trans ((if_neg c6).trans ((if_pos c7).trans rfl))))))).symm dX5_count_175
  refine (Classical.em (p1 = 7)).elim (fun c8 => ?_) (fun c8 => ?_)
  · refine lv_tableIn (tgt := 176)  hx hb dX5_count_1 (by rw [c8]; decide) (by rw [c8]; decide) (by rw [c8]; rfl) (by decide) ?_
    refine lv_aload_n hx hb dX5_count_176 rfl (lv_at hl 0 rfl) ?_
    refine g_get S hK hP (i := 329) (by omega) cC0 rfl inlX5 0 (by decide) k_12 (v := .ref (a (47 * (z.1 0)))) rfl dX5_count_177 ?_
    refine lv_bipush (v := -9) hx hb dX5_count_180 (by decide) ?_
    refine lv_iconst (v := 2) hx hb dX5_count_182 (by decide) ?_
    have hB := cP_book (r := z.1 0) hP (hR 0 (by decide))
    refine r_callI S hK hB (c_X1_owedOn l G (fun t => a (47 * (z.1 0) + t)) (gI_book hI (hR 0 (by decide))) (z.2 (z.1 0)) _ _ ) (r_cw S k_97 k_94 k_95 k_96 k_11 q_X1_owedOn ⟨Nat.le_of_ble_eq_true rfl, Nat.le_of_ble_eq_true rfl⟩ rfl rfl) (g_recv hK hB (i := 0) (by omega) bC0 rfl) rfl hl.1 rfl (Nat.le_of_ble_eq_true rfl) dX5_count_183 ⟨Nat.zero_le _, Nat.zero_le _⟩ hS (fun _ h => gA_book (hR 0 (by decide)) h) (fun H locs hB hk1 hz1 hS => ?_)
    have hP := cP_join0 hI (hR 0 (by decide)) hP hB hk1
    have hP : cP G a z H := hP
    exact e_int S hr hlk rfl hK hS hP (show v_X5_count z p1 = v_X1_owedOn (z.2 (z.1 0)) (-9 : Int32) (2 : Int32) from (if_neg c1).trans ((if_neg c2).trans ((if_neg c3).trans ((if_neg c4).trans ((if_neg c5).trans ((if_neg c6).trans ((if_neg c7).trans ((if_pos c8).trans rfl)))))))).symm dX5_count_186
  refine (Classical.em (p1 = 8)).elim (fun c9 => ?_) (fun c9 => ?_)
  · refine lv_tableIn (tgt := 187)  hx hb dX5_count_1 (by rw [c9]; decide) (by rw [c9]; decide) (by rw [c9]; rfl) (by decide) ?_
    refine lv_aload_n hx hb dX5_count_187 rfl (lv_at hl 0 rfl) ?_
    refine g_get S hK hP (i := 329) (by omega) cC0 rfl inlX5 0 (by decide) k_12 (v := .ref (a (47 * (z.1 0)))) rfl dX5_count_188 ?_
    have hB := cP_book (r := z.1 0) hP (hR 0 (by decide))
    refine r_callI S hK hB (c_X1_allCredit l G (fun t => a (47 * (z.1 0) + t)) (gI_book hI (hR 0 (by decide))) (z.2 (z.1 0)) ) (r_cw S k_109 k_106 k_107 k_108 k_11 q_X1_allCredit ⟨Nat.le_of_ble_eq_true rfl, Nat.le_of_ble_eq_true rfl⟩ rfl rfl) (g_recv hK hB (i := 0) (by omega) bC0 rfl) rfl hl.1 rfl (Nat.le_of_ble_eq_true rfl) dX5_count_191 ⟨Nat.zero_le _, Nat.zero_le _⟩ hS (fun _ h => gA_book (hR 0 (by decide)) h) (fun H locs hB hk1 hz1 hS => ?_)
    have hP := cP_join0 hI (hR 0 (by decide)) hP hB hk1
    have hP : cP G a z H := hP
    exact e_int S hr hlk rfl hK hS hP (show v_X5_count z p1 = v_X1_allCredit (z.2 (z.1 0)) from (if_neg c1).trans ((if_neg c2).trans ((if_neg c3).trans ((if_neg c4).trans ((if_neg c5).trans ((if_neg c6).trans ((if_neg c7).trans ((if_neg c8).trans ((if_pos c9).trans rfl))))))))).symm dX5_count_194
  refine (Classical.em (p1 = 9)).elim (fun c10 => ?_) (fun c10 => ?_)
  · refine lv_tableIn (tgt := 195)  hx hb dX5_count_1 (by rw [c10]; decide) (by rw [c10]; decide) (by rw [c10]; rfl) (by decide) ?_
    refine lv_aload_n hx hb dX5_count_195 rfl (lv_at hl 0 rfl) ?_
    refine g_get S hK hP (i := 329) (by omega) cC0 rfl inlX5 0 (by decide) k_12 (v := .ref (a (47 * (z.1 0)))) rfl dX5_count_196 ?_
    refine lv_bipush (v := -9) hx hb dX5_count_199 (by decide) ?_
    have hB := cP_book (r := z.1 0) hP (hR 0 (by decide))
    refine r_callI S hK hB (c_X1_paidOn l G (fun t => a (47 * (z.1 0) + t)) (gI_book hI (hR 0 (by decide))) (z.2 (z.1 0)) _ ) (r_cw S k_113 k_110 k_111 k_112 k_11 q_X1_paidOn ⟨Nat.le_of_ble_eq_true rfl, Nat.le_of_ble_eq_true rfl⟩ rfl rfl) (g_recv hK hB (i := 0) (by omega) bC0 rfl) rfl hl.1 rfl (Nat.le_of_ble_eq_true rfl) dX5_count_201 ⟨Nat.zero_le _, Nat.zero_le _⟩ hS (fun _ h => gA_book (hR 0 (by decide)) h) (fun H locs hB hk1 hz1 hS => ?_)
    have hP := cP_join0 hI (hR 0 (by decide)) hP hB hk1
    have hP : cP G a z H := hP
    refine lv_aload_n hx hb dX5_count_204 rfl (lv_at hl 0 rfl) ?_
    refine g_get S hK hP (i := 329) (by omega) cC0 rfl inlX5 0 (by decide) k_12 (v := .ref (a (47 * (z.1 0)))) rfl dX5_count_205 ?_
    have hB := cP_book (r := z.1 0) hP (hR 0 (by decide))
    refine r_callI S hK hB (c_X1_allCredit l G (fun t => a (47 * (z.1 0) + t)) (gI_book hI (hR 0 (by decide))) (z.2 (z.1 0)) ) (r_cw S k_109 k_106 k_107 k_108 k_11 q_X1_allCredit ⟨Nat.le_of_ble_eq_true rfl, Nat.le_of_ble_eq_true rfl⟩ rfl rfl) (g_recv hK hB (i := 0) (by omega) bC0 rfl) rfl hl.1 rfl (Nat.le_of_ble_eq_true rfl) dX5_count_208 ⟨Nat.zero_le _, Nat.zero_le _⟩ hS (fun _ h => gA_book (hR 0 (by decide)) h) (fun H locs hB hk1 hz1 hS => ?_)
    have hP := cP_join0 hI (hR 0 (by decide)) hP hB hk1
    have hP : cP G a z H := hP
    refine lv_iadd hx hb dX5_count_211 ?_
    refine lv_aload_n hx hb dX5_count_212 rfl (lv_at hl 0 rfl) ?_
    refine g_get S hK hP (i := 329) (by omega) cC0 rfl inlX5 0 (by decide) k_12 (v := .ref (a (47 * (z.1 0)))) rfl dX5_count_213 ?_
    have hB := cP_book (r := z.1 0) hP (hR 0 (by decide))
    refine g_get S hK hB (i := 0) (by omega) bC0 rfl inlX1 7 (by decide) k_69 (v := .int (z.2 (z.1 0) 0 7)) rfl dX5_count_216 ?_
    refine lv_iadd hx hb dX5_count_219 ?_
    exact e_int S hr hlk rfl hK hS hP (show v_X5_count z p1 = ((v_X1_paidOn (z.2 (z.1 0)) (-9 : Int32)) + (v_X1_allCredit (z.2 (z.1 0)))) + (z.2 (z.1 0) 0 7) from (if_neg c1).trans ((if_neg c2).trans ((if_neg c3).trans ((if_neg c4).trans ((if_neg c5).trans ((if_neg c6).trans ((if_neg c7).trans ((if_neg c8).trans ((if_neg c9).trans ((if_pos c10).trans rfl)))))))))).symm dX5_count_220
  refine (Classical.em (p1 = 10)).elim (fun c11 => ?_) (fun c11 => ?_)
  · refine lv_tableIn (tgt := 221)  hx hb dX5_count_1 (by rw [c11]; decide) (by rw [c11]; decide) (by rw [c11]; rfl) (by decide) ?_
    refine lv_aload_n hx hb dX5_count_221 rfl (lv_at hl 0 rfl) ?_
    refine g_get S hK hP (i := 329) (by omega) cC0 rfl inlX5 0 (by decide) k_12 (v := .ref (a (47 * (z.1 0)))) rfl dX5_count_222 ?_
    have hB := cP_book (r := z.1 0) hP (hR 0 (by decide))
    refine g_get S hK hB (i := 0) (by omega) bC0 rfl inlX1 7 (by decide) k_69 (v := .int (z.2 (z.1 0) 0 7)) rfl dX5_count_225 ?_
    exact e_int S hr hlk rfl hK hS hP (show v_X5_count z p1 = z.2 (z.1 0) 0 7 from (if_neg c1).trans ((if_neg c2).trans ((if_neg c3).trans ((if_neg c4).trans ((if_neg c5).trans ((if_neg c6).trans ((if_neg c7).trans ((if_neg c8).trans ((if_neg c9).trans ((if_neg c10).trans ((if_pos c11).trans rfl))))))))))).symm dX5_count_228
  refine (Classical.em (p1 = 11)).elim (fun c12 => ?_) (fun c12 => ?_)
  · refine lv_tableIn (tgt := 229)  hx hb dX5_count_1 (by rw [c12]; decide) (by rw [c12]; decide) (by rw [c12]; rfl) (by decide) ?_
    refine lv_aload_n hx hb dX5_count_229 rfl (lv_at hl 0 rfl) ?_
    refine g_get S hK hP (i := 329) (by omega) cC0 rfl inlX5 0 (by decide) k_12 (v := .ref (a (47 * (z.1 0)))) rfl dX5_count_230 ?_
    have hB := cP_book (r := z.1 0) hP (hR 0 (by decide))
    refine r_callI S hK hB (c_X1_allDiscounts l G (fun t => a (47 * (z.1 0) + t)) (gI_book hI (hR 0 (by decide))) (z.2 (z.1 0)) ) (r_cw S k_118 k_115 k_116 k_117 k_11 q_X1_allDiscounts ⟨Nat.le_of_ble_eq_true rfl, Nat.le_of_ble_eq_true rfl⟩ rfl rfl) (g_recv hK hB (i := 0) (by omega) bC0 rfl) rfl hl.1 rfl (Nat.le_of_ble_eq_true rfl) dX5_count_233 ⟨Nat.zero_le _, Nat.zero_le _⟩ hS (fun _ h => gA_book (hR 0 (by decide)) h) (fun H locs hB hk1 hz1 hS => ?_)
    have hP := cP_join0 hI (hR 0 (by decide)) hP hB hk1
    have hP : cP G a z H := hP
    exact e_int S hr hlk rfl hK hS hP (show v_X5_count z p1 = v_X1_allDiscounts (z.2 (z.1 0)) from (if_neg c1).trans ((if_neg c2).trans ((if_neg c3).trans ((if_neg c4).trans ((if_neg c5).trans ((if_neg c6).trans ((if_neg c7).trans ((if_neg c8).trans ((if_neg c9).trans ((if_neg c10).trans ((if_neg c11).trans ((if_pos c12).trans rfl)))))))))))).symm dX5_count_236
  refine (Classical.em (p1 = 12)).elim (fun c13 => ?_) (fun c13 => ?_)
  · refine lv_tableIn (tgt := 237)  hx hb dX5_count_1 (by rw [c13]; decide) (by rw [c13]; decide) (by rw [c13]; rfl) (by decide) ?_
    refine lv_aload_n hx hb dX5_count_237 rfl (lv_at hl 0 rfl) ?_
    refine g_get S hK hP (i := 329) (by omega) cC0 rfl inlX5 0 (by decide) k_12 (v := .ref (a (47 * (z.1 0)))) rfl dX5_count_238 ?_
    have hB := cP_book (r := z.1 0) hP (hR 0 (by decide))
    refine r_callI S hK hB (c_X1_allFees l G (fun t => a (47 * (z.1 0) + t)) (gI_book hI (hR 0 (by decide))) (z.2 (z.1 0)) ) (r_cw S k_123 k_120 k_121 k_122 k_11 q_X1_allFees ⟨Nat.le_of_ble_eq_true rfl, Nat.le_of_ble_eq_true rfl⟩ rfl rfl) (g_recv hK hB (i := 0) (by omega) bC0 rfl) rfl hl.1 rfl (Nat.le_of_ble_eq_true rfl) dX5_count_241 ⟨Nat.zero_le _, Nat.zero_le _⟩ hS (fun _ h => gA_book (hR 0 (by decide)) h) (fun H locs hB hk1 hz1 hS => ?_)
    have hP := cP_join0 hI (hR 0 (by decide)) hP hB hk1
    have hP : cP G a z H := hP
    exact e_int S hr hlk rfl hK hS hP (show v_X5_count z p1 = v_X1_allFees (z.2 (z.1 0)) from (if_neg c1).trans ((if_neg c2).trans ((if_neg c3).trans ((if_neg c4).trans ((if_neg c5).trans ((if_neg c6).trans ((if_neg c7).trans ((if_neg c8).trans ((if_neg c9).trans ((if_neg c10).trans ((if_neg c11).trans ((if_neg c12).trans ((if_pos c13).trans rfl))))))))))))).symm dX5_count_244
  refine (Classical.em (p1 = 13)).elim (fun c14 => ?_) (fun c14 => ?_)
  · refine lv_tableIn (tgt := 245)  hx hb dX5_count_1 (by rw [c14]; decide) (by rw [c14]; decide) (by rw [c14]; rfl) (by decide) ?_
    refine lv_aload_n hx hb dX5_count_245 rfl (lv_at hl 0 rfl) ?_
    refine g_get S hK hP (i := 329) (by omega) cC0 rfl inlX5 0 (by decide) k_12 (v := .ref (a (47 * (z.1 0)))) rfl dX5_count_246 ?_
    have hB := cP_book (r := z.1 0) hP (hR 0 (by decide))
    refine r_callI S hK hB (c_X1_allReminders l G (fun t => a (47 * (z.1 0) + t)) (gI_book hI (hR 0 (by decide))) (z.2 (z.1 0)) ) (r_cw S k_128 k_125 k_126 k_127 k_11 q_X1_allReminders ⟨Nat.le_of_ble_eq_true rfl, Nat.le_of_ble_eq_true rfl⟩ rfl rfl) (g_recv hK hB (i := 0) (by omega) bC0 rfl) rfl hl.1 rfl (Nat.le_of_ble_eq_true rfl) dX5_count_249 ⟨Nat.zero_le _, Nat.zero_le _⟩ hS (fun _ h => gA_book (hR 0 (by decide)) h) (fun H locs hB hk1 hz1 hS => ?_)
    have hP := cP_join0 hI (hR 0 (by decide)) hP hB hk1
    have hP : cP G a z H := hP
    exact e_int S hr hlk rfl hK hS hP (show v_X5_count z p1 = v_X1_allReminders (z.2 (z.1 0)) from (if_neg c1).trans ((if_neg c2).trans ((if_neg c3).trans ((if_neg c4).trans ((if_neg c5).trans ((if_neg c6).trans ((if_neg c7).trans ((if_neg c8).trans ((if_neg c9).trans ((if_neg c10).trans ((if_neg c11).trans ((if_neg c12).trans ((if_neg c13).trans ((if_pos c14).trans rfl)))))))))))))).symm dX5_count_252
  refine (Classical.em (p1 = 14)).elim (fun c15 => ?_) (fun c15 => ?_)
  · refine lv_tableIn (tgt := 253)  hx hb dX5_count_1 (by rw [c15]; decide) (by rw [c15]; decide) (by rw [c15]; rfl) (by decide) ?_
    refine lv_aload_n hx hb dX5_count_253 rfl (lv_at hl 0 rfl) ?_
    refine g_get S hK hP (i := 329) (by omega) cC0 rfl inlX5 0 (by decide) k_12 (v := .ref (a (47 * (z.1 0)))) rfl dX5_count_254 ?_
    have hB := cP_book (r := z.1 0) hP (hR 0 (by decide))
    refine g_get S hK hB (i := 0) (by omega) bC0 rfl inlX1 6 (by decide) k_70 (v := .int (z.2 (z.1 0) 0 6)) rfl dX5_count_257 ?_
    exact e_int S hr hlk rfl hK hS hP (show v_X5_count z p1 = z.2 (z.1 0) 0 6 from (if_neg c1).trans ((if_neg c2).trans ((if_neg c3).trans ((if_neg c4).trans ((if_neg c5).trans ((if_neg c6).trans ((if_neg c7).trans ((if_neg c8).trans ((if_neg c9).trans ((if_neg c10).trans ((if_neg c11).trans ((if_neg c12).trans ((if_neg c13).trans ((if_neg c14).trans ((if_pos c15).trans rfl))))))))))))))).symm dX5_count_260
  refine (Classical.em (p1 = 15)).elim (fun c16 => ?_) (fun c16 => ?_)
  · refine lv_tableIn (tgt := 261)  hx hb dX5_count_1 (by rw [c16]; decide) (by rw [c16]; decide) (by rw [c16]; rfl) (by decide) ?_
    refine lv_aload_n hx hb dX5_count_261 rfl (lv_at hl 0 rfl) ?_
    refine g_get S hK hP (i := 329) (by omega) cC0 rfl inlX5 0 (by decide) k_12 (v := .ref (a (47 * (z.1 0)))) rfl dX5_count_262 ?_
    have hB := cP_book (r := z.1 0) hP (hR 0 (by decide))
    refine g_get S hK hB (i := 0) (by omega) bC0 rfl inlX1 4 (by decide) k_71 (v := .ref (a (47 * (z.1 0) + 5))) rfl dX5_count_265 ?_
    have hB := cP_book (r := z.1 0) hP (hR 0 (by decide))
    refine r_callI S hK hB (c_X3_discountDays l G (fun t => a (47 * (z.1 0) + t)) (gI_book hI (hR 0 (by decide))) (z.2 (z.1 0)) ) (r_cw S k_133 k_130 k_131 k_132 k_35 q_X3_discountDays ⟨Nat.le_of_ble_eq_true rfl, Nat.le_of_ble_eq_true rfl⟩ rfl rfl) (g_recv hK hB (i := 5) (by omega) bC5 rfl) rfl hl.1 rfl (Nat.le_of_ble_eq_true rfl) dX5_count_268 ⟨Nat.zero_le _, Nat.zero_le _⟩ hS (fun _ h => gA_book (hR 0 (by decide)) h) (fun H locs hB hk1 hz1 hS => ?_)
    have hP := cP_join0 hI (hR 0 (by decide)) hP hB hk1
    have hP : cP G a z H := hP
    exact e_int S hr hlk rfl hK hS hP (show v_X5_count z p1 = v_X3_discountDays (z.2 (z.1 0)) from (if_neg c1).trans ((if_neg c2).trans ((if_neg c3).trans ((if_neg c4).trans ((if_neg c5).trans ((if_neg c6).trans ((if_neg c7).trans ((if_neg c8).trans ((if_neg c9).trans ((if_neg c10).trans ((if_neg c11).trans ((if_neg c12).trans ((if_neg c13).trans ((if_neg c14).trans ((if_neg c15).trans ((if_pos c16).trans rfl)))))))))))))))).symm dX5_count_271
  refine (Classical.em (p1 = 16)).elim (fun c17 => ?_) (fun c17 => ?_)
  · refine lv_tableIn (tgt := 272)  hx hb dX5_count_1 (by rw [c17]; decide) (by rw [c17]; decide) (by rw [c17]; rfl) (by decide) ?_
    refine lv_aload_n hx hb dX5_count_272 rfl (lv_at hl 0 rfl) ?_
    refine g_get S hK hP (i := 329) (by omega) cC0 rfl inlX5 0 (by decide) k_12 (v := .ref (a (47 * (z.1 0)))) rfl dX5_count_273 ?_
    have hB := cP_book (r := z.1 0) hP (hR 0 (by decide))
    refine g_get S hK hB (i := 0) (by omega) bC0 rfl inlX1 4 (by decide) k_71 (v := .ref (a (47 * (z.1 0) + 5))) rfl dX5_count_276 ?_
    have hB := cP_book (r := z.1 0) hP (hR 0 (by decide))
    refine r_callI S hK hB (c_X3_discountPercent l G (fun t => a (47 * (z.1 0) + t)) (gI_book hI (hR 0 (by decide))) (z.2 (z.1 0)) ) (r_cw S k_137 k_134 k_135 k_136 k_35 q_X3_discountPercent ⟨Nat.le_of_ble_eq_true rfl, Nat.le_of_ble_eq_true rfl⟩ rfl rfl) (g_recv hK hB (i := 5) (by omega) bC5 rfl) rfl hl.1 rfl (Nat.le_of_ble_eq_true rfl) dX5_count_279 ⟨Nat.zero_le _, Nat.zero_le _⟩ hS (fun _ h => gA_book (hR 0 (by decide)) h) (fun H locs hB hk1 hz1 hS => ?_)
    have hP := cP_join0 hI (hR 0 (by decide)) hP hB hk1
    have hP : cP G a z H := hP
    exact e_int S hr hlk rfl hK hS hP (show v_X5_count z p1 = v_X3_discountPercent (z.2 (z.1 0)) from (if_neg c1).trans ((if_neg c2).trans ((if_neg c3).trans ((if_neg c4).trans ((if_neg c5).trans ((if_neg c6).trans ((if_neg c7).trans ((if_neg c8).trans ((if_neg c9).trans ((if_neg c10).trans ((if_neg c11).trans ((if_neg c12).trans ((if_neg c13).trans ((if_neg c14).trans ((if_neg c15).trans ((if_neg c16).trans ((if_pos c17).trans rfl))))))))))))))))).symm dX5_count_282
  refine (Classical.em (p1 = 17)).elim (fun c18 => ?_) (fun c18 => ?_)
  · refine lv_tableIn (tgt := 283)  hx hb dX5_count_1 (by rw [c18]; decide) (by rw [c18]; decide) (by rw [c18]; rfl) (by decide) ?_
    refine lv_aload_n hx hb dX5_count_283 rfl (lv_at hl 0 rfl) ?_
    refine g_get S hK hP (i := 329) (by omega) cC0 rfl inlX5 0 (by decide) k_12 (v := .ref (a (47 * (z.1 0)))) rfl dX5_count_284 ?_
    have hB := cP_book (r := z.1 0) hP (hR 0 (by decide))
    refine g_get S hK hB (i := 0) (by omega) bC0 rfl inlX1 4 (by decide) k_71 (v := .ref (a (47 * (z.1 0) + 5))) rfl dX5_count_287 ?_
    have hB := cP_book (r := z.1 0) hP (hR 0 (by decide))
    refine r_callI S hK hB (c_X3_reminderDays l G (fun t => a (47 * (z.1 0) + t)) (gI_book hI (hR 0 (by decide))) (z.2 (z.1 0)) ) (r_cw S k_141 k_138 k_139 k_140 k_35 q_X3_reminderDays ⟨Nat.le_of_ble_eq_true rfl, Nat.le_of_ble_eq_true rfl⟩ rfl rfl) (g_recv hK hB (i := 5) (by omega) bC5 rfl) rfl hl.1 rfl (Nat.le_of_ble_eq_true rfl) dX5_count_290 ⟨Nat.zero_le _, Nat.zero_le _⟩ hS (fun _ h => gA_book (hR 0 (by decide)) h) (fun H locs hB hk1 hz1 hS => ?_)
    have hP := cP_join0 hI (hR 0 (by decide)) hP hB hk1
    have hP : cP G a z H := hP
    exact e_int S hr hlk rfl hK hS hP (show v_X5_count z p1 = v_X3_reminderDays (z.2 (z.1 0)) from (if_neg c1).trans ((if_neg c2).trans ((if_neg c3).trans ((if_neg c4).trans ((if_neg c5).trans ((if_neg c6).trans ((if_neg c7).trans ((if_neg c8).trans ((if_neg c9).trans ((if_neg c10).trans ((if_neg c11).trans ((if_neg c12).trans ((if_neg c13).trans ((if_neg c14).trans ((if_neg c15).trans ((if_neg c16).trans ((if_neg c17).trans ((if_pos c18).trans rfl)))))))))))))))))).symm dX5_count_293
  refine (Classical.em (p1 = 18)).elim (fun c19 => ?_) (fun c19 => ?_)
  · refine lv_tableIn (tgt := 294)  hx hb dX5_count_1 (by rw [c19]; decide) (by rw [c19]; decide) (by rw [c19]; rfl) (by decide) ?_
    refine lv_aload_n hx hb dX5_count_294 rfl (lv_at hl 0 rfl) ?_
    refine g_get S hK hP (i := 329) (by omega) cC0 rfl inlX5 0 (by decide) k_12 (v := .ref (a (47 * (z.1 0)))) rfl dX5_count_295 ?_
    have hB := cP_book (r := z.1 0) hP (hR 0 (by decide))
    refine g_get S hK hB (i := 0) (by omega) bC0 rfl inlX1 4 (by decide) k_71 (v := .ref (a (47 * (z.1 0) + 5))) rfl dX5_count_298 ?_
    have hB := cP_book (r := z.1 0) hP (hR 0 (by decide))
    refine r_callI S hK hB (c_X3_reminderFee l G (fun t => a (47 * (z.1 0) + t)) (gI_book hI (hR 0 (by decide))) (z.2 (z.1 0)) ) (r_cw S k_145 k_142 k_143 k_144 k_35 q_X3_reminderFee ⟨Nat.le_of_ble_eq_true rfl, Nat.le_of_ble_eq_true rfl⟩ rfl rfl) (g_recv hK hB (i := 5) (by omega) bC5 rfl) rfl hl.1 rfl (Nat.le_of_ble_eq_true rfl) dX5_count_301 ⟨Nat.zero_le _, Nat.zero_le _⟩ hS (fun _ h => gA_book (hR 0 (by decide)) h) (fun H locs hB hk1 hz1 hS => ?_)
    have hP := cP_join0 hI (hR 0 (by decide)) hP hB hk1
    have hP : cP G a z H := hP
    exact e_int S hr hlk rfl hK hS hP (show v_X5_count z p1 = v_X3_reminderFee (z.2 (z.1 0)) from (if_neg c1).trans ((if_neg c2).trans ((if_neg c3).trans ((if_neg c4).trans ((if_neg c5).trans ((if_neg c6).trans ((if_neg c7).trans ((if_neg c8).trans ((if_neg c9).trans ((if_neg c10).trans ((if_neg c11).trans ((if_neg c12).trans ((if_neg c13).trans ((if_neg c14).trans ((if_neg c15).trans ((if_neg c16).trans ((if_neg c17).trans ((if_neg c18).trans ((if_pos c19).trans rfl))))))))))))))))))).symm dX5_count_304
  refine (Classical.em (p1 = 19)).elim (fun c20 => ?_) (fun c20 => ?_)
  · refine lv_tableIn (tgt := 305)  hx hb dX5_count_1 (by rw [c20]; decide) (by rw [c20]; decide) (by rw [c20]; rfl) (by decide) ?_
    refine lv_aload_n hx hb dX5_count_305 rfl (lv_at hl 0 rfl) ?_
    refine g_get S hK hP (i := 329) (by omega) cC0 rfl inlX5 0 (by decide) k_12 (v := .ref (a (47 * (z.1 0)))) rfl dX5_count_306 ?_
    have hB := cP_book (r := z.1 0) hP (hR 0 (by decide))
    refine g_get S hK hB (i := 0) (by omega) bC0 rfl inlX1 4 (by decide) k_71 (v := .ref (a (47 * (z.1 0) + 5))) rfl dX5_count_309 ?_
    have hB := cP_book (r := z.1 0) hP (hR 0 (by decide))
    refine r_callI S hK hB (c_X3_taxWay l G (fun t => a (47 * (z.1 0) + t)) (gI_book hI (hR 0 (by decide))) (z.2 (z.1 0)) ) (r_cw S k_149 k_146 k_147 k_148 k_35 q_X3_taxWay ⟨Nat.le_of_ble_eq_true rfl, Nat.le_of_ble_eq_true rfl⟩ rfl rfl) (g_recv hK hB (i := 5) (by omega) bC5 rfl) rfl hl.1 rfl (Nat.le_of_ble_eq_true rfl) dX5_count_312 ⟨Nat.zero_le _, Nat.zero_le _⟩ hS (fun _ h => gA_book (hR 0 (by decide)) h) (fun H locs hB hk1 hz1 hS => ?_)
    have hP := cP_join0 hI (hR 0 (by decide)) hP hB hk1
    have hP : cP G a z H := hP
    exact e_int S hr hlk rfl hK hS hP (show v_X5_count z p1 = v_X3_taxWay (z.2 (z.1 0)) from (if_neg c1).trans ((if_neg c2).trans ((if_neg c3).trans ((if_neg c4).trans ((if_neg c5).trans ((if_neg c6).trans ((if_neg c7).trans ((if_neg c8).trans ((if_neg c9).trans ((if_neg c10).trans ((if_neg c11).trans ((if_neg c12).trans ((if_neg c13).trans ((if_neg c14).trans ((if_neg c15).trans ((if_neg c16).trans ((if_neg c17).trans ((if_neg c18).trans ((if_neg c19).trans ((if_pos c20).trans rfl)))))))))))))))))))).symm dX5_count_315
  refine (Classical.em (p1 = 20)).elim (fun c21 => ?_) (fun c21 => ?_)
  · refine lv_tableIn (tgt := 316)  hx hb dX5_count_1 (by rw [c21]; decide) (by rw [c21]; decide) (by rw [c21]; rfl) (by decide) ?_
    refine lv_aload_n hx hb dX5_count_316 rfl (lv_at hl 0 rfl) ?_
    refine g_get S hK hP (i := 329) (by omega) cC0 rfl inlX5 4 (by decide) k_18 (v := .ref (a 330)) rfl dX5_count_317 ?_
    refine g_get S hK hP (i := 330) (by omega) cC1 rfl inlX2 1 (by decide) k_72 (v := .int (z.2 7 1 1)) (congrArg Value.int (Eq.trans (congrFun (fl_7 (t := 1) (by decide)) 1) (rfl))) dX5_count_320 ?_
    exact e_int S hr hlk rfl hK hS hP (show v_X5_count z p1 = z.2 7 1 1 from (if_neg c1).trans ((if_neg c2).trans ((if_neg c3).trans ((if_neg c4).trans ((if_neg c5).trans ((if_neg c6).trans ((if_neg c7).trans ((if_neg c8).trans ((if_neg c9).trans ((if_neg c10).trans ((if_neg c11).trans ((if_neg c12).trans ((if_neg c13).trans ((if_neg c14).trans ((if_neg c15).trans ((if_neg c16).trans ((if_neg c17).trans ((if_neg c18).trans ((if_neg c19).trans ((if_neg c20).trans ((if_pos c21).trans rfl))))))))))))))))))))).symm dX5_count_323
  refine (Classical.em (p1 = 21)).elim (fun c22 => ?_) (fun c22 => ?_)
  · refine lv_tableIn (tgt := 324)  hx hb dX5_count_1 (by rw [c22]; decide) (by rw [c22]; decide) (by rw [c22]; rfl) (by decide) ?_
    refine lv_aload_n hx hb dX5_count_324 rfl (lv_at hl 0 rfl) ?_
    refine g_get S hK hP (i := 329) (by omega) cC0 rfl inlX5 5 (by decide) k_22 (v := .ref (a 332)) rfl dX5_count_325 ?_
    refine g_get S hK hP (i := 332) (by omega) cC3 rfl inlX4 1 (by decide) k_73 (v := .int (z.2 8 0 1)) (congrArg Value.int (congrFun (fl_8 (t := 0)) 1)) dX5_count_328 ?_
    exact e_int S hr hlk rfl hK hS hP (show v_X5_count z p1 = z.2 8 0 1 from (if_neg c1).trans ((if_neg c2).trans ((if_neg c3).trans ((if_neg c4).trans ((if_neg c5).trans ((if_neg c6).trans ((if_neg c7).trans ((if_neg c8).trans ((if_neg c9).trans ((if_neg c10).trans ((if_neg c11).trans ((if_neg c12).trans ((if_neg c13).trans ((if_neg c14).trans ((if_neg c15).trans ((if_neg c16).trans ((if_neg c17).trans ((if_neg c18).trans ((if_neg c19).trans ((if_neg c20).trans ((if_neg c21).trans ((if_pos c22).trans rfl)))))))))))))))))))))).symm dX5_count_331
  refine lv_tableOut (tgt := 332) hx hb dX5_count_1 (by have h0 := lv_neT c1 (a := 0) (by decide); have h1 := lv_neT c2 (a := 1) (by decide); have h2 := lv_neT c3 (a := 2) (by decide); have h3 := lv_neT c4 (a := 3) (by decide); have h4 := lv_neT c5 (a := 4) (by decide); have h5 := lv_neT c6 (a := 5) (by decide); have h6 := lv_neT c7 (a := 6) (by decide); have h7 := lv_neT c8 (a := 7) (by decide); have h8 := lv_neT c9 (a := 8) (by decide); have h9 := lv_neT c10 (a := 9) (by decide); have h10 := lv_neT c11 (a := 10) (by decide); have h11 := lv_neT c12 (a := 11) (by decide); have h12 := lv_neT c13 (a := 12) (by decide); have h13 := lv_neT c14 (a := 13) (by decide); have h14 := lv_neT c15 (a := 14) (by decide); have h15 := lv_neT c16 (a := 15) (by decide); have h16 := lv_neT c17 (a := 16) (by decide); have h17 := lv_neT c18 (a := 17) (by decide); have h18 := lv_neT c19 (a := 18) (by decide); have h19 := lv_neT c20 (a := 19) (by decide); have h20 := lv_neT c21 (a := 20) (by decide); have h21 := lv_neT c22 (a := 21) (by decide); omega) (by decide) ?_
  refine lv_bipush (v := -2) hx hb dX5_count_332 (by decide) ?_
  exact e_int S hr hlk rfl hK hS hP (show v_X5_count z p1 = (-2 : Int32) from (if_neg c1).trans ((if_neg c2).trans ((if_neg c3).trans ((if_neg c4).trans ((if_neg c5).trans ((if_neg c6).trans ((if_neg c7).trans ((if_neg c8).trans ((if_neg c9).trans ((if_neg c10).trans ((if_neg c11).trans ((if_neg c12).trans ((if_neg c13).trans ((if_neg c14).trans ((if_neg c15).trans ((if_neg c16).trans ((if_neg c17).trans ((if_neg c18).trans ((if_neg c19).trans ((if_neg c20).trans ((if_neg c21).trans ((if_neg c22).trans rfl)))))))))))))))))))))).symm dX5_count_334

def v_X5_worst_loop (z : CS) : Nat → Nat → Int32 → Int32 → Int32
  | 0, k, x1, x2 => x1
  | n + 1, k, x1, x2 => if v_X1_owedOn (z.2 (z.1 0)) (nI k) (0 : Int32) ≤ x2 then (v_X5_worst_loop z n (k + 1) x1 x2) else v_X5_worst_loop z n (k + 1) (nI k) (v_X1_owedOn (z.2 (z.1 0)) (nI k) (0 : Int32))
def v_X5_worst (z : CS) : Int32 := v_X5_worst_loop z 8 0 (-5 : Int32) (0 : Int32)
theorem q_X5_worst : yX5_worst.cls ≠ "java/lang/invoke/MethodHandle" ∧ yX5_worst.cls ≠ "java/lang/invoke/VarHandle" ∧ (parseMethodDescriptor yX5_worst.desc).map (fun d => d.parameters.length) = some 0 := ⟨by decide, by decide, by decide +kernel⟩
set_option maxHeartbeats 4000000 in
set_option maxRecDepth 100000 in
theorem c_X5_worst (l : Launch) (G : kG) (a : Nat → Nat) (hI : gI 334 a) (z : CS) (hR : RI z.1) (hJ : RJ z.1) : Met l yX5_worst (Cond.code yX5_worst cX5_worst 5 (some .int) :: BIG) (rmK 2) (pcG G (cP G a z) [.ref (a 329)]) (qcI G (gA 334 a) (cP G a z) (v_X5_worst z)) 0 0 (gA 334 a) := by
  refine m_start (by decide) (Nat.le_of_ble_eq_true rfl) ?_
  intro p e s m args below meth c S hr hlk hnm hP hK ls hl
  have hx := S.1
  have hb := S.2.1
  have hown := S.2.2.2.1
  have hS : va_S (gA 334 a) s.heap s.heap [] := va_S.rf
  have hl : lv_has ls 5 [(0, .ref (a 329))] := hl
  refine lv_bipush (v := -5) hx hb dX5_worst_0 (by decide) ?_
  refine lv_istore_n (lv' := [(1, .int (-5 : Int32)), (0, .ref (a 329))]) hx hb dX5_worst_2 rfl hl (by decide) rfl (fun ls hl => ?_)
  refine lv_iconst (v := 0) hx hb dX5_worst_3 (by decide) ?_
  refine lv_istore_n (lv' := [(2, .int (0 : Int32)), (1, .int (-5 : Int32)), (0, .ref (a 329))]) hx hb dX5_worst_4 rfl hl (by decide) rfl (fun ls hl => ?_)
  refine lv_iconst (v := 0) hx hb dX5_worst_5 (by decide) ?_
  refine lv_istore_n (lv' := [(3, .int (0 : Int32)), (2, .int (0 : Int32)), (1, .int (-5 : Int32)), (0, .ref (a 329))]) hx hb dX5_worst_6 rfl hl (by decide) rfl (fun ls hl => ?_)
  have LP_loop : ∀ (n : Nat) (k : Nat), k + n = 8 → ∀ (x1 : Int32) (x2 : Int32) (H : Heap) (locs : List Loc), cP G a z H → va_S (gA 334 a) s.heap H locs → ∀ ls : Array Slot, lv_has ls 5 [(3, .int (nI k)), (2, .int x2), (1, .int x1), (0, .ref (a 329))] → W p l e (rmK 2) s m args below meth c H locs 0 0 (MQ below (qcI G (gA 334 a) (cP G a z) (v_X5_worst_loop z n k x1 x2)) args s 0 0 (gA 334 a)) (F0 m 7 ls []) := by
    intro n
    induction n with
    | zero =>
      intro k hk_LP_loop x1 x2 H locs hP hS ls hl
      refine lv_iload_n hx hb dX5_worst_7 rfl (lv_at hl 0 rfl) ?_
      refine lv_bipush (v := 8) hx hb dX5_worst_8 (by decide) ?_
      refine lv_icmp_ge (tgt := 41) hx hb dX5_worst_10 (by decide) (fun _ => ?_) (fun c => absurd ((nI_leI (a := 8) (b := k) (by omega) (by omega)).mpr (by omega)) c)
      refine lv_iload_n hx hb dX5_worst_41 rfl (lv_at hl 2 rfl) ?_
      exact e_int S hr hlk rfl hK hS hP (show v_X5_worst_loop z 0 k x1 x2 = x1 from rfl).symm dX5_worst_42
    | succ n ih_LP_loop =>
      intro k hk_LP_loop x1 x2 H locs hP hS ls hl
      refine lv_iload_n hx hb dX5_worst_7 rfl (lv_at hl 0 rfl) ?_
      refine lv_bipush (v := 8) hx hb dX5_worst_8 (by decide) ?_
      refine lv_icmp_ge (tgt := 41) hx hb dX5_worst_10 (by decide) (fun c => absurd c (fun z => absurd ((nI_leI (a := 8) (b := k) (by omega) (by omega)).mp z) (by omega))) (fun _ => ?_)
      refine lv_aload_n hx hb dX5_worst_13 rfl (lv_at hl 3 rfl) ?_
      refine g_get S hK hP (i := 329) (by omega) cC0 rfl inlX5 0 (by decide) k_12 (v := .ref (a (47 * (z.1 0)))) rfl dX5_worst_14 ?_
      refine lv_iload_n hx hb dX5_worst_17 rfl (lv_at hl 0 rfl) ?_
      refine lv_iconst (v := 0) hx hb dX5_worst_18 (by decide) ?_
      have hB := cP_book (r := z.1 0) hP (hR 0 (by decide))
      refine r_callI S hK hB (c_X1_owedOn l G (fun t => a (47 * (z.1 0) + t)) (gI_book hI (hR 0 (by decide))) (z.2 (z.1 0)) _ _ ) (r_cw S k_97 k_94 k_95 k_96 k_11 q_X1_owedOn ⟨Nat.le_of_ble_eq_true rfl, Nat.le_of_ble_eq_true rfl⟩ rfl rfl) (g_recv hK hB (i := 0) (by omega) bC0 rfl) rfl hl.1 rfl (Nat.le_of_ble_eq_true rfl) dX5_worst_19 ⟨Nat.zero_le _, Nat.zero_le _⟩ hS (fun _ h => gA_book (hR 0 (by decide)) h) (fun H locs hB hk1 hz1 hS => ?_)
      have hP := cP_join0 hI (hR 0 (by decide)) hP hB hk1
      have hP : cP G a z H := hP
      refine lv_istore (lv' := [(4, .int (v_X1_owedOn (z.2 (z.1 0)) (nI k) (0 : Int32))), (3, .int (nI k)), (2, .int x2), (1, .int x1), (0, .ref (a 329))]) hx hb dX5_worst_22 hl (by decide) rfl (fun ls hl => ?_)
      refine lv_iload hx hb dX5_worst_24 (lv_at hl 0 rfl) ?_
      refine lv_iload_n hx hb dX5_worst_26 rfl (lv_at hl 2 rfl) ?_
      refine lv_icmp_le (tgt := 35) hx hb dX5_worst_27 (by decide) (fun c1 => ?_) (fun c1 => ?_)
      · skip
        refine lv_iinc (v := nI (k + 1)) (lv' := [(3, .int (nI (k + 1))), (4, .int (v_X1_owedOn (z.2 (z.1 0)) (nI k) (0 : Int32))), (2, .int x2), (1, .int x1), (0, .ref (a 329))]) hx hb dX5_worst_35 hl (k := 1) rfl (nI_1 _) (by decide) rfl (fun ls hl => ?_)
        refine lv_goto (tgt := 7) hx hb dX5_worst_38 (by decide) ?_
        refine q_eqIz (show v_X5_worst_loop z (n + 1) k x1 x2 = v_X5_worst_loop z n (k + 1) x1 x2 from (if_pos c1).trans rfl) rfl ?_
        exact ih_LP_loop (k + 1) (by omega) _ _ _ _ hP hS ls (lv_sub hl [0, 2, 3, 4] rfl)
      · skip
        refine lv_iload hx hb dX5_worst_30 (lv_at hl 0 rfl) ?_
        refine lv_istore_n (lv' := [(2, .int (v_X1_owedOn (z.2 (z.1 0)) (nI k) (0 : Int32))), (4, .int (v_X1_owedOn (z.2 (z.1 0)) (nI k) (0 : Int32))), (3, .int (nI k)), (1, .int x1), (0, .ref (a 329))]) hx hb dX5_worst_32 rfl hl (by decide) rfl (fun ls hl => ?_)
        refine lv_iload_n hx hb dX5_worst_33 rfl (lv_at hl 2 rfl) ?_
        refine lv_istore_n (lv' := [(1, .int (nI k)), (2, .int (v_X1_owedOn (z.2 (z.1 0)) (nI k) (0 : Int32))), (4, .int (v_X1_owedOn (z.2 (z.1 0)) (nI k) (0 : Int32))), (3, .int (nI k)), (0, .ref (a 329))]) hx hb dX5_worst_34 rfl hl (by decide) rfl (fun ls hl => ?_)
        refine lv_iinc (v := nI (k + 1)) (lv' := [(3, .int (nI (k + 1))), (1, .int (nI k)), (2, .int (v_X1_owedOn (z.2 (z.1 0)) (nI k) (0 : Int32))), (4, .int (v_X1_owedOn (z.2 (z.1 0)) (nI k) (0 : Int32))), (0, .ref (a 329))]) hx hb dX5_worst_35 hl (k := 3) rfl (nI_1 _) (by decide) rfl (fun ls hl => ?_)
        refine lv_goto (tgt := 7) hx hb dX5_worst_38 (by decide) ?_
        refine q_eqIz (show v_X5_worst_loop z (n + 1) k x1 x2 = v_X5_worst_loop z n (k + 1) (nI k) (v_X1_owedOn (z.2 (z.1 0)) (nI k) (0 : Int32)) from (if_neg c1).trans rfl) rfl ?_
        exact ih_LP_loop (k + 1) (by omega) _ _ _ _ hP hS ls (lv_sub hl [0, 2, 1, 4] rfl)
  refine q_eqIz (show v_X5_worst z  = v_X5_worst_loop z 8 0 (-5 : Int32) (0 : Int32) from rfl) rfl ?_
  exact LP_loop 8 0 (by omega) _ _ _ _ hP hS ls (lv_sub hl [0, 1, 2, 3] rfl)

def v_X5_ifPaid (z : CS) (p1 : Int32) (p2 : Int32) (p3 : Int32) : Int32 := if v_X5_isCustomer p1 = 0 then (-1 : Int32) else if v_X5_isAmount p2 = 0 then (-2 : Int32) else if p3 < 0 then (-2 : Int32) else if p3 ≤ (3 : Int32) then (if 0 ≤ v_X1_takePayment ((w_X1_copyFrom z (z.1 1) (z.1 0)).2 ((w_X1_copyFrom z (z.1 1) (z.1 0)).1 1)) p1 p2 then (if p3 = 0 then (v_X1_takePayment ((w_X1_copyFrom z (z.1 1) (z.1 0)).2 ((w_X1_copyFrom z (z.1 1) (z.1 0)).1 1)) p1 p2) else if p3 = 1 then ((v_X1_allDiscounts ((zB (w_X1_copyFrom z (z.1 1) (z.1 0)) ((w_X1_copyFrom z (z.1 1) (z.1 0)).1 1) (w_X1_takePayment ((w_X1_copyFrom z (z.1 1) (z.1 0)).2 ((w_X1_copyFrom z (z.1 1) (z.1 0)).1 1)) p1 p2)).2 ((zB (w_X1_copyFrom z (z.1 1) (z.1 0)) ((w_X1_copyFrom z (z.1 1) (z.1 0)).1 1) (w_X1_takePayment ((w_X1_copyFrom z (z.1 1) (z.1 0)).2 ((w_X1_copyFrom z (z.1 1) (z.1 0)).1 1)) p1 p2)).1 1))) - (v_X1_allDiscounts ((zB (w_X1_copyFrom z (z.1 1) (z.1 0)) ((w_X1_copyFrom z (z.1 1) (z.1 0)).1 1) (w_X1_takePayment ((w_X1_copyFrom z (z.1 1) (z.1 0)).2 ((w_X1_copyFrom z (z.1 1) (z.1 0)).1 1)) p1 p2)).2 ((zB (w_X1_copyFrom z (z.1 1) (z.1 0)) ((w_X1_copyFrom z (z.1 1) (z.1 0)).1 1) (w_X1_takePayment ((w_X1_copyFrom z (z.1 1) (z.1 0)).2 ((w_X1_copyFrom z (z.1 1) (z.1 0)).1 1)) p1 p2)).1 0)))) else if p3 = 2 then (v_X1_creditOf ((zB (w_X1_copyFrom z (z.1 1) (z.1 0)) ((w_X1_copyFrom z (z.1 1) (z.1 0)).1 1) (w_X1_takePayment ((w_X1_copyFrom z (z.1 1) (z.1 0)).2 ((w_X1_copyFrom z (z.1 1) (z.1 0)).1 1)) p1 p2)).2 ((zB (w_X1_copyFrom z (z.1 1) (z.1 0)) ((w_X1_copyFrom z (z.1 1) (z.1 0)).1 1) (w_X1_takePayment ((w_X1_copyFrom z (z.1 1) (z.1 0)).2 ((w_X1_copyFrom z (z.1 1) (z.1 0)).1 1)) p1 p2)).1 1)) p1) else v_X1_owedOn ((zB (w_X1_copyFrom z (z.1 1) (z.1 0)) ((w_X1_copyFrom z (z.1 1) (z.1 0)).1 1) (w_X1_takePayment ((w_X1_copyFrom z (z.1 1) (z.1 0)).2 ((w_X1_copyFrom z (z.1 1) (z.1 0)).1 1)) p1 p2)).2 ((zB (w_X1_copyFrom z (z.1 1) (z.1 0)) ((w_X1_copyFrom z (z.1 1) (z.1 0)).1 1) (w_X1_takePayment ((w_X1_copyFrom z (z.1 1) (z.1 0)).2 ((w_X1_copyFrom z (z.1 1) (z.1 0)).1 1)) p1 p2)).1 1)) p1 (0 : Int32)) else v_X1_takePayment ((w_X1_copyFrom z (z.1 1) (z.1 0)).2 ((w_X1_copyFrom z (z.1 1) (z.1 0)).1 1)) p1 p2) else (-2 : Int32)
def w_X5_ifPaid (z : CS) (p1 : Int32) (p2 : Int32) (p3 : Int32) : CS := if v_X5_isCustomer p1 = 0 then z else if v_X5_isAmount p2 = 0 then z else if p3 < 0 then z else if p3 ≤ (3 : Int32) then (if 0 ≤ v_X1_takePayment ((w_X1_copyFrom z (z.1 1) (z.1 0)).2 ((w_X1_copyFrom z (z.1 1) (z.1 0)).1 1)) p1 p2 then (if p3 = 0 then (zB (w_X1_copyFrom z (z.1 1) (z.1 0)) ((w_X1_copyFrom z (z.1 1) (z.1 0)).1 1) (w_X1_takePayment ((w_X1_copyFrom z (z.1 1) (z.1 0)).2 ((w_X1_copyFrom z (z.1 1) (z.1 0)).1 1)) p1 p2)) else if p3 = 1 then (zB (w_X1_copyFrom z (z.1 1) (z.1 0)) ((w_X1_copyFrom z (z.1 1) (z.1 0)).1 1) (w_X1_takePayment ((w_X1_copyFrom z (z.1 1) (z.1 0)).2 ((w_X1_copyFrom z (z.1 1) (z.1 0)).1 1)) p1 p2)) else if p3 = 2 then (zB (w_X1_copyFrom z (z.1 1) (z.1 0)) ((w_X1_copyFrom z (z.1 1) (z.1 0)).1 1) (w_X1_takePayment ((w_X1_copyFrom z (z.1 1) (z.1 0)).2 ((w_X1_copyFrom z (z.1 1) (z.1 0)).1 1)) p1 p2)) else zB (w_X1_copyFrom z (z.1 1) (z.1 0)) ((w_X1_copyFrom z (z.1 1) (z.1 0)).1 1) (w_X1_takePayment ((w_X1_copyFrom z (z.1 1) (z.1 0)).2 ((w_X1_copyFrom z (z.1 1) (z.1 0)).1 1)) p1 p2)) else zB (w_X1_copyFrom z (z.1 1) (z.1 0)) ((w_X1_copyFrom z (z.1 1) (z.1 0)).1 1) (w_X1_takePayment ((w_X1_copyFrom z (z.1 1) (z.1 0)).2 ((w_X1_copyFrom z (z.1 1) (z.1 0)).1 1)) p1 p2)) else z
theorem q_X5_ifPaid : yX5_ifPaid.cls ≠ "java/lang/invoke/MethodHandle" ∧ yX5_ifPaid.cls ≠ "java/lang/invoke/VarHandle" ∧ (parseMethodDescriptor yX5_ifPaid.desc).map (fun d => d.parameters.length) = some 3 := ⟨by decide, by decide, by decide +kernel⟩
set_option maxHeartbeats 4000000 in
set_option maxRecDepth 100000 in
theorem c_X5_ifPaid (l : Launch) (G : kG) (a : Nat → Nat) (hI : gI 334 a) (z : CS) (p1 : Int32) (p2 : Int32) (p3 : Int32) (hR : RI z.1) (hJ : RJ z.1) : Met l yX5_ifPaid (Cond.code yX5_ifPaid cX5_ifPaid 5 (some .int) :: BIG) (rmK 4) (pcG G (cP G a z) [.ref (a 329), .int p1, .int p2, .int p3]) (qcI G (gA 334 a) (cP G a (w_X5_ifPaid z p1 p2 p3)) (v_X5_ifPaid z p1 p2 p3)) 0 0 (gA 334 a) := by
  refine m_start (by decide) (Nat.le_of_ble_eq_true rfl) ?_
  intro p e s m args below meth c S hr hlk hnm hP hK ls hl
  have hx := S.1
  have hb := S.2.1
  have hown := S.2.2.2.1
  have hS : va_S (gA 334 a) s.heap s.heap [] := va_S.rf
  have hl : lv_has ls 5 [(0, .ref (a 329)), (1, .int p1), (2, .int p2), (3, .int p3)] := hl
  refine lv_iload_n hx hb dX5_ifPaid_0 rfl (lv_at hl 1 rfl) ?_
  refine r_callS S hK hP (c_X5_isCustomer l G (cP G a z) (gA 334 a) _ ) (r_cs S k_218 k_216 k_217 k_2 q_X5_isCustomer ⟨Nat.le_of_ble_eq_true rfl, Nat.le_of_ble_eq_true rfl⟩ rfl rfl) rfl hl.1 rfl (Nat.le_of_ble_eq_true rfl) dX5_ifPaid_1 ⟨Nat.zero_le _, Nat.zero_le _⟩ hS (fun _ h => h) (fun H locs hP _ _ hS => ?_)
  have hP : cP G a z H := hP
  refine lv_if_ne (tgt := 9) hx hb dX5_ifPaid_4 (by decide) (fun c1 => ?_) (fun c1 => ?_)
  · skip
    refine lv_iload_n hx hb dX5_ifPaid_9 rfl (lv_at hl 2 rfl) ?_
    refine r_callS S hK hP (c_X5_isAmount l G (cP G a z) (gA 334 a) _ ) (r_cs S k_356 k_446 k_355 k_2 q_X5_isAmount ⟨Nat.le_of_ble_eq_true rfl, Nat.le_of_ble_eq_true rfl⟩ rfl rfl) rfl hl.1 rfl (Nat.le_of_ble_eq_true rfl) dX5_ifPaid_10 ⟨Nat.zero_le _, Nat.zero_le _⟩ hS (fun _ h => h) (fun H locs hP _ _ hS => ?_)
    have hP : cP G a z H := hP
    refine lv_if_eq (tgt := 25) hx hb dX5_ifPaid_13 (by decide) (fun c2 => ?_) (fun c2 => ?_)
    · skip
      refine lv_bipush (v := -2) hx hb dX5_ifPaid_25 (by decide) ?_
      exact e_int S hr hlk rfl hK hS (cP_eq (show w_X5_ifPaid z p1 p2 p3 = z from (if_neg c1).trans ((if_pos c2).trans rfl)) hP) (show v_X5_ifPaid z p1 p2 p3 = (-2 : Int32) from (if_neg c1).trans ((if_pos c2).trans rfl)).symm dX5_ifPaid_27
    · skip
      refine lv_iload_n hx hb dX5_ifPaid_16 rfl (lv_at hl 3 rfl) ?_
      refine lv_if_lt (tgt := 25) hx hb dX5_ifPaid_17 (by decide) (fun c3 => ?_) (fun c3 => ?_)
      · skip
        refine lv_bipush (v := -2) hx hb dX5_ifPaid_25 (by decide) ?_
        exact e_int S hr hlk rfl hK hS (cP_eq (show w_X5_ifPaid z p1 p2 p3 = z from (if_neg c1).trans ((if_neg c2).trans ((if_pos c3).trans rfl))) hP) (show v_X5_ifPaid z p1 p2 p3 = (-2 : Int32) from (if_neg c1).trans ((if_neg c2).trans ((if_pos c3).trans rfl))).symm dX5_ifPaid_27
      · skip
        refine lv_iload_n hx hb dX5_ifPaid_20 rfl (lv_at hl 3 rfl) ?_
        refine lv_iconst (v := 3) hx hb dX5_ifPaid_21 (by decide) ?_
        refine lv_icmp_le (tgt := 28) hx hb dX5_ifPaid_22 (by decide) (fun c4 => ?_) (fun c4 => ?_)
        · skip
          refine lv_aload_n hx hb dX5_ifPaid_28 rfl (lv_at hl 0 rfl) ?_
          refine g_get S hK hP (i := 329) (by omega) cC0 rfl inlX5 1 (by decide) k_13 (v := .ref (a (47 * (z.1 1)))) rfl dX5_ifPaid_29 ?_
          refine lv_aload_n hx hb dX5_ifPaid_32 rfl (lv_at hl 0 rfl) ?_
          refine g_get S hK hP (i := 329) (by omega) cC0 rfl inlX5 0 (by decide) k_12 (v := .ref (a (47 * (z.1 0)))) rfl dX5_ifPaid_33 ?_
          have hB := cP_book (r := z.1 1) hP (hR 1 (by decide))
          refine r_callV S hK hP (c_X1_copyFrom l G a hI z (z.1 1) (z.1 0) (hR 1 (by decide)) (hR 0 (by decide)) (RJ_ne hJ (by decide) (by decide) (by decide))) (r_cw S k_294 k_291 k_292 k_293 k_11 q_X1_copyFrom ⟨Nat.le_of_ble_eq_true rfl, Nat.le_of_ble_eq_true rfl⟩ rfl rfl) (g_recv hK hB (i := 0) (by omega) bC0 rfl) rfl hl.1 rfl (Nat.le_of_ble_eq_true rfl) dX5_ifPaid_36 ⟨Nat.zero_le _, Nat.zero_le _⟩ hS (fun _ h => h) (fun H locs hP _ _ hS => ?_)
          have hP : cP G a (w_X1_copyFrom z (z.1 1) (z.1 0)) H := hP
          refine lv_aload_n hx hb dX5_ifPaid_39 rfl (lv_at hl 0 rfl) ?_
          refine g_get S hK hP (i := 329) (by omega) cC0 rfl inlX5 1 (by decide) k_13 (v := .ref (a (47 * ((w_X1_copyFrom z (z.1 1) (z.1 0)).1 1)))) rfl dX5_ifPaid_40 ?_
          refine lv_iload_n hx hb dX5_ifPaid_43 rfl (lv_at hl 1 rfl) ?_
          refine lv_iload_n hx hb dX5_ifPaid_44 rfl (lv_at hl 2 rfl) ?_
          have hB := cP_book (r := (w_X1_copyFrom z (z.1 1) (z.1 0)).1 1) hP ((RI_eq (copyFrom1_R) hR) 1 (by decide))
          refine r_callI S hK hB (c_X1_takePayment l G (fun t => a (47 * ((w_X1_copyFrom z (z.1 1) (z.1 0)).1 1) + t)) (gI_book hI ((RI_eq (copyFrom1_R) hR) 1 (by decide))) ((w_X1_copyFrom z (z.1 1) (z.1 0)).2 ((w_X1_copyFrom z (z.1 1) (z.1 0)).1 1)) _ _ ) (r_cw S k_354 k_351 k_352 k_353 k_11 q_X1_takePayment ⟨Nat.le_of_ble_eq_true rfl, Nat.le_of_ble_eq_true rfl⟩ rfl rfl) (g_recv hK hB (i := 0) (by omega) bC0 rfl) rfl hl.1 rfl (Nat.le_of_ble_eq_true rfl) dX5_ifPaid_45 ⟨Nat.zero_le _, Nat.zero_le _⟩ hS (fun _ h => gA_book ((RI_eq (copyFrom1_R) hR) 1 (by decide)) h) (fun H locs hB hk1 hz1 hS => ?_)
          have hP := cP_join hI ((RI_eq (copyFrom1_R) hR) 1 (by decide)) hP hB hk1
          have hP : cP G a (zB (w_X1_copyFrom z (z.1 1) (z.1 0)) ((w_X1_copyFrom z (z.1 1) (z.1 0)).1 1) (w_X1_takePayment ((w_X1_copyFrom z (z.1 1) (z.1 0)).2 ((w_X1_copyFrom z (z.1 1) (z.1 0)).1 1)) p1 p2)) H := hP
          refine lv_istore (lv' := [(4, .int (v_X1_takePayment ((w_X1_copyFrom z (z.1 1) (z.1 0)).2 ((w_X1_copyFrom z (z.1 1) (z.1 0)).1 1)) p1 p2)), (0, .ref (a 329)), (1, .int p1), (2, .int p2), (3, .int p3)]) hx hb dX5_ifPaid_48 hl (by decide) rfl (fun ls hl => ?_)
          refine lv_iload hx hb dX5_ifPaid_50 (lv_at hl 0 rfl) ?_
          refine lv_if_ge (tgt := 58) hx hb dX5_ifPaid_52 (by decide) (fun c5 => ?_) (fun c5 => ?_)
          · skip
            refine lv_iload_n hx hb dX5_ifPaid_58 rfl (lv_at hl 4 rfl) ?_
            refine (Classical.em (p3 = 0)).elim (fun c6 => ?_) (fun c6 => ?_)
            · refine lv_tableIn (tgt := 84)  hx hb dX5_ifPaid_59 (by rw [c6]; decide) (by rw [c6]; decide) (by rw [c6]; rfl) (by decide) ?_
              refine lv_iload hx hb dX5_ifPaid_84 (lv_at hl 0 rfl) ?_
              exact e_int S hr hlk rfl hK hS (cP_eq (show w_X5_ifPaid z p1 p2 p3 = zB (w_X1_copyFrom z (z.1 1) (z.1 0)) ((w_X1_copyFrom z (z.1 1) (z.1 0)).1 1) (w_X1_takePayment ((w_X1_copyFrom z (z.1 1) (z.1 0)).2 ((w_X1_copyFrom z (z.1 1) (z.1 0)).1 1)) p1 p2) from (if_neg c1).trans ((if_neg c2).trans ((if_neg c3).trans ((if_pos c4).trans ((if_pos c5).trans ((if_pos c6).trans rfl)))))) hP) (show v_X5_ifPaid z p1 p2 p3 = v_X1_takePayment ((w_X1_copyFrom z (z.1 1) (z.1 0)).2 ((w_X1_copyFrom z (z.1 1) (z.1 0)).1 1)) p1 p2 from (if_neg c1).trans ((if_neg c2).trans ((if_neg c3).trans ((if_pos c4).trans ((if_pos c5).trans ((if_pos c6).trans rfl)))))).symm dX5_ifPaid_86
            refine (Classical.em (p3 = 1)).elim (fun c7 => ?_) (fun c7 => ?_)
            · refine lv_tableIn (tgt := 87)  hx hb dX5_ifPaid_59 (by rw [c7]; decide) (by rw [c7]; decide) (by rw [c7]; rfl) (by decide) ?_
              refine lv_aload_n hx hb dX5_ifPaid_87 rfl (lv_at hl 1 rfl) ?_
              refine g_get S hK hP (i := 329) (by omega) cC0 rfl inlX5 1 (by decide) k_13 (v := .ref (a (47 * ((zB (w_X1_copyFrom z (z.1 1) (z.1 0)) ((w_X1_copyFrom z (z.1 1) (z.1 0)).1 1) (w_X1_takePayment ((w_X1_copyFrom z (z.1 1) (z.1 0)).2 ((w_X1_copyFrom z (z.1 1) (z.1 0)).1 1)) p1 p2)).1 1)))) rfl dX5_ifPaid_88 ?_
              have hB := cP_book (r := (zB (w_X1_copyFrom z (z.1 1) (z.1 0)) ((w_X1_copyFrom z (z.1 1) (z.1 0)).1 1) (w_X1_takePayment ((w_X1_copyFrom z (z.1 1) (z.1 0)).2 ((w_X1_copyFrom z (z.1 1) (z.1 0)).1 1)) p1 p2)).1 1) hP ((RI_eq (fst_zB.trans (copyFrom1_R)) hR) 1 (by decide))
              refine r_callI S hK hB (c_X1_allDiscounts l G (fun t => a (47 * ((zB (w_X1_copyFrom z (z.1 1) (z.1 0)) ((w_X1_copyFrom z (z.1 1) (z.1 0)).1 1) (w_X1_takePayment ((w_X1_copyFrom z (z.1 1) (z.1 0)).2 ((w_X1_copyFrom z (z.1 1) (z.1 0)).1 1)) p1 p2)).1 1) + t)) (gI_book hI ((RI_eq (fst_zB.trans (copyFrom1_R)) hR) 1 (by decide))) ((zB (w_X1_copyFrom z (z.1 1) (z.1 0)) ((w_X1_copyFrom z (z.1 1) (z.1 0)).1 1) (w_X1_takePayment ((w_X1_copyFrom z (z.1 1) (z.1 0)).2 ((w_X1_copyFrom z (z.1 1) (z.1 0)).1 1)) p1 p2)).2 ((zB (w_X1_copyFrom z (z.1 1) (z.1 0)) ((w_X1_copyFrom z (z.1 1) (z.1 0)).1 1) (w_X1_takePayment ((w_X1_copyFrom z (z.1 1) (z.1 0)).2 ((w_X1_copyFrom z (z.1 1) (z.1 0)).1 1)) p1 p2)).1 1)) ) (r_cw S k_118 k_115 k_116 k_117 k_11 q_X1_allDiscounts ⟨Nat.le_of_ble_eq_true rfl, Nat.le_of_ble_eq_true rfl⟩ rfl rfl) (g_recv hK hB (i := 0) (by omega) bC0 rfl) rfl hl.1 rfl (Nat.le_of_ble_eq_true rfl) dX5_ifPaid_91 ⟨Nat.zero_le _, Nat.zero_le _⟩ hS (fun _ h => gA_book ((RI_eq (fst_zB.trans (copyFrom1_R)) hR) 1 (by decide)) h) (fun H locs hB hk1 hz1 hS => ?_)
              have hP := cP_join0 hI ((RI_eq (fst_zB.trans (copyFrom1_R)) hR) 1 (by decide)) hP hB hk1
              have hP : cP G a (zB (w_X1_copyFrom z (z.1 1) (z.1 0)) ((w_X1_copyFrom z (z.1 1) (z.1 0)).1 1) (w_X1_takePayment ((w_X1_copyFrom z (z.1 1) (z.1 0)).2 ((w_X1_copyFrom z (z.1 1) (z.1 0)).1 1)) p1 p2)) H := hP
              refine lv_aload_n hx hb dX5_ifPaid_94 rfl (lv_at hl 1 rfl) ?_
              refine g_get S hK hP (i := 329) (by omega) cC0 rfl inlX5 0 (by decide) k_12 (v := .ref (a (47 * ((zB (w_X1_copyFrom z (z.1 1) (z.1 0)) ((w_X1_copyFrom z (z.1 1) (z.1 0)).1 1) (w_X1_takePayment ((w_X1_copyFrom z (z.1 1) (z.1 0)).2 ((w_X1_copyFrom z (z.1 1) (z.1 0)).1 1)) p1 p2)).1 0)))) rfl dX5_ifPaid_95 ?_
              have hB := cP_book (r := (zB (w_X1_copyFrom z (z.1 1) (z.1 0)) ((w_X1_copyFrom z (z.1 1) (z.1 0)).1 1) (w_X1_takePayment ((w_X1_copyFrom z (z.1 1) (z.1 0)).2 ((w_X1_copyFrom z (z.1 1) (z.1 0)).1 1)) p1 p2)).1 0) hP ((RI_eq (fst_zB.trans (copyFrom1_R)) hR) 0 (by decide))
              refine r_callI S hK hB (c_X1_allDiscounts l G (fun t => a (47 * ((zB (w_X1_copyFrom z (z.1 1) (z.1 0)) ((w_X1_copyFrom z (z.1 1) (z.1 0)).1 1) (w_X1_takePayment ((w_X1_copyFrom z (z.1 1) (z.1 0)).2 ((w_X1_copyFrom z (z.1 1) (z.1 0)).1 1)) p1 p2)).1 0) + t)) (gI_book hI ((RI_eq (fst_zB.trans (copyFrom1_R)) hR) 0 (by decide))) ((zB (w_X1_copyFrom z (z.1 1) (z.1 0)) ((w_X1_copyFrom z (z.1 1) (z.1 0)).1 1) (w_X1_takePayment ((w_X1_copyFrom z (z.1 1) (z.1 0)).2 ((w_X1_copyFrom z (z.1 1) (z.1 0)).1 1)) p1 p2)).2 ((zB (w_X1_copyFrom z (z.1 1) (z.1 0)) ((w_X1_copyFrom z (z.1 1) (z.1 0)).1 1) (w_X1_takePayment ((w_X1_copyFrom z (z.1 1) (z.1 0)).2 ((w_X1_copyFrom z (z.1 1) (z.1 0)).1 1)) p1 p2)).1 0)) ) (r_cw S k_118 k_115 k_116 k_117 k_11 q_X1_allDiscounts ⟨Nat.le_of_ble_eq_true rfl, Nat.le_of_ble_eq_true rfl⟩ rfl rfl) (g_recv hK hB (i := 0) (by omega) bC0 rfl) rfl hl.1 rfl (Nat.le_of_ble_eq_true rfl) dX5_ifPaid_98 ⟨Nat.zero_le _, Nat.zero_le _⟩ hS (fun _ h => gA_book ((RI_eq (fst_zB.trans (copyFrom1_R)) hR) 0 (by decide)) h) (fun H locs hB hk1 hz1 hS => ?_)
              have hP := cP_join0 hI ((RI_eq (fst_zB.trans (copyFrom1_R)) hR) 0 (by decide)) hP hB hk1
              have hP : cP G a (zB (w_X1_copyFrom z (z.1 1) (z.1 0)) ((w_X1_copyFrom z (z.1 1) (z.1 0)).1 1) (w_X1_takePayment ((w_X1_copyFrom z (z.1 1) (z.1 0)).2 ((w_X1_copyFrom z (z.1 1) (z.1 0)).1 1)) p1 p2)) H := hP
              refine lv_isub hx hb dX5_ifPaid_101 ?_
              exact e_int S hr hlk rfl hK hS (cP_eq (show w_X5_ifPaid z p1 p2 p3 = zB (w_X1_copyFrom z (z.1 1) (z.1 0)) ((w_X1_copyFrom z (z.1 1) (z.1 0)).1 1) (w_X1_takePayment ((w_X1_copyFrom z (z.1 1) (z.1 0)).2 ((w_X1_copyFrom z (z.1 1) (z.1 0)).1 1)) p1 p2) from (if_neg c1).trans ((if_neg c2).trans ((if_neg c3).trans ((if_pos c4).trans ((if_pos c5).trans ((if_neg c6).trans ((if_pos c7).trans rfl))))))) hP) (show v_X5_ifPaid z p1 p2 p3 = (v_X1_allDiscounts ((zB (w_X1_copyFrom z (z.1 1) (z.1 0)) ((w_X1_copyFrom z (z.1 1) (z.1 0)).1 1) (w_X1_takePayment ((w_X1_copyFrom z (z.1 1) (z.1 0)).2 ((w_X1_copyFrom z (z.1 1) (z.1 0)).1 1)) p1 p2)).2 ((zB (w_X1_copyFrom z (z.1 1) (z.1 0)) ((w_X1_copyFrom z (z.1 1) (z.1 0)).1 1) (w_X1_takePayment ((w_X1_copyFrom z (z.1 1) (z.1 0)).2 ((w_X1_copyFrom z (z.1 1) (z.1 0)).1 1)) p1 p2)).1 1))) - (v_X1_allDiscounts ((zB (w_X1_copyFrom z (z.1 1) (z.1 0)) ((w_X1_copyFrom z (z.1 1) (z.1 0)).1 1) (w_X1_takePayment ((w_X1_copyFrom z (z.1 1) (z.1 0)).2 ((w_X1_copyFrom z (z.1 1) (z.1 0)).1 1)) p1 p2)).2 ((zB (w_X1_copyFrom z (z.1 1) (z.1 0)) ((w_X1_copyFrom z (z.1 1) (z.1 0)).1 1) (w_X1_takePayment ((w_X1_copyFrom z (z.1 1) (z.1 0)).2 ((w_X1_copyFrom z (z.1 1) (z.1 0)).1 1)) p1 p2)).1 0))) from (if_neg c1).trans ((if_neg c2).trans ((if_neg c3).trans ((if_pos c4).trans ((if_pos c5).trans ((if_neg c6).trans ((if_pos c7).trans rfl))))))).symm dX5_ifPaid_102
            refine (Classical.em (p3 = 2)).elim (fun c8 => ?_) (fun c8 => ?_)
            · refine lv_tableIn (tgt := 103)  hx hb dX5_ifPaid_59 (by rw [c8]; decide) (by rw [c8]; decide) (by rw [c8]; rfl) (by decide) ?_
              refine lv_aload_n hx hb dX5_ifPaid_103 rfl (lv_at hl 1 rfl) ?_
              refine g_get S hK hP (i := 329) (by omega) cC0 rfl inlX5 1 (by decide) k_13 (v := .ref (a (47 * ((zB (w_X1_copyFrom z (z.1 1) (z.1 0)) ((w_X1_copyFrom z (z.1 1) (z.1 0)).1 1) (w_X1_takePayment ((w_X1_copyFrom z (z.1 1) (z.1 0)).2 ((w_X1_copyFrom z (z.1 1) (z.1 0)).1 1)) p1 p2)).1 1)))) rfl dX5_ifPaid_104 ?_
              refine lv_iload_n hx hb dX5_ifPaid_107 rfl (lv_at hl 2 rfl) ?_
              have hB := cP_book (r := (zB (w_X1_copyFrom z (z.1 1) (z.1 0)) ((w_X1_copyFrom z (z.1 1) (z.1 0)).1 1) (w_X1_takePayment ((w_X1_copyFrom z (z.1 1) (z.1 0)).2 ((w_X1_copyFrom z (z.1 1) (z.1 0)).1 1)) p1 p2)).1 1) hP ((RI_eq (fst_zB.trans (copyFrom1_R)) hR) 1 (by decide))
              refine r_callI S hK hB (c_X1_creditOf l G (fun t => a (47 * ((zB (w_X1_copyFrom z (z.1 1) (z.1 0)) ((w_X1_copyFrom z (z.1 1) (z.1 0)).1 1) (w_X1_takePayment ((w_X1_copyFrom z (z.1 1) (z.1 0)).2 ((w_X1_copyFrom z (z.1 1) (z.1 0)).1 1)) p1 p2)).1 1) + t)) (gI_book hI ((RI_eq (fst_zB.trans (copyFrom1_R)) hR) 1 (by decide))) ((zB (w_X1_copyFrom z (z.1 1) (z.1 0)) ((w_X1_copyFrom z (z.1 1) (z.1 0)).1 1) (w_X1_takePayment ((w_X1_copyFrom z (z.1 1) (z.1 0)).2 ((w_X1_copyFrom z (z.1 1) (z.1 0)).1 1)) p1 p2)).2 ((zB (w_X1_copyFrom z (z.1 1) (z.1 0)) ((w_X1_copyFrom z (z.1 1) (z.1 0)).1 1) (w_X1_takePayment ((w_X1_copyFrom z (z.1 1) (z.1 0)).2 ((w_X1_copyFrom z (z.1 1) (z.1 0)).1 1)) p1 p2)).1 1)) _ ) (r_cw S k_222 k_219 k_220 k_221 k_11 q_X1_creditOf ⟨Nat.le_of_ble_eq_true rfl, Nat.le_of_ble_eq_true rfl⟩ rfl rfl) (g_recv hK hB (i := 0) (by omega) bC0 rfl) rfl hl.1 rfl (Nat.le_of_ble_eq_true rfl) dX5_ifPaid_108 ⟨Nat.zero_le _, Nat.zero_le _⟩ hS (fun _ h => gA_book ((RI_eq (fst_zB.trans (copyFrom1_R)) hR) 1 (by decide)) h) (fun H locs hB hk1 hz1 hS => ?_)
              have hP := cP_join0 hI ((RI_eq (fst_zB.trans (copyFrom1_R)) hR) 1 (by decide)) hP hB hk1
              have hP : cP G a (zB (w_X1_copyFrom z (z.1 1) (z.1 0)) ((w_X1_copyFrom z (z.1 1) (z.1 0)).1 1) (w_X1_takePayment ((w_X1_copyFrom z (z.1 1) (z.1 0)).2 ((w_X1_copyFrom z (z.1 1) (z.1 0)).1 1)) p1 p2)) H := hP
              exact e_int S hr hlk rfl hK hS (cP_eq (show w_X5_ifPaid z p1 p2 p3 = zB (w_X1_copyFrom z (z.1 1) (z.1 0)) ((w_X1_copyFrom z (z.1 1) (z.1 0)).1 1) (w_X1_takePayment ((w_X1_copyFrom z (z.1 1) (z.1 0)).2 ((w_X1_copyFrom z (z.1 1) (z.1 0)).1 1)) p1 p2) from (if_neg c1).trans ((if_neg c2).trans ((if_neg c3).trans ((if_pos c4).trans ((if_pos c5).trans ((if_neg c6).trans ((if_neg c7).trans ((if_pos c8).trans rfl)))))))) hP) (show v_X5_ifPaid z p1 p2 p3 = v_X1_creditOf ((zB (w_X1_copyFrom z (z.1 1) (z.1 0)) ((w_X1_copyFrom z (z.1 1) (z.1 0)).1 1) (w_X1_takePayment ((w_X1_copyFrom z (z.1 1) (z.1 0)).2 ((w_X1_copyFrom z (z.1 1) (z.1 0)).1 1)) p1 p2)).2 ((zB (w_X1_copyFrom z (z.1 1) (z.1 0)) ((w_X1_copyFrom z (z.1 1) (z.1 0)).1 1) (w_X1_takePayment ((w_X1_copyFrom z (z.1 1) (z.1 0)).2 ((w_X1_copyFrom z (z.1 1) (z.1 0)).1 1)) p1 p2)).1 1)) p1 from (if_neg c1).trans ((if_neg c2).trans ((if_neg c3).trans ((if_pos c4).trans ((if_pos c5).trans ((if_neg c6).trans ((if_neg c7).trans ((if_pos c8).trans rfl)))))))).symm dX5_ifPaid_111
            refine lv_tableOut (tgt := 112) hx hb dX5_ifPaid_59 (by have h0 := lv_neT c6 (a := 0) (by decide); have h1 := lv_neT c7 (a := 1) (by decide); have h2 := lv_neT c8 (a := 2) (by decide); omega) (by decide) ?_
            refine lv_aload_n hx hb dX5_ifPaid_112 rfl (lv_at hl 1 rfl) ?_
            refine g_get S hK hP (i := 329) (by omega) cC0 rfl inlX5 1 (by decide) k_13 (v := .ref (a (47 * ((zB (w_X1_copyFrom z (z.1 1) (z.1 0)) ((w_X1_copyFrom z (z.1 1) (z.1 0)).1 1) (w_X1_takePayment ((w_X1_copyFrom z (z.1 1) (z.1 0)).2 ((w_X1_copyFrom z (z.1 1) (z.1 0)).1 1)) p1 p2)).1 1)))) rfl dX5_ifPaid_113 ?_
            refine lv_iload_n hx hb dX5_ifPaid_116 rfl (lv_at hl 2 rfl) ?_
            refine lv_iconst (v := 0) hx hb dX5_ifPaid_117 (by decide) ?_
            have hB := cP_book (r := (zB (w_X1_copyFrom z (z.1 1) (z.1 0)) ((w_X1_copyFrom z (z.1 1) (z.1 0)).1 1) (w_X1_takePayment ((w_X1_copyFrom z (z.1 1) (z.1 0)).2 ((w_X1_copyFrom z (z.1 1) (z.1 0)).1 1)) p1 p2)).1 1) hP ((RI_eq (fst_zB.trans (copyFrom1_R)) hR) 1 (by decide))
            refine r_callI S hK hB (c_X1_owedOn l G (fun t => a (47 * ((zB (w_X1_copyFrom z (z.1 1) (z.1 0)) ((w_X1_copyFrom z (z.1 1) (z.1 0)).1 1) (w_X1_takePayment ((w_X1_copyFrom z (z.1 1) (z.1 0)).2 ((w_X1_copyFrom z (z.1 1) (z.1 0)).1 1)) p1 p2)).1 1) + t)) (gI_book hI ((RI_eq (fst_zB.trans (copyFrom1_R)) hR) 1 (by decide))) ((zB (w_X1_copyFrom z (z.1 1) (z.1 0)) ((w_X1_copyFrom z (z.1 1) (z.1 0)).1 1) (w_X1_takePayment ((w_X1_copyFrom z (z.1 1) (z.1 0)).2 ((w_X1_copyFrom z (z.1 1) (z.1 0)).1 1)) p1 p2)).2 ((zB (w_X1_copyFrom z (z.1 1) (z.1 0)) ((w_X1_copyFrom z (z.1 1) (z.1 0)).1 1) (w_X1_takePayment ((w_X1_copyFrom z (z.1 1) (z.1 0)).2 ((w_X1_copyFrom z (z.1 1) (z.1 0)).1 1)) p1 p2)).1 1)) _ _ ) (r_cw S k_97 k_94 k_95 k_96 k_11 q_X1_owedOn ⟨Nat.le_of_ble_eq_true rfl, Nat.le_of_ble_eq_true rfl⟩ rfl rfl) (g_recv hK hB (i := 0) (by omega) bC0 rfl) rfl hl.1 rfl (Nat.le_of_ble_eq_true rfl) dX5_ifPaid_118 ⟨Nat.zero_le _, Nat.zero_le _⟩ hS (fun _ h => gA_book ((RI_eq (fst_zB.trans (copyFrom1_R)) hR) 1 (by decide)) h) (fun H locs hB hk1 hz1 hS => ?_)
            have hP := cP_join0 hI ((RI_eq (fst_zB.trans (copyFrom1_R)) hR) 1 (by decide)) hP hB hk1
            have hP : cP G a (zB (w_X1_copyFrom z (z.1 1) (z.1 0)) ((w_X1_copyFrom z (z.1 1) (z.1 0)).1 1) (w_X1_takePayment ((w_X1_copyFrom z (z.1 1) (z.1 0)).2 ((w_X1_copyFrom z (z.1 1) (z.1 0)).1 1)) p1 p2)) H := hP
            exact e_int S hr hlk rfl hK hS (cP_eq (show w_X5_ifPaid z p1 p2 p3 = zB (w_X1_copyFrom z (z.1 1) (z.1 0)) ((w_X1_copyFrom z (z.1 1) (z.1 0)).1 1) (w_X1_takePayment ((w_X1_copyFrom z (z.1 1) (z.1 0)).2 ((w_X1_copyFrom z (z.1 1) (z.1 0)).1 1)) p1 p2) from (if_neg c1).trans ((if_neg c2).trans ((if_neg c3).trans ((if_pos c4).trans ((if_pos c5).trans ((if_neg c6).trans ((if_neg c7).trans ((if_neg c8).trans rfl)))))))) hP) (show v_X5_ifPaid z p1 p2 p3 = v_X1_owedOn ((zB (w_X1_copyFrom z (z.1 1) (z.1 0)) ((w_X1_copyFrom z (z.1 1) (z.1 0)).1 1) (w_X1_takePayment ((w_X1_copyFrom z (z.1 1) (z.1 0)).2 ((w_X1_copyFrom z (z.1 1) (z.1 0)).1 1)) p1 p2)).2 ((zB (w_X1_copyFrom z (z.1 1) (z.1 0)) ((w_X1_copyFrom z (z.1 1) (z.1 0)).1 1) (w_X1_takePayment ((w_X1_copyFrom z (z.1 1) (z.1 0)).2 ((w_X1_copyFrom z (z.1 1) (z.1 0)).1 1)) p1 p2)).1 1)) p1 (0 : Int32) from (if_neg c1).trans ((if_neg c2).trans ((if_neg c3).trans ((if_pos c4).trans ((if_pos c5).trans ((if_neg c6).trans ((if_neg c7).trans ((if_neg c8).trans rfl)))))))).symm dX5_ifPaid_121
          · skip
            refine lv_iload hx hb dX5_ifPaid_55 (lv_at hl 0 rfl) ?_
            exact e_int S hr hlk rfl hK hS (cP_eq (show w_X5_ifPaid z p1 p2 p3 = zB (w_X1_copyFrom z (z.1 1) (z.1 0)) ((w_X1_copyFrom z (z.1 1) (z.1 0)).1 1) (w_X1_takePayment ((w_X1_copyFrom z (z.1 1) (z.1 0)).2 ((w_X1_copyFrom z (z.1 1) (z.1 0)).1 1)) p1 p2) from (if_neg c1).trans ((if_neg c2).trans ((if_neg c3).trans ((if_pos c4).trans ((if_neg c5).trans rfl))))) hP) (show v_X5_ifPaid z p1 p2 p3 = v_X1_takePayment ((w_X1_copyFrom z (z.1 1) (z.1 0)).2 ((w_X1_copyFrom z (z.1 1) (z.1 0)).1 1)) p1 p2 from (if_neg c1).trans ((if_neg c2).trans ((if_neg c3).trans ((if_pos c4).trans ((if_neg c5).trans rfl))))).symm dX5_ifPaid_57
        · skip
          refine lv_bipush (v := -2) hx hb dX5_ifPaid_25 (by decide) ?_
          exact e_int S hr hlk rfl hK hS (cP_eq (show w_X5_ifPaid z p1 p2 p3 = z from (if_neg c1).trans ((if_neg c2).trans ((if_neg c3).trans ((if_neg c4).trans rfl)))) hP) (show v_X5_ifPaid z p1 p2 p3 = (-2 : Int32) from (if_neg c1).trans ((if_neg c2).trans ((if_neg c3).trans ((if_neg c4).trans rfl)))).symm dX5_ifPaid_27
  · skip
    refine lv_iconst (v := -1) hx hb dX5_ifPaid_7 (by decide) ?_
    exact e_int S hr hlk rfl hK hS (cP_eq (show w_X5_ifPaid z p1 p2 p3 = z from (if_pos c1).trans rfl) hP) (show v_X5_ifPaid z p1 p2 p3 = (-1 : Int32) from (if_pos c1).trans rfl).symm dX5_ifPaid_8
