theorem vp_X6_isBill {u : Nat → Nat → Int32} {x : Int32} (hm : SI (u 1)) (h : ¬ v_X6_isBill u x = 0) : vp_in x 40 := by
  have h2 := SI_nb2 hm
  obtain ⟨h3, h4⟩ := in6 h
  have h5 := Int32.le_iff_toInt_le.mp h3
  have h6 := Int32.le_iff_toInt_le.mp h4
  have h7 : (0 : Int32).toInt = 0 := by decide
  have h8 : (u 1 6 - (1 : Int32)).toInt < 40 := by
    rw [SI_nb hm]
    rcases Nat.eq_zero_or_pos (sN (u 1) 6) with e | e
    · rw [e]; decide
    · obtain ⟨k, hk⟩ : ∃ k, sN (u 1) 6 = k + 1 := ⟨sN (u 1) 6 - 1, by omega⟩
      rw [hk, nI_pred, nI_toInt (by omega)]
      omega
  exact vp_of (by omega) (by omega)
theorem KI_eq {s s' : Nat → Int32} (h : s' = s) (hk : KI s) : KI s' := h ▸ hk

def v_X6_wouldBeTooMuch (u : Nat → Nat → Int32) (cu : Nat) (p2 : Int32) : Int32 := v_X6_isTooMuch (w_X6_paysAll (w_X6_putAside u) cu p2)
def w_X6_wouldBeTooMuch (u : Nat → Nat → Int32) (cu : Nat) (p2 : Int32) : Nat → Nat → Int32 := w_X6_putBack (w_X6_paysAll (w_X6_putAside u) cu p2)
theorem q_X6_wouldBeTooMuch : yX6_wouldBeTooMuch.cls ≠ "java/lang/invoke/MethodHandle" ∧ yX6_wouldBeTooMuch.cls ≠ "java/lang/invoke/VarHandle" ∧ (parseMethodDescriptor yX6_wouldBeTooMuch.desc).map (fun d => d.parameters.length) = some 2 := ⟨by decide, by decide, by decide +kernel⟩
theorem z_X6_wouldBeTooMuch (u : Nat → Nat → Int32) (cu : Nat) (p2 : Int32) : narrow .boolean (.int (v_X6_wouldBeTooMuch u cu p2)) = .int (v_X6_wouldBeTooMuch u cu p2) := by
  unfold v_X6_wouldBeTooMuch
  exact (z_X6_isTooMuch _)
set_option maxHeartbeats 4000000 in
set_option maxRecDepth 100000 in
theorem c_X6_wouldBeTooMuch (l : Launch) (G : kG) (a : Nat → Nat) (hI : gI 8 a) (u : Nat → Nat → Int32) (cu : Nat) (hcu : cu < 8) (p2 : Int32) (hm : SI (u 1)) : Met l yX6_wouldBeTooMuch (Cond.code yX6_wouldBeTooMuch cX6_wouldBeTooMuch 5 (some .boolean) :: BIG) (rmK 7) (pcG G (mP G a u) [.ref (a 0), .int (nI cu), .int p2]) (qcI G (gA 8 a) (mP G a (w_X6_wouldBeTooMuch u cu p2)) (v_X6_wouldBeTooMuch u cu p2)) 0 0 (gA 8 a) := by
  refine m_start (by decide) (Nat.le_of_ble_eq_true rfl) ?_
  intro p e s m args below meth c S hr hlk hnm hP hK ls hl
  have hx := S.1
  have hb := S.2.1
  have hown := S.2.2.2.1
  have hS : va_S (gA 8 a) s.heap s.heap [] := va_S.rf
  have hl : lv_has ls 5 [(0, .ref (a 0)), (1, .int (nI cu)), (2, .int p2)] := hl
  refine lv_aload_n hx hb dX6_wouldBeTooMuch_0 rfl (lv_at hl 0 rfl) ?_
  refine r_callV S hK hP (c_X6_putAside l G a hI u ) (r_cw S k_278 k_275 k_276 k_277 k_5 q_X6_putAside ⟨Nat.le_of_ble_eq_true rfl, Nat.le_of_ble_eq_true rfl⟩ rfl rfl) (g_recv hK hP (i := 0) (by omega) mC0 rfl) rfl hl.1 rfl (Nat.le_of_ble_eq_true rfl) dX6_wouldBeTooMuch_1 ⟨Nat.zero_le _, Nat.zero_le _⟩ hS (fun _ h => h) (fun H locs hP _ _ hS => ?_)
  have hP : mP G a (w_X6_putAside u) H := hP
  refine lv_aload_n hx hb dX6_wouldBeTooMuch_4 rfl (lv_at hl 0 rfl) ?_
  refine lv_iload_n hx hb dX6_wouldBeTooMuch_5 rfl (lv_at hl 1 rfl) ?_
  refine lv_iload_n hx hb dX6_wouldBeTooMuch_6 rfl (lv_at hl 2 rfl) ?_
  refine r_callI S hK hP (c_X6_paysAll l G a hI (w_X6_putAside u) cu (by omega) _ (aside_SI hm)) (r_cw S k_282 k_279 k_280 k_281 k_5 q_X6_paysAll ⟨Nat.le_of_ble_eq_true rfl, Nat.le_of_ble_eq_true rfl⟩ rfl rfl) (g_recv hK hP (i := 0) (by omega) mC0 rfl) rfl hl.1 rfl (Nat.le_of_ble_eq_true rfl) dX6_wouldBeTooMuch_7 ⟨Nat.zero_le _, Nat.zero_le _⟩ hS (fun _ h => h) (fun H locs hP _ _ hS => ?_)
  have hP : mP G a (w_X6_paysAll (w_X6_putAside u) cu p2) H := hP
  refine lv_istore_n (lv' := [(3, .int (v_X6_paysAll (w_X6_putAside u) cu p2)), (0, .ref (a 0)), (1, .int (nI cu)), (2, .int p2)]) hx hb dX6_wouldBeTooMuch_10 rfl hl (by decide) rfl (fun ls hl => ?_)
  refine lv_aload_n hx hb dX6_wouldBeTooMuch_11 rfl (lv_at hl 1 rfl) ?_
  refine r_callI S hK hP (c_X6_isTooMuch l G a hI (w_X6_paysAll (w_X6_putAside u) cu p2) ) (r_cw S k_294 k_291 k_292 k_293 k_5 q_X6_isTooMuch ⟨Nat.le_of_ble_eq_true rfl, Nat.le_of_ble_eq_true rfl⟩ rfl rfl) (g_recv hK hP (i := 0) (by omega) mC0 rfl) rfl hl.1 rfl (Nat.le_of_ble_eq_true rfl) dX6_wouldBeTooMuch_12 ⟨Nat.zero_le _, Nat.zero_le _⟩ hS (fun _ h => h) (fun H locs hP _ _ hS => ?_)
  have hP : mP G a (w_X6_paysAll (w_X6_putAside u) cu p2) H := hP
  refine lv_istore (lv' := [(4, .int (v_X6_isTooMuch (w_X6_paysAll (w_X6_putAside u) cu p2))), (3, .int (v_X6_paysAll (w_X6_putAside u) cu p2)), (0, .ref (a 0)), (1, .int (nI cu)), (2, .int p2)]) hx hb dX6_wouldBeTooMuch_15 hl (by decide) rfl (fun ls hl => ?_)
  refine lv_aload_n hx hb dX6_wouldBeTooMuch_17 rfl (lv_at hl 2 rfl) ?_
  refine r_callV S hK hP (c_X6_putBack l G a hI (w_X6_paysAll (w_X6_putAside u) cu p2) ) (r_cw S k_299 k_296 k_297 k_298 k_5 q_X6_putBack ⟨Nat.le_of_ble_eq_true rfl, Nat.le_of_ble_eq_true rfl⟩ rfl rfl) (g_recv hK hP (i := 0) (by omega) mC0 rfl) rfl hl.1 rfl (Nat.le_of_ble_eq_true rfl) dX6_wouldBeTooMuch_18 ⟨Nat.zero_le _, Nat.zero_le _⟩ hS (fun _ h => h) (fun H locs hP _ _ hS => ?_)
  have hP : mP G a (w_X6_putBack (w_X6_paysAll (w_X6_putAside u) cu p2)) H := hP
  refine lv_iload hx hb dX6_wouldBeTooMuch_21 (lv_at hl 0 rfl) ?_
  exact e_int S hr hlk (z_X6_isTooMuch _) hK hS (gP_eq (show w_X6_wouldBeTooMuch u cu p2 = w_X6_putBack (w_X6_paysAll (w_X6_putAside u) cu p2) from rfl) hP) (show v_X6_wouldBeTooMuch u cu p2 = v_X6_isTooMuch (w_X6_paysAll (w_X6_putAside u) cu p2) from rfl).symm dX6_wouldBeTooMuch_23

theorem would_1 {u : Nat → Nat → Int32} {cu : Nat} {p : Int32} (hm : SI (u 1)) (hcu : cu < 8) : w_X6_wouldBeTooMuch u cu p 1 = u 1 := back_1 (paysAll_PR (aside_SI hm) hcu)
theorem would_o {u : Nat → Nat → Int32} {cu i : Nat} {p : Int32} (hm : SI (u 1)) (hcu : cu < 8) (h1 : i ≠ 1) (h2 : i ≠ 2) : w_X6_wouldBeTooMuch u cu p i = u i := back_o (paysAll_PR (aside_SI hm) hcu) h1 h2
theorem would_SI {u : Nat → Nat → Int32} {cu : Nat} {p : Int32} (hm : SI (u 1)) (hcu : cu < 8) : SI (w_X6_wouldBeTooMuch u cu p 1) := by
  rw [would_1 hm hcu]; exact hm
theorem would_KI {u : Nat → Nat → Int32} {cu : Nat} {p : Int32} (hm : SI (u 1)) (hcu : cu < 8) (hk : KI (u 0)) : KI (w_X6_wouldBeTooMuch u cu p 0) := KI_eq (would_o hm hcu (by decide) (by decide)) hk

def v_X6_refusalOn (u : Nat → Nat → Int32) (j : Nat) (p2 : Int32) : Int32 := if v_X6_is u j (1 : Int32) = 0 then (if v_X6_isTooMuch (w_X6_paidOn (w_X6_putAside u) j p2) = 0 then (0 : Int32) else (-3 : Int32)) else (-4 : Int32)
def w_X6_refusalOn (u : Nat → Nat → Int32) (j : Nat) (p2 : Int32) : Nat → Nat → Int32 := if v_X6_is u j (1 : Int32) = 0 then (if v_X6_isTooMuch (w_X6_paidOn (w_X6_putAside u) j p2) = 0 then (w_X6_putBack (w_X6_paidOn (w_X6_putAside u) j p2)) else w_X6_putBack (w_X6_paidOn (w_X6_putAside u) j p2)) else u
theorem q_X6_refusalOn : yX6_refusalOn.cls ≠ "java/lang/invoke/MethodHandle" ∧ yX6_refusalOn.cls ≠ "java/lang/invoke/VarHandle" ∧ (parseMethodDescriptor yX6_refusalOn.desc).map (fun d => d.parameters.length) = some 2 := ⟨by decide, by decide, by decide +kernel⟩
set_option maxHeartbeats 4000000 in
set_option maxRecDepth 100000 in
theorem c_X6_refusalOn (l : Launch) (G : kG) (a : Nat → Nat) (hI : gI 8 a) (u : Nat → Nat → Int32) (j : Nat) (hj : j < 40) (p2 : Int32) (hm : SI (u 1)) : Met l yX6_refusalOn (Cond.code yX6_refusalOn cX6_refusalOn 5 (some .int) :: BIG) (rmK 7) (pcG G (mP G a u) [.ref (a 0), .int (nI j), .int p2]) (qcI G (gA 8 a) (mP G a (w_X6_refusalOn u j p2)) (v_X6_refusalOn u j p2)) 0 0 (gA 8 a) := by
  refine m_start (by decide) (Nat.le_of_ble_eq_true rfl) ?_
  intro p e s m args below meth c S hr hlk hnm hP hK ls hl
  have hx := S.1
  have hb := S.2.1
  have hown := S.2.2.2.1
  have hS : va_S (gA 8 a) s.heap s.heap [] := va_S.rf
  have hl : lv_has ls 5 [(0, .ref (a 0)), (1, .int (nI j)), (2, .int p2)] := hl
  refine lv_aload_n hx hb dX6_refusalOn_0 rfl (lv_at hl 0 rfl) ?_
  refine lv_iload_n hx hb dX6_refusalOn_1 rfl (lv_at hl 1 rfl) ?_
  refine lv_iconst (v := 1) hx hb dX6_refusalOn_2 (by decide) ?_
  refine r_callI S hK hP (c_X6_is l G a hI u j (by omega) _ ) (r_cw S k_290 k_287 k_288 k_289 k_5 q_X6_is ⟨Nat.le_of_ble_eq_true rfl, Nat.le_of_ble_eq_true rfl⟩ rfl rfl) (g_recv hK hP (i := 0) (by omega) mC0 rfl) rfl hl.1 rfl (Nat.le_of_ble_eq_true rfl) dX6_refusalOn_3 ⟨Nat.zero_le _, Nat.zero_le _⟩ hS (fun _ h => h) (fun H locs hP _ _ hS => ?_)
  have hP : mP G a u H := hP
  refine lv_if_eq (tgt := 12) hx hb dX6_refusalOn_6 (by decide) (fun c1 => ?_) (fun c1 => ?_)
  · skip
    refine lv_aload_n hx hb dX6_refusalOn_12 rfl (lv_at hl 0 rfl) ?_
    refine r_callV S hK hP (c_X6_putAside l G a hI u ) (r_cw S k_278 k_275 k_276 k_277 k_5 q_X6_putAside ⟨Nat.le_of_ble_eq_true rfl, Nat.le_of_ble_eq_true rfl⟩ rfl rfl) (g_recv hK hP (i := 0) (by omega) mC0 rfl) rfl hl.1 rfl (Nat.le_of_ble_eq_true rfl) dX6_refusalOn_13 ⟨Nat.zero_le _, Nat.zero_le _⟩ hS (fun _ h => h) (fun H locs hP _ _ hS => ?_)
    have hP : mP G a (w_X6_putAside u) H := hP
    refine lv_aload_n hx hb dX6_refusalOn_16 rfl (lv_at hl 0 rfl) ?_
    refine lv_iload_n hx hb dX6_refusalOn_17 rfl (lv_at hl 1 rfl) ?_
    refine lv_iload_n hx hb dX6_refusalOn_18 rfl (lv_at hl 2 rfl) ?_
    refine r_callI S hK hP (c_X6_paidOn l G a hI (w_X6_putAside u) j (by omega) _ (aside_SI hm)) (r_cw S k_328 k_325 k_326 k_327 k_5 q_X6_paidOn ⟨Nat.le_of_ble_eq_true rfl, Nat.le_of_ble_eq_true rfl⟩ rfl rfl) (g_recv hK hP (i := 0) (by omega) mC0 rfl) rfl hl.1 rfl (Nat.le_of_ble_eq_true rfl) dX6_refusalOn_19 ⟨Nat.zero_le _, Nat.zero_le _⟩ hS (fun _ h => h) (fun H locs hP _ _ hS => ?_)
    have hP : mP G a (w_X6_paidOn (w_X6_putAside u) j p2) H := hP
    refine lv_istore_n (lv' := [(3, .int (v_X6_paidOn (w_X6_putAside u) j p2)), (0, .ref (a 0)), (1, .int (nI j)), (2, .int p2)]) hx hb dX6_refusalOn_22 rfl hl (by decide) rfl (fun ls hl => ?_)
    refine lv_aload_n hx hb dX6_refusalOn_23 rfl (lv_at hl 1 rfl) ?_
    refine r_callI S hK hP (c_X6_isTooMuch l G a hI (w_X6_paidOn (w_X6_putAside u) j p2) ) (r_cw S k_294 k_291 k_292 k_293 k_5 q_X6_isTooMuch ⟨Nat.le_of_ble_eq_true rfl, Nat.le_of_ble_eq_true rfl⟩ rfl rfl) (g_recv hK hP (i := 0) (by omega) mC0 rfl) rfl hl.1 rfl (Nat.le_of_ble_eq_true rfl) dX6_refusalOn_24 ⟨Nat.zero_le _, Nat.zero_le _⟩ hS (fun _ h => h) (fun H locs hP _ _ hS => ?_)
    have hP : mP G a (w_X6_paidOn (w_X6_putAside u) j p2) H := hP
    refine lv_istore (lv' := [(4, .int (v_X6_isTooMuch (w_X6_paidOn (w_X6_putAside u) j p2))), (3, .int (v_X6_paidOn (w_X6_putAside u) j p2)), (0, .ref (a 0)), (1, .int (nI j)), (2, .int p2)]) hx hb dX6_refusalOn_27 hl (by decide) rfl (fun ls hl => ?_)
    refine lv_aload_n hx hb dX6_refusalOn_29 rfl (lv_at hl 2 rfl) ?_
    refine r_callV S hK hP (c_X6_putBack l G a hI (w_X6_paidOn (w_X6_putAside u) j p2) ) (r_cw S k_299 k_296 k_297 k_298 k_5 q_X6_putBack ⟨Nat.le_of_ble_eq_true rfl, Nat.le_of_ble_eq_true rfl⟩ rfl rfl) (g_recv hK hP (i := 0) (by omega) mC0 rfl) rfl hl.1 rfl (Nat.le_of_ble_eq_true rfl) dX6_refusalOn_30 ⟨Nat.zero_le _, Nat.zero_le _⟩ hS (fun _ h => h) (fun H locs hP _ _ hS => ?_)
    have hP : mP G a (w_X6_putBack (w_X6_paidOn (w_X6_putAside u) j p2)) H := hP
    refine lv_iload hx hb dX6_refusalOn_33 (lv_at hl 0 rfl) ?_
    refine lv_if_eq (tgt := 43) hx hb dX6_refusalOn_35 (by decide) (fun c2 => ?_) (fun c2 => ?_)
    · skip
      refine lv_iconst (v := 0) hx hb dX6_refusalOn_43 (by decide) ?_
      exact e_int S hr hlk rfl hK hS (gP_eq (show w_X6_refusalOn u j p2 = w_X6_putBack (w_X6_paidOn (w_X6_putAside u) j p2) from (if_pos c1).trans ((if_pos c2).trans rfl)) hP) (show v_X6_refusalOn u j p2 = (0 : Int32) from (if_pos c1).trans ((if_pos c2).trans rfl)).symm dX6_refusalOn_44
    · skip
      refine lv_bipush (v := -3) hx hb dX6_refusalOn_38 (by decide) ?_
      refine lv_goto (tgt := 44) hx hb dX6_refusalOn_40 (by decide) ?_
      exact e_int S hr hlk rfl hK hS (gP_eq (show w_X6_refusalOn u j p2 = w_X6_putBack (w_X6_paidOn (w_X6_putAside u) j p2) from (if_pos c1).trans ((if_neg c2).trans rfl)) hP) (show v_X6_refusalOn u j p2 = (-3 : Int32) from (if_pos c1).trans ((if_neg c2).trans rfl)).symm dX6_refusalOn_44
  · skip
    refine lv_bipush (v := -4) hx hb dX6_refusalOn_9 (by decide) ?_
    exact e_int S hr hlk rfl hK hS (gP_eq (show w_X6_refusalOn u j p2 = u from (if_neg c1).trans rfl) hP) (show v_X6_refusalOn u j p2 = (-4 : Int32) from (if_neg c1).trans rfl).symm dX6_refusalOn_11

theorem refusal_1 {u : Nat → Nat → Int32} {j : Nat} {p : Int32} (hm : SI (u 1)) (hj : j < 40) : w_X6_refusalOn u j p 1 = u 1 := by
  unfold w_X6_refusalOn
  by_cases hp : v_X6_is u j (1 : Int32) = 0
  · rw [if_pos hp, ite_self]
    exact back_1 (paidOn_PR (aside_SI hm) hj)
  · rw [if_neg hp]
theorem refusal_o {u : Nat → Nat → Int32} {j i : Nat} {p : Int32} (hm : SI (u 1)) (hj : j < 40) (h1 : i ≠ 1) (h2 : i ≠ 2) : w_X6_refusalOn u j p i = u i := by
  unfold w_X6_refusalOn
  by_cases hp : v_X6_is u j (1 : Int32) = 0
  · rw [if_pos hp, ite_self]
    exact back_o (paidOn_PR (aside_SI hm) hj) h1 h2
  · rw [if_neg hp]
theorem refusal_SI {u : Nat → Nat → Int32} {j : Nat} {p : Int32} (hm : SI (u 1)) (hj : j < 40) : SI (w_X6_refusalOn u j p 1) := by
  rw [refusal_1 hm hj]; exact hm
theorem refusal_KI {u : Nat → Nat → Int32} {j : Nat} {p : Int32} (hm : SI (u 1)) (hj : j < 40) (hk : KI (u 0)) : KI (w_X6_refusalOn u j p 0) := KI_eq (refusal_o hm hj (by decide) (by decide)) hk
theorem isNet_r {a b c : Int32} (h : ¬ v_X6_isNet a b c = 0) : ∃ r : Nat, r ≤ 40 ∧ b = nI r := by
  unfold v_X6_isNet at h
  by_cases h1 : v_X6_in a 1 9999 = 0
  · exact absurd (if_pos h1) h
  · rw [if_neg h1] at h
    by_cases h2 : v_X6_in b 0 40 = 0
    · exact absurd (if_pos h2) h
    · obtain ⟨j, hj, e⟩ := vp_in_of (n := 41) (vp_in6 h2 (by decide) (by decide)) (by decide)
      exact ⟨j, by omega, e⟩
theorem pass_SI {u : Nat → Nat → Int32} {p : Int32} (hm : SI (u 1)) (h1 : ¬ v_X6_in p 1 99 = 0) (h2 : u 1 0 + p ≤ (9999 : Int32)) : SI (up (w_X6_know u) 1 0 (w_X6_know u 1 0 + p) 1) := by
  have hk := know_SI hm
  have e : w_X6_know u 1 = u 1 := know_o (by decide) (by decide) (by decide)
  obtain ⟨j, hj, rfl⟩ := vp_in_of (n := 100) (vp_in6 h1 (by decide) (by decide)) (by decide)
  have hd := SI_day2 hm
  have ed := SI_day hm
  have e2 : u 1 0 + nI j = nI (sN (u 1) 0 + j) := by rw [ed, nI_add]
  have h5 : nI (sN (u 1) 0 + j) ≤ nI 9999 := e2 ▸ h2
  have h6 : sN (u 1) 0 + j ≤ 9999 := (nI_leI (by omega) (by decide)).mp h5
  refine ⟨?_, ⟨sN (u 1) 0 + j, h6, ?_⟩, fun b hb => ?_, fun b hb => ?_⟩
  · rw [up_nk (by decide)]; exact hk.1
  · rw [up_same, e, e2]
  · rw [up_nk (by omega)]; exact hk.2.2.1 b hb
  · rw [up_nk (by omega)]; exact hk.2.2.2 b hb

def v_X6_bill (u : Nat → Nat → Int32) (p1 : Int32) (p2 : Int32) (p3 : Int32) (p4 : Int32) : Int32 := if v_X6_isCustomer p1 = 0 then (-1 : Int32) else if v_X6_isNet p2 p3 p4 = 0 then (-2 : Int32) else if u 1 6 = (40 : Int32) then (-3 : Int32) else v_X6_billed (w_X6_know u) p1.toNatClampNeg p2 p3 p4
def w_X6_bill (u : Nat → Nat → Int32) (p1 : Int32) (p2 : Int32) (p3 : Int32) (p4 : Int32) : Nat → Nat → Int32 := if v_X6_isCustomer p1 = 0 then u else if v_X6_isNet p2 p3 p4 = 0 then u else if u 1 6 = (40 : Int32) then u else w_X6_billed (w_X6_know u) p1.toNatClampNeg p2 p3 p4
theorem q_X6_bill : yX6_bill.cls ≠ "java/lang/invoke/MethodHandle" ∧ yX6_bill.cls ≠ "java/lang/invoke/VarHandle" ∧ (parseMethodDescriptor yX6_bill.desc).map (fun d => d.parameters.length) = some 4 := ⟨by decide, by decide, by decide +kernel⟩
set_option maxHeartbeats 4000000 in
set_option maxRecDepth 100000 in
theorem c_X6_bill (l : Launch) (G : kG) (a : Nat → Nat) (hI : gI 8 a) (u : Nat → Nat → Int32) (p1 : Int32) (p2 : Int32) (p3 : Int32) (p4 : Int32) (hm : SI (u 1)) (hk6 : KI (u 0)) : Met l yX6_bill (Cond.code yX6_bill cX6_bill 5 (some .int) :: BIG) (rmK 7) (pcG G (mP G a u) [.ref (a 0), .int p1, .int p2, .int p3, .int p4]) (qcI G (gA 8 a) (mP G a (w_X6_bill u p1 p2 p3 p4)) (v_X6_bill u p1 p2 p3 p4)) 0 0 (gA 8 a) := by
  refine m_start (by decide) (Nat.le_of_ble_eq_true rfl) ?_
  intro p e s m args below meth c S hr hlk hnm hP hK ls hl
  have hx := S.1
  have hb := S.2.1
  have hown := S.2.2.2.1
  have hS : va_S (gA 8 a) s.heap s.heap [] := va_S.rf
  have hl : lv_has ls 5 [(0, .ref (a 0)), (1, .int p1), (2, .int p2), (3, .int p3), (4, .int p4)] := hl
  refine lv_iload_n hx hb dX6_bill_0 rfl (lv_at hl 1 rfl) ?_
  refine r_callS S hK hP (c_X6_isCustomer l G (mP G a u) (gA 8 a) _ ) (r_cs S k_195 k_193 k_194 k_5 q_X6_isCustomer ⟨Nat.le_of_ble_eq_true rfl, Nat.le_of_ble_eq_true rfl⟩ rfl rfl) rfl hl.1 rfl (Nat.le_of_ble_eq_true rfl) dX6_bill_1 ⟨Nat.zero_le _, Nat.zero_le _⟩ hS (fun _ h => h) (fun H locs hP _ _ hS => ?_)
  have hP : mP G a u H := hP
  refine lv_if_ne (tgt := 9) hx hb dX6_bill_4 (by decide) (fun c1 => ?_) (fun c1 => ?_)
  · skip
    refine lv_iload_n hx hb dX6_bill_9 rfl (lv_at hl 2 rfl) ?_
    refine lv_iload_n hx hb dX6_bill_10 rfl (lv_at hl 3 rfl) ?_
    refine lv_iload hx hb dX6_bill_11 (lv_at hl 4 rfl) ?_
    refine r_callS S hK hP (c_X6_isNet l G (mP G a u) (gA 8 a) _ _ _ ) (r_cs S k_201 k_199 k_200 k_5 q_X6_isNet ⟨Nat.le_of_ble_eq_true rfl, Nat.le_of_ble_eq_true rfl⟩ rfl rfl) rfl hl.1 rfl (Nat.le_of_ble_eq_true rfl) dX6_bill_13 ⟨Nat.zero_le _, Nat.zero_le _⟩ hS (fun _ h => h) (fun H locs hP _ _ hS => ?_)
    have hP : mP G a u H := hP
    refine lv_if_ne (tgt := 22) hx hb dX6_bill_16 (by decide) (fun c2 => ?_) (fun c2 => ?_)
    · skip
      refine lv_aload_n hx hb dX6_bill_22 rfl (lv_at hl 0 rfl) ?_
      refine g_get S hK hP (i := 0) (by omega) mC0 rfl inlX6 0 (by decide) k_67 (v := .ref (a 1)) rfl dX6_bill_23 ?_
      refine lv_bipush (v := 6) hx hb dX6_bill_26 (by decide) ?_
      refine g_aldN S hK hP (i := 1) (by omega) mC1 (k := 6) (by omega) (by decide) (v := u 1 6) (rfl) dX6_bill_28 ?_
      refine lv_bipush (v := 40) hx hb dX6_bill_29 (by decide) ?_
      refine lv_icmp_ne (tgt := 37) hx hb dX6_bill_31 (by decide) (fun c3 => ?_) (fun c3 => ?_)
      · skip
        refine lv_aload_n hx hb dX6_bill_37 rfl (lv_at hl 0 rfl) ?_
        refine r_callV S hK hP (c_X6_know l G a hI u hk6) (r_cw S k_205 k_202 k_203 k_204 k_5 q_X6_know ⟨Nat.le_of_ble_eq_true rfl, Nat.le_of_ble_eq_true rfl⟩ rfl rfl) (g_recv hK hP (i := 0) (by omega) mC0 rfl) rfl hl.1 rfl (Nat.le_of_ble_eq_true rfl) dX6_bill_38 ⟨Nat.zero_le _, Nat.zero_le _⟩ hS (fun _ h => h) (fun H locs hP _ _ hS => ?_)
        have hP : mP G a (w_X6_know u) H := hP
        refine lv_aload_n hx hb dX6_bill_41 rfl (lv_at hl 0 rfl) ?_
        refine lv_iload_n hx hb dX6_bill_42 rfl (lv_at hl 1 rfl) ?_
        have hq_p1 : p1.toNatClampNeg < 8 := vp_lt ((vp_X6_isCustomer c1 (by decide)) : vp_in p1 8)
        refine r_top (v := nI p1.toNatClampNeg) (vp_nI ((vp_X6_isCustomer c1 (by decide)) : vp_in p1 8)) ?_
        refine lv_iload_n hx hb dX6_bill_43 rfl (lv_at hl 2 rfl) ?_
        refine lv_iload_n hx hb dX6_bill_44 rfl (lv_at hl 3 rfl) ?_
        refine lv_iload hx hb dX6_bill_45 (lv_at hl 4 rfl) ?_
        refine r_callI S hK hP (c_X6_billed l G a hI (w_X6_know u) p1.toNatClampNeg (by omega) _ _ _ (know_SI hm) (isNet_r c2)) (r_cw S k_218 k_215 k_216 k_217 k_5 q_X6_billed ⟨Nat.le_of_ble_eq_true rfl, Nat.le_of_ble_eq_true rfl⟩ rfl rfl) (g_recv hK hP (i := 0) (by omega) mC0 rfl) rfl hl.1 rfl (Nat.le_of_ble_eq_true rfl) dX6_bill_47 ⟨Nat.zero_le _, Nat.zero_le _⟩ hS (fun _ h => h) (fun H locs hP _ _ hS => ?_)
        have hP : mP G a (w_X6_billed (w_X6_know u) p1.toNatClampNeg p2 p3 p4) H := hP
        exact e_int S hr hlk rfl hK hS (gP_eq (show w_X6_bill u p1 p2 p3 p4 = w_X6_billed (w_X6_know u) p1.toNatClampNeg p2 p3 p4 from (if_neg c1).trans ((if_neg c2).trans ((if_neg c3).trans rfl))) hP) (show v_X6_bill u p1 p2 p3 p4 = v_X6_billed (w_X6_know u) p1.toNatClampNeg p2 p3 p4 from (if_neg c1).trans ((if_neg c2).trans ((if_neg c3).trans rfl))).symm dX6_bill_50
      · skip
        refine lv_bipush (v := -3) hx hb dX6_bill_34 (by decide) ?_
        exact e_int S hr hlk rfl hK hS (gP_eq (show w_X6_bill u p1 p2 p3 p4 = u from (if_neg c1).trans ((if_neg c2).trans ((if_pos c3).trans rfl))) hP) (show v_X6_bill u p1 p2 p3 p4 = (-3 : Int32) from (if_neg c1).trans ((if_neg c2).trans ((if_pos c3).trans rfl))).symm dX6_bill_36
    · skip
      refine lv_bipush (v := -2) hx hb dX6_bill_19 (by decide) ?_
      exact e_int S hr hlk rfl hK hS (gP_eq (show w_X6_bill u p1 p2 p3 p4 = u from (if_neg c1).trans ((if_pos c2).trans rfl)) hP) (show v_X6_bill u p1 p2 p3 p4 = (-2 : Int32) from (if_neg c1).trans ((if_pos c2).trans rfl)).symm dX6_bill_21
  · skip
    refine lv_iconst (v := -1) hx hb dX6_bill_7 (by decide) ?_
    exact e_int S hr hlk rfl hK hS (gP_eq (show w_X6_bill u p1 p2 p3 p4 = u from (if_pos c1).trans rfl) hP) (show v_X6_bill u p1 p2 p3 p4 = (-1 : Int32) from (if_pos c1).trans rfl).symm dX6_bill_8

def v_X6_pay (u : Nat → Nat → Int32) (p1 : Int32) (p2 : Int32) : Int32 := if v_X6_isCustomer p1 = 0 then (-1 : Int32) else if v_X6_isAmount p2 = 0 then (-2 : Int32) else if v_X6_wouldBeTooMuch u p1.toNatClampNeg p2 = 0 then (v_X6_paysAll (w_X6_know (w_X6_wouldBeTooMuch u p1.toNatClampNeg p2)) p1.toNatClampNeg p2) else (-3 : Int32)
def w_X6_pay (u : Nat → Nat → Int32) (p1 : Int32) (p2 : Int32) : Nat → Nat → Int32 := if v_X6_isCustomer p1 = 0 then u else if v_X6_isAmount p2 = 0 then u else if v_X6_wouldBeTooMuch u p1.toNatClampNeg p2 = 0 then (w_X6_paysAll (w_X6_know (w_X6_wouldBeTooMuch u p1.toNatClampNeg p2)) p1.toNatClampNeg p2) else w_X6_wouldBeTooMuch u p1.toNatClampNeg p2
theorem q_X6_pay : yX6_pay.cls ≠ "java/lang/invoke/MethodHandle" ∧ yX6_pay.cls ≠ "java/lang/invoke/VarHandle" ∧ (parseMethodDescriptor yX6_pay.desc).map (fun d => d.parameters.length) = some 2 := ⟨by decide, by decide, by decide +kernel⟩
set_option maxHeartbeats 4000000 in
set_option maxRecDepth 100000 in
theorem c_X6_pay (l : Launch) (G : kG) (a : Nat → Nat) (hI : gI 8 a) (u : Nat → Nat → Int32) (p1 : Int32) (p2 : Int32) (hm : SI (u 1)) (hk6 : KI (u 0)) : Met l yX6_pay (Cond.code yX6_pay cX6_pay 3 (some .int) :: BIG) (rmK 8) (pcG G (mP G a u) [.ref (a 0), .int p1, .int p2]) (qcI G (gA 8 a) (mP G a (w_X6_pay u p1 p2)) (v_X6_pay u p1 p2)) 0 0 (gA 8 a) := by
  refine m_start (by decide) (Nat.le_of_ble_eq_true rfl) ?_
  intro p e s m args below meth c S hr hlk hnm hP hK ls hl
  have hx := S.1
  have hb := S.2.1
  have hown := S.2.2.2.1
  have hS : va_S (gA 8 a) s.heap s.heap [] := va_S.rf
  have hl : lv_has ls 3 [(0, .ref (a 0)), (1, .int p1), (2, .int p2)] := hl
  refine lv_iload_n hx hb dX6_pay_0 rfl (lv_at hl 1 rfl) ?_
  refine r_callS S hK hP (c_X6_isCustomer l G (mP G a u) (gA 8 a) _ ) (r_cs S k_195 k_193 k_194 k_5 q_X6_isCustomer ⟨Nat.le_of_ble_eq_true rfl, Nat.le_of_ble_eq_true rfl⟩ rfl rfl) rfl hl.1 rfl (Nat.le_of_ble_eq_true rfl) dX6_pay_1 ⟨Nat.zero_le _, Nat.zero_le _⟩ hS (fun _ h => h) (fun H locs hP _ _ hS => ?_)
  have hP : mP G a u H := hP
  refine lv_if_ne (tgt := 9) hx hb dX6_pay_4 (by decide) (fun c1 => ?_) (fun c1 => ?_)
  · skip
    refine lv_iload_n hx hb dX6_pay_9 rfl (lv_at hl 2 rfl) ?_
    refine r_callS S hK hP (c_X6_isAmount l G (mP G a u) (gA 8 a) _ ) (r_cs S k_269 k_267 k_268 k_5 q_X6_isAmount ⟨Nat.le_of_ble_eq_true rfl, Nat.le_of_ble_eq_true rfl⟩ rfl rfl) rfl hl.1 rfl (Nat.le_of_ble_eq_true rfl) dX6_pay_10 ⟨Nat.zero_le _, Nat.zero_le _⟩ hS (fun _ h => h) (fun H locs hP _ _ hS => ?_)
    have hP : mP G a u H := hP
    refine lv_if_ne (tgt := 19) hx hb dX6_pay_13 (by decide) (fun c2 => ?_) (fun c2 => ?_)
    · skip
      refine lv_aload_n hx hb dX6_pay_19 rfl (lv_at hl 0 rfl) ?_
      refine lv_iload_n hx hb dX6_pay_20 rfl (lv_at hl 1 rfl) ?_
      have hq_p1 : p1.toNatClampNeg < 8 := vp_lt ((vp_X6_isCustomer c1 (by decide)) : vp_in p1 8)
      refine r_top (v := nI p1.toNatClampNeg) (vp_nI ((vp_X6_isCustomer c1 (by decide)) : vp_in p1 8)) ?_
      refine lv_iload_n hx hb dX6_pay_21 rfl (lv_at hl 2 rfl) ?_
      refine r_callI S hK hP (c_X6_wouldBeTooMuch l G a hI u p1.toNatClampNeg (by omega) _ hm) (r_cw S k_274 k_271 k_272 k_273 k_5 q_X6_wouldBeTooMuch ⟨Nat.le_of_ble_eq_true rfl, Nat.le_of_ble_eq_true rfl⟩ rfl rfl) (g_recv hK hP (i := 0) (by omega) mC0 rfl) rfl hl.1 rfl (Nat.le_of_ble_eq_true rfl) dX6_pay_22 ⟨Nat.zero_le _, Nat.zero_le _⟩ hS (fun _ h => h) (fun H locs hP _ _ hS => ?_)
      have hP : mP G a (w_X6_wouldBeTooMuch u p1.toNatClampNeg p2) H := hP
      refine lv_if_eq (tgt := 31) hx hb dX6_pay_25 (by decide) (fun c3 => ?_) (fun c3 => ?_)
      · skip
        refine lv_aload_n hx hb dX6_pay_31 rfl (lv_at hl 0 rfl) ?_
        refine r_callV S hK hP (c_X6_know l G a hI (w_X6_wouldBeTooMuch u p1.toNatClampNeg p2) (would_KI hm (by omega) hk6)) (r_cw S k_205 k_202 k_203 k_204 k_5 q_X6_know ⟨Nat.le_of_ble_eq_true rfl, Nat.le_of_ble_eq_true rfl⟩ rfl rfl) (g_recv hK hP (i := 0) (by omega) mC0 rfl) rfl hl.1 rfl (Nat.le_of_ble_eq_true rfl) dX6_pay_32 ⟨Nat.zero_le _, Nat.zero_le _⟩ hS (fun _ h => h) (fun H locs hP _ _ hS => ?_)
        have hP : mP G a (w_X6_know (w_X6_wouldBeTooMuch u p1.toNatClampNeg p2)) H := hP
        refine lv_aload_n hx hb dX6_pay_35 rfl (lv_at hl 0 rfl) ?_
        refine lv_iload_n hx hb dX6_pay_36 rfl (lv_at hl 1 rfl) ?_
        have hq_p1 : p1.toNatClampNeg < 8 := vp_lt ((vp_X6_isCustomer c1 (by decide)) : vp_in p1 8)
        refine r_top (v := nI p1.toNatClampNeg) (vp_nI ((vp_X6_isCustomer c1 (by decide)) : vp_in p1 8)) ?_
        refine lv_iload_n hx hb dX6_pay_37 rfl (lv_at hl 2 rfl) ?_
        refine r_callI S hK hP (c_X6_paysAll l G a hI (w_X6_know (w_X6_wouldBeTooMuch u p1.toNatClampNeg p2)) p1.toNatClampNeg (by omega) _ (know_SI (would_SI hm (by omega)))) (r_cw S k_282 k_279 k_280 k_281 k_5 q_X6_paysAll ⟨Nat.le_of_ble_eq_true rfl, Nat.le_of_ble_eq_true rfl⟩ rfl rfl) (g_recv hK hP (i := 0) (by omega) mC0 rfl) rfl hl.1 rfl (Nat.le_of_ble_eq_true rfl) dX6_pay_38 ⟨Nat.zero_le _, Nat.zero_le _⟩ hS (fun _ h => h) (fun H locs hP _ _ hS => ?_)
        have hP : mP G a (w_X6_paysAll (w_X6_know (w_X6_wouldBeTooMuch u p1.toNatClampNeg p2)) p1.toNatClampNeg p2) H := hP
        exact e_int S hr hlk rfl hK hS (gP_eq (show w_X6_pay u p1 p2 = w_X6_paysAll (w_X6_know (w_X6_wouldBeTooMuch u p1.toNatClampNeg p2)) p1.toNatClampNeg p2 from (if_neg c1).trans ((if_neg c2).trans ((if_pos c3).trans rfl))) hP) (show v_X6_pay u p1 p2 = v_X6_paysAll (w_X6_know (w_X6_wouldBeTooMuch u p1.toNatClampNeg p2)) p1.toNatClampNeg p2 from (if_neg c1).trans ((if_neg c2).trans ((if_pos c3).trans rfl))).symm dX6_pay_41
      · skip
        refine lv_bipush (v := -3) hx hb dX6_pay_28 (by decide) ?_
        exact e_int S hr hlk rfl hK hS (gP_eq (show w_X6_pay u p1 p2 = w_X6_wouldBeTooMuch u p1.toNatClampNeg p2 from (if_neg c1).trans ((if_neg c2).trans ((if_neg c3).trans rfl))) hP) (show v_X6_pay u p1 p2 = (-3 : Int32) from (if_neg c1).trans ((if_neg c2).trans ((if_neg c3).trans rfl))).symm dX6_pay_30
    · skip
      refine lv_bipush (v := -2) hx hb dX6_pay_16 (by decide) ?_
      exact e_int S hr hlk rfl hK hS (gP_eq (show w_X6_pay u p1 p2 = u from (if_neg c1).trans ((if_pos c2).trans rfl)) hP) (show v_X6_pay u p1 p2 = (-2 : Int32) from (if_neg c1).trans ((if_pos c2).trans rfl)).symm dX6_pay_18
  · skip
    refine lv_iconst (v := -1) hx hb dX6_pay_7 (by decide) ?_
    exact e_int S hr hlk rfl hK hS (gP_eq (show w_X6_pay u p1 p2 = u from (if_pos c1).trans rfl) hP) (show v_X6_pay u p1 p2 = (-1 : Int32) from (if_pos c1).trans rfl).symm dX6_pay_8

def v_X6_payBill (u : Nat → Nat → Int32) (p1 : Int32) (p2 : Int32) : Int32 := if v_X6_isBill u p1 = 0 then (-1 : Int32) else if v_X6_isAmount p2 = 0 then (-2 : Int32) else if 0 ≤ v_X6_refusalOn u p1.toNatClampNeg p2 then (v_X6_paidOn (w_X6_know (w_X6_refusalOn u p1.toNatClampNeg p2)) p1.toNatClampNeg p2) else v_X6_refusalOn u p1.toNatClampNeg p2
def w_X6_payBill (u : Nat → Nat → Int32) (p1 : Int32) (p2 : Int32) : Nat → Nat → Int32 := if v_X6_isBill u p1 = 0 then u else if v_X6_isAmount p2 = 0 then u else if 0 ≤ v_X6_refusalOn u p1.toNatClampNeg p2 then (w_X6_paidOn (w_X6_know (w_X6_refusalOn u p1.toNatClampNeg p2)) p1.toNatClampNeg p2) else w_X6_refusalOn u p1.toNatClampNeg p2
theorem q_X6_payBill : yX6_payBill.cls ≠ "java/lang/invoke/MethodHandle" ∧ yX6_payBill.cls ≠ "java/lang/invoke/VarHandle" ∧ (parseMethodDescriptor yX6_payBill.desc).map (fun d => d.parameters.length) = some 2 := ⟨by decide, by decide, by decide +kernel⟩
set_option maxHeartbeats 4000000 in
set_option maxRecDepth 100000 in
theorem c_X6_payBill (l : Launch) (G : kG) (a : Nat → Nat) (hI : gI 8 a) (u : Nat → Nat → Int32) (p1 : Int32) (p2 : Int32) (hm : SI (u 1)) (hk6 : KI (u 0)) : Met l yX6_payBill (Cond.code yX6_payBill cX6_payBill 4 (some .int) :: BIG) (rmK 8) (pcG G (mP G a u) [.ref (a 0), .int p1, .int p2]) (qcI G (gA 8 a) (mP G a (w_X6_payBill u p1 p2)) (v_X6_payBill u p1 p2)) 0 0 (gA 8 a) := by
  refine m_start (by decide) (Nat.le_of_ble_eq_true rfl) ?_
  intro p e s m args below meth c S hr hlk hnm hP hK ls hl
  have hx := S.1
  have hb := S.2.1
  have hown := S.2.2.2.1
  have hS : va_S (gA 8 a) s.heap s.heap [] := va_S.rf
  have hl : lv_has ls 4 [(0, .ref (a 0)), (1, .int p1), (2, .int p2)] := hl
  refine lv_aload_n hx hb dX6_payBill_0 rfl (lv_at hl 0 rfl) ?_
  refine lv_iload_n hx hb dX6_payBill_1 rfl (lv_at hl 1 rfl) ?_
  refine r_callI S hK hP (c_X6_isBill l G a hI u _ ) (r_cw S k_320 k_317 k_318 k_319 k_5 q_X6_isBill ⟨Nat.le_of_ble_eq_true rfl, Nat.le_of_ble_eq_true rfl⟩ rfl rfl) (g_recv hK hP (i := 0) (by omega) mC0 rfl) rfl hl.1 rfl (Nat.le_of_ble_eq_true rfl) dX6_payBill_2 ⟨Nat.zero_le _, Nat.zero_le _⟩ hS (fun _ h => h) (fun H locs hP _ _ hS => ?_)
  have hP : mP G a u H := hP
  refine lv_if_ne (tgt := 10) hx hb dX6_payBill_5 (by decide) (fun c1 => ?_) (fun c1 => ?_)
  · skip
    refine lv_iload_n hx hb dX6_payBill_10 rfl (lv_at hl 2 rfl) ?_
    refine r_callS S hK hP (c_X6_isAmount l G (mP G a u) (gA 8 a) _ ) (r_cs S k_269 k_267 k_268 k_5 q_X6_isAmount ⟨Nat.le_of_ble_eq_true rfl, Nat.le_of_ble_eq_true rfl⟩ rfl rfl) rfl hl.1 rfl (Nat.le_of_ble_eq_true rfl) dX6_payBill_11 ⟨Nat.zero_le _, Nat.zero_le _⟩ hS (fun _ h => h) (fun H locs hP _ _ hS => ?_)
    have hP : mP G a u H := hP
    refine lv_if_ne (tgt := 20) hx hb dX6_payBill_14 (by decide) (fun c2 => ?_) (fun c2 => ?_)
    · skip
      refine lv_aload_n hx hb dX6_payBill_20 rfl (lv_at hl 0 rfl) ?_
      refine lv_iload_n hx hb dX6_payBill_21 rfl (lv_at hl 1 rfl) ?_
      have hq_p1 : p1.toNatClampNeg < 40 := vp_lt ((vp_X6_isBill hm c1) : vp_in p1 40)
      refine r_top (v := nI p1.toNatClampNeg) (vp_nI ((vp_X6_isBill hm c1) : vp_in p1 40)) ?_
      refine lv_iload_n hx hb dX6_payBill_22 rfl (lv_at hl 2 rfl) ?_
      refine r_callI S hK hP (c_X6_refusalOn l G a hI u p1.toNatClampNeg (by omega) _ hm) (r_cw S k_324 k_321 k_322 k_323 k_5 q_X6_refusalOn ⟨Nat.le_of_ble_eq_true rfl, Nat.le_of_ble_eq_true rfl⟩ rfl rfl) (g_recv hK hP (i := 0) (by omega) mC0 rfl) rfl hl.1 rfl (Nat.le_of_ble_eq_true rfl) dX6_payBill_23 ⟨Nat.zero_le _, Nat.zero_le _⟩ hS (fun _ h => h) (fun H locs hP _ _ hS => ?_)
      have hP : mP G a (w_X6_refusalOn u p1.toNatClampNeg p2) H := hP
      refine lv_istore_n (lv' := [(3, .int (v_X6_refusalOn u p1.toNatClampNeg p2)), (0, .ref (a 0)), (1, .int p1), (2, .int p2)]) hx hb dX6_payBill_26 rfl hl (by decide) rfl (fun ls hl => ?_)
      refine lv_iload_n hx hb dX6_payBill_27 rfl (lv_at hl 0 rfl) ?_
      refine lv_if_ge (tgt := 33) hx hb dX6_payBill_28 (by decide) (fun c3 => ?_) (fun c3 => ?_)
      · skip
        refine lv_aload_n hx hb dX6_payBill_33 rfl (lv_at hl 1 rfl) ?_
        refine r_callV S hK hP (c_X6_know l G a hI (w_X6_refusalOn u p1.toNatClampNeg p2) (refusal_KI hm (by omega) hk6)) (r_cw S k_205 k_202 k_203 k_204 k_5 q_X6_know ⟨Nat.le_of_ble_eq_true rfl, Nat.le_of_ble_eq_true rfl⟩ rfl rfl) (g_recv hK hP (i := 0) (by omega) mC0 rfl) rfl hl.1 rfl (Nat.le_of_ble_eq_true rfl) dX6_payBill_34 ⟨Nat.zero_le _, Nat.zero_le _⟩ hS (fun _ h => h) (fun H locs hP _ _ hS => ?_)
        have hP : mP G a (w_X6_know (w_X6_refusalOn u p1.toNatClampNeg p2)) H := hP
        refine lv_aload_n hx hb dX6_payBill_37 rfl (lv_at hl 1 rfl) ?_
        refine lv_iload_n hx hb dX6_payBill_38 rfl (lv_at hl 2 rfl) ?_
        have hq_p1 : p1.toNatClampNeg < 40 := vp_lt ((vp_X6_isBill hm c1) : vp_in p1 40)
        refine r_top (v := nI p1.toNatClampNeg) (vp_nI ((vp_X6_isBill hm c1) : vp_in p1 40)) ?_
        refine lv_iload_n hx hb dX6_payBill_39 rfl (lv_at hl 3 rfl) ?_
        refine r_callI S hK hP (c_X6_paidOn l G a hI (w_X6_know (w_X6_refusalOn u p1.toNatClampNeg p2)) p1.toNatClampNeg (by omega) _ (know_SI (refusal_SI hm (by omega)))) (r_cw S k_328 k_325 k_326 k_327 k_5 q_X6_paidOn ⟨Nat.le_of_ble_eq_true rfl, Nat.le_of_ble_eq_true rfl⟩ rfl rfl) (g_recv hK hP (i := 0) (by omega) mC0 rfl) rfl hl.1 rfl (Nat.le_of_ble_eq_true rfl) dX6_payBill_40 ⟨Nat.zero_le _, Nat.zero_le _⟩ hS (fun _ h => h) (fun H locs hP _ _ hS => ?_)
        have hP : mP G a (w_X6_paidOn (w_X6_know (w_X6_refusalOn u p1.toNatClampNeg p2)) p1.toNatClampNeg p2) H := hP
        exact e_int S hr hlk rfl hK hS (gP_eq (show w_X6_payBill u p1 p2 = w_X6_paidOn (w_X6_know (w_X6_refusalOn u p1.toNatClampNeg p2)) p1.toNatClampNeg p2 from (if_neg c1).trans ((if_neg c2).trans ((if_pos c3).trans rfl))) hP) (show v_X6_payBill u p1 p2 = v_X6_paidOn (w_X6_know (w_X6_refusalOn u p1.toNatClampNeg p2)) p1.toNatClampNeg p2 from (if_neg c1).trans ((if_neg c2).trans ((if_pos c3).trans rfl))).symm dX6_payBill_43
      · skip
        refine lv_iload_n hx hb dX6_payBill_31 rfl (lv_at hl 0 rfl) ?_
        exact e_int S hr hlk rfl hK hS (gP_eq (show w_X6_payBill u p1 p2 = w_X6_refusalOn u p1.toNatClampNeg p2 from (if_neg c1).trans ((if_neg c2).trans ((if_neg c3).trans rfl))) hP) (show v_X6_payBill u p1 p2 = v_X6_refusalOn u p1.toNatClampNeg p2 from (if_neg c1).trans ((if_neg c2).trans ((if_neg c3).trans rfl))).symm dX6_payBill_32
    · skip
      refine lv_bipush (v := -2) hx hb dX6_payBill_17 (by decide) ?_
      exact e_int S hr hlk rfl hK hS (gP_eq (show w_X6_payBill u p1 p2 = u from (if_neg c1).trans ((if_pos c2).trans rfl)) hP) (show v_X6_payBill u p1 p2 = (-2 : Int32) from (if_neg c1).trans ((if_pos c2).trans rfl)).symm dX6_payBill_19
  · skip
    refine lv_iconst (v := -1) hx hb dX6_payBill_8 (by decide) ?_
    exact e_int S hr hlk rfl hK hS (gP_eq (show w_X6_payBill u p1 p2 = u from (if_pos c1).trans rfl) hP) (show v_X6_payBill u p1 p2 = (-1 : Int32) from (if_pos c1).trans rfl).symm dX6_payBill_9

def v_X6_payBack (u : Nat → Nat → Int32) (p1 : Int32) : Int32 := if v_X6_isCustomer p1 = 0 then (-1 : Int32) else if u 1 (9 + p1.toNatClampNeg) = 0 then (-5 : Int32) else u 1 (9 + p1.toNatClampNeg)
def w_X6_payBack (u : Nat → Nat → Int32) (p1 : Int32) : Nat → Nat → Int32 := if v_X6_isCustomer p1 = 0 then u else if u 1 (9 + p1.toNatClampNeg) = 0 then u else up (up (up (w_X6_know u) 1 (9 + p1.toNatClampNeg) (0 : Int32)) 1 (225 + p1.toNatClampNeg) (((w_X6_know u) 1 (225 + p1.toNatClampNeg)) + (u 1 (9 + p1.toNatClampNeg)))) 1 7 (((w_X6_know u) 1 7) + (u 1 (9 + p1.toNatClampNeg)))
theorem q_X6_payBack : yX6_payBack.cls ≠ "java/lang/invoke/MethodHandle" ∧ yX6_payBack.cls ≠ "java/lang/invoke/VarHandle" ∧ (parseMethodDescriptor yX6_payBack.desc).map (fun d => d.parameters.length) = some 1 := ⟨by decide, by decide, by decide +kernel⟩
set_option maxHeartbeats 4000000 in
set_option maxRecDepth 100000 in
theorem c_X6_payBack (l : Launch) (G : kG) (a : Nat → Nat) (hI : gI 8 a) (u : Nat → Nat → Int32) (p1 : Int32) (hm : SI (u 1)) (hk6 : KI (u 0)) : Met l yX6_payBack (Cond.code yX6_payBack cX6_payBack 3 (some .int) :: BIG) (rmK 2) (pcG G (mP G a u) [.ref (a 0), .int p1]) (qcI G (gA 8 a) (mP G a (w_X6_payBack u p1)) (v_X6_payBack u p1)) 0 0 (gA 8 a) := by
  refine m_start (by decide) (Nat.le_of_ble_eq_true rfl) ?_
  intro p e s m args below meth c S hr hlk hnm hP hK ls hl
  have hx := S.1
  have hb := S.2.1
  have hown := S.2.2.2.1
  have hS : va_S (gA 8 a) s.heap s.heap [] := va_S.rf
  have hl : lv_has ls 3 [(0, .ref (a 0)), (1, .int p1)] := hl
  refine lv_iload_n hx hb dX6_payBack_0 rfl (lv_at hl 1 rfl) ?_
  refine r_callS S hK hP (c_X6_isCustomer l G (mP G a u) (gA 8 a) _ ) (r_cs S k_195 k_193 k_194 k_5 q_X6_isCustomer ⟨Nat.le_of_ble_eq_true rfl, Nat.le_of_ble_eq_true rfl⟩ rfl rfl) rfl hl.1 rfl (Nat.le_of_ble_eq_true rfl) dX6_payBack_1 ⟨Nat.zero_le _, Nat.zero_le _⟩ hS (fun _ h => h) (fun H locs hP _ _ hS => ?_)
  have hP : mP G a u H := hP
  refine lv_if_ne (tgt := 9) hx hb dX6_payBack_4 (by decide) (fun c1 => ?_) (fun c1 => ?_)
  · skip
    refine lv_aload_n hx hb dX6_payBack_9 rfl (lv_at hl 0 rfl) ?_
    refine g_get S hK hP (i := 0) (by omega) mC0 rfl inlX6 0 (by decide) k_67 (v := .ref (a 1)) rfl dX6_payBack_10 ?_
    refine lv_bipush (v := 9) hx hb dX6_payBack_13 (by decide) ?_
    refine lv_iload_n hx hb dX6_payBack_15 rfl (lv_at hl 1 rfl) ?_
    have hq_p1 : p1.toNatClampNeg < 8 := vp_lt ((vp_X6_isCustomer c1 (by decide)) : vp_in p1 8)
    refine r_top (v := nI p1.toNatClampNeg) (vp_nI ((vp_X6_isCustomer c1 (by decide)) : vp_in p1 8)) ?_
    refine lv_iadd hx hb dX6_payBack_16 ?_
    refine r_top (v := nI (9 + p1.toNatClampNeg)) (nI_add 9 p1.toNatClampNeg) ?_
    refine g_aldN S hK hP (i := 1) (by omega) mC1 (k := 9 + p1.toNatClampNeg) (by omega) (by decide) (v := u 1 (9 + p1.toNatClampNeg)) (rfl) dX6_payBack_17 ?_
    refine lv_istore_n (lv' := [(2, .int (u 1 (9 + p1.toNatClampNeg))), (0, .ref (a 0)), (1, .int p1)]) hx hb dX6_payBack_18 rfl hl (by decide) rfl (fun ls hl => ?_)
    refine lv_iload_n hx hb dX6_payBack_19 rfl (lv_at hl 0 rfl) ?_
    refine lv_if_ne (tgt := 26) hx hb dX6_payBack_20 (by decide) (fun c2 => ?_) (fun c2 => ?_)
    · skip
      refine lv_aload_n hx hb dX6_payBack_26 rfl (lv_at hl 1 rfl) ?_
      refine r_callV S hK hP (c_X6_know l G a hI u hk6) (r_cw S k_205 k_202 k_203 k_204 k_5 q_X6_know ⟨Nat.le_of_ble_eq_true rfl, Nat.le_of_ble_eq_true rfl⟩ rfl rfl) (g_recv hK hP (i := 0) (by omega) mC0 rfl) rfl hl.1 rfl (Nat.le_of_ble_eq_true rfl) dX6_payBack_27 ⟨Nat.zero_le _, Nat.zero_le _⟩ hS (fun _ h => h) (fun H locs hP _ _ hS => ?_)
      have hP : mP G a (w_X6_know u) H := hP
      refine lv_aload_n hx hb dX6_payBack_30 rfl (lv_at hl 1 rfl) ?_
      refine g_get S hK hP (i := 0) (by omega) mC0 rfl inlX6 0 (by decide) k_67 (v := .ref (a 1)) rfl dX6_payBack_31 ?_
      refine lv_bipush (v := 9) hx hb dX6_payBack_34 (by decide) ?_
      refine lv_iload_n hx hb dX6_payBack_36 rfl (lv_at hl 2 rfl) ?_
      have hq_p1 : p1.toNatClampNeg < 8 := vp_lt ((vp_X6_isCustomer c1 (by decide)) : vp_in p1 8)
      refine r_top (v := nI p1.toNatClampNeg) (vp_nI ((vp_X6_isCustomer c1 (by decide)) : vp_in p1 8)) ?_
      refine lv_iadd hx hb dX6_payBack_37 ?_
      refine r_top (v := nI (9 + p1.toNatClampNeg)) (nI_add 9 p1.toNatClampNeg) ?_
      refine lv_iconst (v := 0) hx hb dX6_payBack_38 (by decide) ?_
      refine g_astN S hK hP hI hS (i := 1) (by omega) mC1 (k := 9 + p1.toNatClampNeg) (by omega) (by decide) dX6_payBack_39 (fun H locs hP hS => ?_)
      have hP : mP G a (up (w_X6_know u) 1 (9 + p1.toNatClampNeg) (0 : Int32)) H := hP
      refine lv_aload_n hx hb dX6_payBack_40 rfl (lv_at hl 1 rfl) ?_
      refine g_get S hK hP (i := 0) (by omega) mC0 rfl inlX6 0 (by decide) k_67 (v := .ref (a 1)) rfl dX6_payBack_41 ?_
      refine lv_sipush (v := 225) hx hb dX6_payBack_44 (by decide) ?_
      refine lv_iload_n hx hb dX6_payBack_47 rfl (lv_at hl 2 rfl) ?_
      have hq_p1 : p1.toNatClampNeg < 8 := vp_lt ((vp_X6_isCustomer c1 (by decide)) : vp_in p1 8)
      refine r_top (v := nI p1.toNatClampNeg) (vp_nI ((vp_X6_isCustomer c1 (by decide)) : vp_in p1 8)) ?_
      refine lv_iadd hx hb dX6_payBack_48 ?_
      refine r_top (v := nI (225 + p1.toNatClampNeg)) (nI_add 225 p1.toNatClampNeg) ?_
      refine lv_dup2_11 hx hb dX6_payBack_49 rfl rfl ?_
      refine g_aldN S hK hP (i := 1) (by omega) mC1 (k := 225 + p1.toNatClampNeg) (by omega) (by decide) (v := (w_X6_know u) 1 (225 + p1.toNatClampNeg)) ((up_nk (by omega)).trans rfl) dX6_payBack_50 ?_
      refine lv_iload_n hx hb dX6_payBack_51 rfl (lv_at hl 0 rfl) ?_
      refine lv_iadd hx hb dX6_payBack_52 ?_
      refine g_astN S hK hP hI hS (i := 1) (by omega) mC1 (k := 225 + p1.toNatClampNeg) (by omega) (by decide) dX6_payBack_53 (fun H locs hP hS => ?_)
      have hP : mP G a (up (up (w_X6_know u) 1 (9 + p1.toNatClampNeg) (0 : Int32)) 1 (225 + p1.toNatClampNeg) (((w_X6_know u) 1 (225 + p1.toNatClampNeg)) + (u 1 (9 + p1.toNatClampNeg)))) H := hP
      refine lv_aload_n hx hb dX6_payBack_54 rfl (lv_at hl 1 rfl) ?_
      refine g_get S hK hP (i := 0) (by omega) mC0 rfl inlX6 0 (by decide) k_67 (v := .ref (a 1)) rfl dX6_payBack_55 ?_
      refine lv_bipush (v := 7) hx hb dX6_payBack_58 (by decide) ?_
      refine lv_dup2_11 hx hb dX6_payBack_60 rfl rfl ?_
      refine g_aldN S hK hP (i := 1) (by omega) mC1 (k := 7) (by omega) (by decide) (v := (w_X6_know u) 1 7) ((up_nk (by omega)).trans ((up_nk (by omega)).trans rfl)) dX6_payBack_61 ?_
      refine lv_iload_n hx hb dX6_payBack_62 rfl (lv_at hl 0 rfl) ?_
      refine lv_iadd hx hb dX6_payBack_63 ?_
      refine g_astN S hK hP hI hS (i := 1) (by omega) mC1 (k := 7) (by omega) (by decide) dX6_payBack_64 (fun H locs hP hS => ?_)
      have hP : mP G a (up (up (up (w_X6_know u) 1 (9 + p1.toNatClampNeg) (0 : Int32)) 1 (225 + p1.toNatClampNeg) (((w_X6_know u) 1 (225 + p1.toNatClampNeg)) + (u 1 (9 + p1.toNatClampNeg)))) 1 7 (((w_X6_know u) 1 7) + (u 1 (9 + p1.toNatClampNeg)))) H := hP
      refine lv_iload_n hx hb dX6_payBack_65 rfl (lv_at hl 0 rfl) ?_
      exact e_int S hr hlk rfl hK hS (gP_eq (show w_X6_payBack u p1 = up (up (up (w_X6_know u) 1 (9 + p1.toNatClampNeg) (0 : Int32)) 1 (225 + p1.toNatClampNeg) (((w_X6_know u) 1 (225 + p1.toNatClampNeg)) + (u 1 (9 + p1.toNatClampNeg)))) 1 7 (((w_X6_know u) 1 7) + (u 1 (9 + p1.toNatClampNeg))) from (if_neg c1).trans ((if_neg c2).trans rfl)) hP) (show v_X6_payBack u p1 = u 1 (9 + p1.toNatClampNeg) from (if_neg c1).trans ((if_neg c2).trans rfl)).symm dX6_payBack_66
    · skip
      refine lv_bipush (v := -5) hx hb dX6_payBack_23 (by decide) ?_
      exact e_int S hr hlk rfl hK hS (gP_eq (show w_X6_payBack u p1 = u from (if_neg c1).trans ((if_pos c2).trans rfl)) hP) (show v_X6_payBack u p1 = (-5 : Int32) from (if_neg c1).trans ((if_pos c2).trans rfl)).symm dX6_payBack_25
  · skip
    refine lv_iconst (v := -1) hx hb dX6_payBack_7 (by decide) ?_
    exact e_int S hr hlk rfl hK hS (gP_eq (show w_X6_payBack u p1 = u from (if_pos c1).trans rfl) hP) (show v_X6_payBack u p1 = (-1 : Int32) from (if_pos c1).trans rfl).symm dX6_payBack_8

def v_X6_pass (u : Nat → Nat → Int32) (p1 : Int32) : Int32 := if v_X6_in p1 (1 : Int32) (99 : Int32) = 0 then (-2 : Int32) else if (u 1 0) + p1 ≤ (9999 : Int32) then (v_X6_overdue (up (w_X6_know u) 1 0 (((w_X6_know u) 1 0) + p1))) else (-3 : Int32)
def w_X6_pass (u : Nat → Nat → Int32) (p1 : Int32) : Nat → Nat → Int32 := if v_X6_in p1 (1 : Int32) (99 : Int32) = 0 then u else if (u 1 0) + p1 ≤ (9999 : Int32) then (up (w_X6_know u) 1 0 (((w_X6_know u) 1 0) + p1)) else u
theorem q_X6_pass : yX6_pass.cls ≠ "java/lang/invoke/MethodHandle" ∧ yX6_pass.cls ≠ "java/lang/invoke/VarHandle" ∧ (parseMethodDescriptor yX6_pass.desc).map (fun d => d.parameters.length) = some 1 := ⟨by decide, by decide, by decide +kernel⟩
set_option maxHeartbeats 4000000 in
set_option maxRecDepth 100000 in
theorem c_X6_pass (l : Launch) (G : kG) (a : Nat → Nat) (hI : gI 8 a) (u : Nat → Nat → Int32) (p1 : Int32) (hm : SI (u 1)) (hk6 : KI (u 0)) : Met l yX6_pass (Cond.code yX6_pass cX6_pass 2 (some .int) :: BIG) (rmK 4) (pcG G (mP G a u) [.ref (a 0), .int p1]) (qcI G (gA 8 a) (mP G a (w_X6_pass u p1)) (v_X6_pass u p1)) 0 0 (gA 8 a) := by
  refine m_start (by decide) (Nat.le_of_ble_eq_true rfl) ?_
  intro p e s m args below meth c S hr hlk hnm hP hK ls hl
  have hx := S.1
  have hb := S.2.1
  have hown := S.2.2.2.1
  have hS : va_S (gA 8 a) s.heap s.heap [] := va_S.rf
  have hl : lv_has ls 2 [(0, .ref (a 0)), (1, .int p1)] := hl
  refine lv_iload_n hx hb dX6_pass_0 rfl (lv_at hl 1 rfl) ?_
  refine lv_iconst (v := 1) hx hb dX6_pass_1 (by decide) ?_
  refine lv_bipush (v := 99) hx hb dX6_pass_2 (by decide) ?_
  refine r_callS S hK hP (c_X6_in l G (mP G a u) (gA 8 a) _ _ _ ) (r_cs S k_198 k_196 k_197 k_5 q_X6_in ⟨Nat.le_of_ble_eq_true rfl, Nat.le_of_ble_eq_true rfl⟩ rfl rfl) rfl hl.1 rfl (Nat.le_of_ble_eq_true rfl) dX6_pass_4 ⟨Nat.zero_le _, Nat.zero_le _⟩ hS (fun _ h => h) (fun H locs hP _ _ hS => ?_)
  have hP : mP G a u H := hP
  refine lv_if_ne (tgt := 13) hx hb dX6_pass_7 (by decide) (fun c1 => ?_) (fun c1 => ?_)
  · skip
    refine lv_aload_n hx hb dX6_pass_13 rfl (lv_at hl 0 rfl) ?_
    refine g_get S hK hP (i := 0) (by omega) mC0 rfl inlX6 0 (by decide) k_67 (v := .ref (a 1)) rfl dX6_pass_14 ?_
    refine lv_iconst (v := 0) hx hb dX6_pass_17 (by decide) ?_
    refine g_aldN S hK hP (i := 1) (by omega) mC1 (k := 0) (by omega) (by decide) (v := u 1 0) (rfl) dX6_pass_18 ?_
    refine lv_iload_n hx hb dX6_pass_19 rfl (lv_at hl 1 rfl) ?_
    refine lv_iadd hx hb dX6_pass_20 ?_
    refine lv_sipush (v := 9999) hx hb dX6_pass_21 (by decide) ?_
    refine lv_icmp_le (tgt := 30) hx hb dX6_pass_24 (by decide) (fun c2 => ?_) (fun c2 => ?_)
    · skip
      refine lv_aload_n hx hb dX6_pass_30 rfl (lv_at hl 0 rfl) ?_
      refine r_callV S hK hP (c_X6_know l G a hI u hk6) (r_cw S k_205 k_202 k_203 k_204 k_5 q_X6_know ⟨Nat.le_of_ble_eq_true rfl, Nat.le_of_ble_eq_true rfl⟩ rfl rfl) (g_recv hK hP (i := 0) (by omega) mC0 rfl) rfl hl.1 rfl (Nat.le_of_ble_eq_true rfl) dX6_pass_31 ⟨Nat.zero_le _, Nat.zero_le _⟩ hS (fun _ h => h) (fun H locs hP _ _ hS => ?_)
      have hP : mP G a (w_X6_know u) H := hP
      refine lv_aload_n hx hb dX6_pass_34 rfl (lv_at hl 0 rfl) ?_
      refine g_get S hK hP (i := 0) (by omega) mC0 rfl inlX6 0 (by decide) k_67 (v := .ref (a 1)) rfl dX6_pass_35 ?_
      refine lv_iconst (v := 0) hx hb dX6_pass_38 (by decide) ?_
      refine lv_dup2_11 hx hb dX6_pass_39 rfl rfl ?_
      refine g_aldN S hK hP (i := 1) (by omega) mC1 (k := 0) (by omega) (by decide) (v := (w_X6_know u) 1 0) (rfl) dX6_pass_40 ?_
      refine lv_iload_n hx hb dX6_pass_41 rfl (lv_at hl 1 rfl) ?_
      refine lv_iadd hx hb dX6_pass_42 ?_
      refine g_astN S hK hP hI hS (i := 1) (by omega) mC1 (k := 0) (by omega) (by decide) dX6_pass_43 (fun H locs hP hS => ?_)
      have hP : mP G a (up (w_X6_know u) 1 0 (((w_X6_know u) 1 0) + p1)) H := hP
      refine lv_aload_n hx hb dX6_pass_44 rfl (lv_at hl 0 rfl) ?_
      refine r_callI S hK hP (c_X6_overdue l G a hI (up (w_X6_know u) 1 0 (((w_X6_know u) 1 0) + p1)) (pass_SI hm c1 c2)) (r_cw S k_364 k_361 k_362 k_363 k_5 q_X6_overdue ⟨Nat.le_of_ble_eq_true rfl, Nat.le_of_ble_eq_true rfl⟩ rfl rfl) (g_recv hK hP (i := 0) (by omega) mC0 rfl) rfl hl.1 rfl (Nat.le_of_ble_eq_true rfl) dX6_pass_45 ⟨Nat.zero_le _, Nat.zero_le _⟩ hS (fun _ h => h) (fun H locs hP _ _ hS => ?_)
      have hP : mP G a (up (w_X6_know u) 1 0 (((w_X6_know u) 1 0) + p1)) H := hP
      exact e_int S hr hlk rfl hK hS (gP_eq (show w_X6_pass u p1 = up (w_X6_know u) 1 0 (((w_X6_know u) 1 0) + p1) from (if_neg c1).trans ((if_pos c2).trans rfl)) hP) (show v_X6_pass u p1 = v_X6_overdue (up (w_X6_know u) 1 0 (((w_X6_know u) 1 0) + p1)) from (if_neg c1).trans ((if_pos c2).trans rfl)).symm dX6_pass_48
    · skip
      refine lv_bipush (v := -3) hx hb dX6_pass_27 (by decide) ?_
      exact e_int S hr hlk rfl hK hS (gP_eq (show w_X6_pass u p1 = u from (if_neg c1).trans ((if_neg c2).trans rfl)) hP) (show v_X6_pass u p1 = (-3 : Int32) from (if_neg c1).trans ((if_neg c2).trans rfl)).symm dX6_pass_29
  · skip
    refine lv_bipush (v := -2) hx hb dX6_pass_10 (by decide) ?_
    exact e_int S hr hlk rfl hK hS (gP_eq (show w_X6_pass u p1 = u from (if_pos c1).trans rfl) hP) (show v_X6_pass u p1 = (-2 : Int32) from (if_pos c1).trans rfl).symm dX6_pass_12

def v_X6_remind (u : Nat → Nat → Int32) : Int32 := if v_X6_reminds (w_X6_looks u) ≤ 0 then (if v_X6_reminds (w_X6_looks u) = 0 then (-5 : Int32) else v_X6_reminds (w_X6_looks u)) else if v_X6_reminds (w_X6_looks u) = 0 then (-5 : Int32) else v_X6_reminds (w_X6_looks u)
def w_X6_remind (u : Nat → Nat → Int32) : Nat → Nat → Int32 := if v_X6_reminds (w_X6_looks u) ≤ 0 then (if v_X6_reminds (w_X6_looks u) = 0 then (w_X6_reminds (w_X6_looks u)) else w_X6_reminds (w_X6_looks u)) else if v_X6_reminds (w_X6_looks u) = 0 then (w_X6_records (w_X6_reminds (w_X6_looks u))) else w_X6_records (w_X6_reminds (w_X6_looks u))
theorem q_X6_remind : yX6_remind.cls ≠ "java/lang/invoke/MethodHandle" ∧ yX6_remind.cls ≠ "java/lang/invoke/VarHandle" ∧ (parseMethodDescriptor yX6_remind.desc).map (fun d => d.parameters.length) = some 0 := ⟨by decide, by decide, by decide +kernel⟩
set_option maxHeartbeats 4000000 in
set_option maxRecDepth 100000 in
theorem c_X6_remind (l : Launch) (G : kG) (a : Nat → Nat) (hI : gI 8 a) (u : Nat → Nat → Int32) (hm : SI (u 1)) (hk6 : KI (u 0)) : Met l yX6_remind (Cond.code yX6_remind cX6_remind 2 (some .int) :: BIG) (rmK 5) (pcG G (mP G a u) [.ref (a 0)]) (qcI G (gA 8 a) (mP G a (w_X6_remind u)) (v_X6_remind u)) 0 0 (gA 8 a) := by
  refine m_start (by decide) (Nat.le_of_ble_eq_true rfl) ?_
  intro p e s m args below meth c S hr hlk hnm hP hK ls hl
  have hx := S.1
  have hb := S.2.1
  have hown := S.2.2.2.1
  have hS : va_S (gA 8 a) s.heap s.heap [] := va_S.rf
  have hl : lv_has ls 2 [(0, .ref (a 0))] := hl
  refine lv_aload_n hx hb dX6_remind_0 rfl (lv_at hl 0 rfl) ?_
  refine r_callV S hK hP (c_X6_looks l G a hI u ) (r_cw S k_209 k_206 k_207 k_208 k_5 q_X6_looks ⟨Nat.le_of_ble_eq_true rfl, Nat.le_of_ble_eq_true rfl⟩ rfl rfl) (g_recv hK hP (i := 0) (by omega) mC0 rfl) rfl hl.1 rfl (Nat.le_of_ble_eq_true rfl) dX6_remind_1 ⟨Nat.zero_le _, Nat.zero_le _⟩ hS (fun _ h => h) (fun H locs hP _ _ hS => ?_)
  have hP : mP G a (w_X6_looks u) H := hP
  refine lv_aload_n hx hb dX6_remind_4 rfl (lv_at hl 0 rfl) ?_
  refine r_callI S hK hP (c_X6_reminds l G a hI (w_X6_looks u) (looks_SI hm)) (r_cw S k_409 k_406 k_407 k_408 k_5 q_X6_reminds ⟨Nat.le_of_ble_eq_true rfl, Nat.le_of_ble_eq_true rfl⟩ rfl rfl) (g_recv hK hP (i := 0) (by omega) mC0 rfl) rfl hl.1 rfl (Nat.le_of_ble_eq_true rfl) dX6_remind_5 ⟨Nat.zero_le _, Nat.zero_le _⟩ hS (fun _ h => h) (fun H locs hP _ _ hS => ?_)
  have hP : mP G a (w_X6_reminds (w_X6_looks u)) H := hP
  refine lv_istore_n (lv' := [(1, .int (v_X6_reminds (w_X6_looks u))), (0, .ref (a 0))]) hx hb dX6_remind_8 rfl hl (by decide) rfl (fun ls hl => ?_)
  refine lv_iload_n hx hb dX6_remind_9 rfl (lv_at hl 0 rfl) ?_
  refine lv_if_le (tgt := 17) hx hb dX6_remind_10 (by decide) (fun c1 => ?_) (fun c1 => ?_)
  · skip
    refine lv_iload_n hx hb dX6_remind_17 rfl (lv_at hl 0 rfl) ?_
    refine lv_if_ne (tgt := 26) hx hb dX6_remind_18 (by decide) (fun c2 => ?_) (fun c2 => ?_)
    · skip
      refine lv_iload_n hx hb dX6_remind_26 rfl (lv_at hl 0 rfl) ?_
      exact e_int S hr hlk rfl hK hS (gP_eq (show w_X6_remind u  = w_X6_reminds (w_X6_looks u) from (if_pos c1).trans ((if_neg c2).trans rfl)) hP) (show v_X6_remind u  = v_X6_reminds (w_X6_looks u) from (if_pos c1).trans ((if_neg c2).trans rfl)).symm dX6_remind_27
    · skip
      refine lv_bipush (v := -5) hx hb dX6_remind_21 (by decide) ?_
      refine lv_goto (tgt := 27) hx hb dX6_remind_23 (by decide) ?_
      exact e_int S hr hlk rfl hK hS (gP_eq (show w_X6_remind u  = w_X6_reminds (w_X6_looks u) from (if_pos c1).trans ((if_pos c2).trans rfl)) hP) (show v_X6_remind u  = (-5 : Int32) from (if_pos c1).trans ((if_pos c2).trans rfl)).symm dX6_remind_27
  · skip
    refine lv_aload_n hx hb dX6_remind_13 rfl (lv_at hl 1 rfl) ?_
    refine r_callV S hK hP (c_X6_records l G a hI (w_X6_reminds (w_X6_looks u)) (KI_eq ((reminds_PR (looks_SI hm)).2.1 0 (by decide)) (looks_KI hk6))) (r_cw S k_213 k_210 k_211 k_212 k_5 q_X6_records ⟨Nat.le_of_ble_eq_true rfl, Nat.le_of_ble_eq_true rfl⟩ rfl rfl) (g_recv hK hP (i := 0) (by omega) mC0 rfl) rfl hl.1 rfl (Nat.le_of_ble_eq_true rfl) dX6_remind_14 ⟨Nat.zero_le _, Nat.zero_le _⟩ hS (fun _ h => h) (fun H locs hP _ _ hS => ?_)
    have hP : mP G a (w_X6_records (w_X6_reminds (w_X6_looks u))) H := hP
    refine lv_iload_n hx hb dX6_remind_17 rfl (lv_at hl 0 rfl) ?_
    refine lv_if_ne (tgt := 26) hx hb dX6_remind_18 (by decide) (fun c3 => ?_) (fun c3 => ?_)
    · skip
      refine lv_iload_n hx hb dX6_remind_26 rfl (lv_at hl 0 rfl) ?_
      exact e_int S hr hlk rfl hK hS (gP_eq (show w_X6_remind u  = w_X6_records (w_X6_reminds (w_X6_looks u)) from (if_neg c1).trans ((if_neg c3).trans rfl)) hP) (show v_X6_remind u  = v_X6_reminds (w_X6_looks u) from (if_neg c1).trans ((if_neg c3).trans rfl)).symm dX6_remind_27
    · skip
      refine lv_bipush (v := -5) hx hb dX6_remind_21 (by decide) ?_
      refine lv_goto (tgt := 27) hx hb dX6_remind_23 (by decide) ?_
      exact e_int S hr hlk rfl hK hS (gP_eq (show w_X6_remind u  = w_X6_records (w_X6_reminds (w_X6_looks u)) from (if_neg c1).trans ((if_pos c3).trans rfl)) hP) (show v_X6_remind u  = (-5 : Int32) from (if_neg c1).trans ((if_pos c3).trans rfl)).symm dX6_remind_27

def v_X6_writeOff (u : Nat → Nat → Int32) (p1 : Int32) : Int32 := if v_X6_isBill u p1 = 0 then (-1 : Int32) else if v_X6_canBeOff u p1.toNatClampNeg = 0 then (-4 : Int32) else v_X6_owedOn (up (w_X6_know u) 1 (233 + 12 * p1.toNatClampNeg + 5) (2 : Int32)) p1.toNatClampNeg
def w_X6_writeOff (u : Nat → Nat → Int32) (p1 : Int32) : Nat → Nat → Int32 := if v_X6_isBill u p1 = 0 then u else if v_X6_canBeOff u p1.toNatClampNeg = 0 then u else up (w_X6_know u) 1 (233 + 12 * p1.toNatClampNeg + 5) (2 : Int32)
theorem q_X6_writeOff : yX6_writeOff.cls ≠ "java/lang/invoke/MethodHandle" ∧ yX6_writeOff.cls ≠ "java/lang/invoke/VarHandle" ∧ (parseMethodDescriptor yX6_writeOff.desc).map (fun d => d.parameters.length) = some 1 := ⟨by decide, by decide, by decide +kernel⟩
set_option maxHeartbeats 4000000 in
set_option maxRecDepth 100000 in
theorem c_X6_writeOff (l : Launch) (G : kG) (a : Nat → Nat) (hI : gI 8 a) (u : Nat → Nat → Int32) (p1 : Int32) (hm : SI (u 1)) (hk6 : KI (u 0)) : Met l yX6_writeOff (Cond.code yX6_writeOff cX6_writeOff 2 (some .int) :: BIG) (rmK 4) (pcG G (mP G a u) [.ref (a 0), .int p1]) (qcI G (gA 8 a) (mP G a (w_X6_writeOff u p1)) (v_X6_writeOff u p1)) 0 0 (gA 8 a) := by
  refine m_start (by decide) (Nat.le_of_ble_eq_true rfl) ?_
  intro p e s m args below meth c S hr hlk hnm hP hK ls hl
  have hx := S.1
  have hb := S.2.1
  have hown := S.2.2.2.1
  have hS : va_S (gA 8 a) s.heap s.heap [] := va_S.rf
  have hl : lv_has ls 2 [(0, .ref (a 0)), (1, .int p1)] := hl
  refine lv_aload_n hx hb dX6_writeOff_0 rfl (lv_at hl 0 rfl) ?_
  refine lv_iload_n hx hb dX6_writeOff_1 rfl (lv_at hl 1 rfl) ?_
  refine r_callI S hK hP (c_X6_isBill l G a hI u _ ) (r_cw S k_320 k_317 k_318 k_319 k_5 q_X6_isBill ⟨Nat.le_of_ble_eq_true rfl, Nat.le_of_ble_eq_true rfl⟩ rfl rfl) (g_recv hK hP (i := 0) (by omega) mC0 rfl) rfl hl.1 rfl (Nat.le_of_ble_eq_true rfl) dX6_writeOff_2 ⟨Nat.zero_le _, Nat.zero_le _⟩ hS (fun _ h => h) (fun H locs hP _ _ hS => ?_)
  have hP : mP G a u H := hP
  refine lv_if_ne (tgt := 10) hx hb dX6_writeOff_5 (by decide) (fun c1 => ?_) (fun c1 => ?_)
  · skip
    refine lv_aload_n hx hb dX6_writeOff_10 rfl (lv_at hl 0 rfl) ?_
    refine lv_iload_n hx hb dX6_writeOff_11 rfl (lv_at hl 1 rfl) ?_
    have hq_p1 : p1.toNatClampNeg < 40 := vp_lt ((vp_X6_isBill hm c1) : vp_in p1 40)
    refine r_top (v := nI p1.toNatClampNeg) (vp_nI ((vp_X6_isBill hm c1) : vp_in p1 40)) ?_
    refine r_callI S hK hP (c_X6_canBeOff l G a hI u p1.toNatClampNeg (by omega) ) (r_cw S k_441 k_438 k_439 k_440 k_5 q_X6_canBeOff ⟨Nat.le_of_ble_eq_true rfl, Nat.le_of_ble_eq_true rfl⟩ rfl rfl) (g_recv hK hP (i := 0) (by omega) mC0 rfl) rfl hl.1 rfl (Nat.le_of_ble_eq_true rfl) dX6_writeOff_12 ⟨Nat.zero_le _, Nat.zero_le _⟩ hS (fun _ h => h) (fun H locs hP _ _ hS => ?_)
    have hP : mP G a u H := hP
    refine lv_if_ne (tgt := 21) hx hb dX6_writeOff_15 (by decide) (fun c2 => ?_) (fun c2 => ?_)
    · skip
      refine lv_aload_n hx hb dX6_writeOff_21 rfl (lv_at hl 0 rfl) ?_
      refine r_callV S hK hP (c_X6_know l G a hI u hk6) (r_cw S k_205 k_202 k_203 k_204 k_5 q_X6_know ⟨Nat.le_of_ble_eq_true rfl, Nat.le_of_ble_eq_true rfl⟩ rfl rfl) (g_recv hK hP (i := 0) (by omega) mC0 rfl) rfl hl.1 rfl (Nat.le_of_ble_eq_true rfl) dX6_writeOff_22 ⟨Nat.zero_le _, Nat.zero_le _⟩ hS (fun _ h => h) (fun H locs hP _ _ hS => ?_)
      have hP : mP G a (w_X6_know u) H := hP
      refine lv_aload_n hx hb dX6_writeOff_25 rfl (lv_at hl 0 rfl) ?_
      refine g_get S hK hP (i := 0) (by omega) mC0 rfl inlX6 0 (by decide) k_67 (v := .ref (a 1)) rfl dX6_writeOff_26 ?_
      refine lv_iload_n hx hb dX6_writeOff_29 rfl (lv_at hl 1 rfl) ?_
      have hq_p1 : p1.toNatClampNeg < 40 := vp_lt ((vp_X6_isBill hm c1) : vp_in p1 40)
      refine r_top (v := nI p1.toNatClampNeg) (vp_nI ((vp_X6_isBill hm c1) : vp_in p1 40)) ?_
      refine lv_iconst (v := 5) hx hb dX6_writeOff_30 (by decide) ?_
      refine r_callS S hK hP (c_X6_of l G (mP G a (w_X6_know u)) (gA 8 a) p1.toNatClampNeg 5 trivial trivial ) (r_cs S k_221 k_219 k_220 k_5 q_X6_of ⟨Nat.le_of_ble_eq_true rfl, Nat.le_of_ble_eq_true rfl⟩ rfl rfl) rfl hl.1 rfl (Nat.le_of_ble_eq_true rfl) dX6_writeOff_31 ⟨Nat.zero_le _, Nat.zero_le _⟩ hS (fun _ h => h) (fun H locs hP _ _ hS => ?_)
      have hP : mP G a (w_X6_know u) H := hP
      refine r_top (v := nI (233 + 12 * p1.toNatClampNeg + 5)) rfl ?_
      refine lv_iconst (v := 2) hx hb dX6_writeOff_34 (by decide) ?_
      refine g_astN S hK hP hI hS (i := 1) (by omega) mC1 (k := 233 + 12 * p1.toNatClampNeg + 5) (by omega) (by decide) dX6_writeOff_35 (fun H locs hP hS => ?_)
      have hP : mP G a (up (w_X6_know u) 1 (233 + 12 * p1.toNatClampNeg + 5) (2 : Int32)) H := hP
      refine lv_aload_n hx hb dX6_writeOff_36 rfl (lv_at hl 0 rfl) ?_
      refine lv_iload_n hx hb dX6_writeOff_37 rfl (lv_at hl 1 rfl) ?_
      have hq_p1 : p1.toNatClampNeg < 40 := vp_lt ((vp_X6_isBill hm c1) : vp_in p1 40)
      refine r_top (v := nI p1.toNatClampNeg) (vp_nI ((vp_X6_isBill hm c1) : vp_in p1 40)) ?_
      refine r_callI S hK hP (c_X6_owedOn l G a hI (up (w_X6_know u) 1 (233 + 12 * p1.toNatClampNeg + 5) (2 : Int32)) p1.toNatClampNeg (by omega) ) (r_cw S k_245 k_242 k_243 k_244 k_5 q_X6_owedOn ⟨Nat.le_of_ble_eq_true rfl, Nat.le_of_ble_eq_true rfl⟩ rfl rfl) (g_recv hK hP (i := 0) (by omega) mC0 rfl) rfl hl.1 rfl (Nat.le_of_ble_eq_true rfl) dX6_writeOff_38 ⟨Nat.zero_le _, Nat.zero_le _⟩ hS (fun _ h => h) (fun H locs hP _ _ hS => ?_)
      have hP : mP G a (up (w_X6_know u) 1 (233 + 12 * p1.toNatClampNeg + 5) (2 : Int32)) H := hP
      exact e_int S hr hlk rfl hK hS (gP_eq (show w_X6_writeOff u p1 = up (w_X6_know u) 1 (233 + 12 * p1.toNatClampNeg + 5) (2 : Int32) from (if_neg c1).trans ((if_neg c2).trans rfl)) hP) (show v_X6_writeOff u p1 = v_X6_owedOn (up (w_X6_know u) 1 (233 + 12 * p1.toNatClampNeg + 5) (2 : Int32)) p1.toNatClampNeg from (if_neg c1).trans ((if_neg c2).trans rfl)).symm dX6_writeOff_41
    · skip
      refine lv_bipush (v := -4) hx hb dX6_writeOff_18 (by decide) ?_
      exact e_int S hr hlk rfl hK hS (gP_eq (show w_X6_writeOff u p1 = u from (if_neg c1).trans ((if_pos c2).trans rfl)) hP) (show v_X6_writeOff u p1 = (-4 : Int32) from (if_neg c1).trans ((if_pos c2).trans rfl)).symm dX6_writeOff_20
  · skip
    refine lv_iconst (v := -1) hx hb dX6_writeOff_8 (by decide) ?_
    exact e_int S hr hlk rfl hK hS (gP_eq (show w_X6_writeOff u p1 = u from (if_pos c1).trans rfl) hP) (show v_X6_writeOff u p1 = (-1 : Int32) from (if_pos c1).trans rfl).symm dX6_writeOff_9

def v_X6_closeYear (u : Nat → Nat → Int32) (p1 : Int32) : Int32 := if v_X6_isYear p1 = 0 then (-1 : Int32) else if u 1 0 < (100 : Int32) * (p1 + (1 : Int32)) then (-4 : Int32) else if p1 ≤ u 1 8 then (if u 1 8 ≤ p1 then (v_X6_dueFor (w_X6_know u) p1.toNatClampNeg ((w_X6_know u) 1 5)) else (-5 : Int32)) else (-4 : Int32)
def w_X6_closeYear (u : Nat → Nat → Int32) (p1 : Int32) : Nat → Nat → Int32 := if v_X6_isYear p1 = 0 then u else if u 1 0 < (100 : Int32) * (p1 + (1 : Int32)) then u else if p1 ≤ u 1 8 then (if u 1 8 ≤ p1 then (up (up (w_X6_know u) 1 (125 + p1.toNatClampNeg) (v_X6_dueFor (w_X6_know u) p1.toNatClampNeg ((w_X6_know u) 1 5))) 1 8 (((w_X6_know u) 1 8) + (1 : Int32))) else u) else u
theorem q_X6_closeYear : yX6_closeYear.cls ≠ "java/lang/invoke/MethodHandle" ∧ yX6_closeYear.cls ≠ "java/lang/invoke/VarHandle" ∧ (parseMethodDescriptor yX6_closeYear.desc).map (fun d => d.parameters.length) = some 1 := ⟨by decide, by decide, by decide +kernel⟩
set_option maxHeartbeats 4000000 in
set_option maxRecDepth 100000 in
theorem c_X6_closeYear (l : Launch) (G : kG) (a : Nat → Nat) (hI : gI 8 a) (u : Nat → Nat → Int32) (p1 : Int32) (hm : SI (u 1)) (hk6 : KI (u 0)) : Met l yX6_closeYear (Cond.code yX6_closeYear cX6_closeYear 2 (some .int) :: BIG) (rmK 3) (pcG G (mP G a u) [.ref (a 0), .int p1]) (qcI G (gA 8 a) (mP G a (w_X6_closeYear u p1)) (v_X6_closeYear u p1)) 0 0 (gA 8 a) := by
  refine m_start (by decide) (Nat.le_of_ble_eq_true rfl) ?_
  intro p e s m args below meth c S hr hlk hnm hP hK ls hl
  have hx := S.1
  have hb := S.2.1
  have hown := S.2.2.2.1
  have hS : va_S (gA 8 a) s.heap s.heap [] := va_S.rf
  have hl : lv_has ls 2 [(0, .ref (a 0)), (1, .int p1)] := hl
  refine lv_iload_n hx hb dX6_closeYear_0 rfl (lv_at hl 1 rfl) ?_
  refine r_callS S hK hP (c_X6_isYear l G (mP G a u) (gA 8 a) _ ) (r_cs S k_465 k_463 k_464 k_5 q_X6_isYear ⟨Nat.le_of_ble_eq_true rfl, Nat.le_of_ble_eq_true rfl⟩ rfl rfl) rfl hl.1 rfl (Nat.le_of_ble_eq_true rfl) dX6_closeYear_1 ⟨Nat.zero_le _, Nat.zero_le _⟩ hS (fun _ h => h) (fun H locs hP _ _ hS => ?_)
  have hP : mP G a u H := hP
  refine lv_if_ne (tgt := 9) hx hb dX6_closeYear_4 (by decide) (fun c1 => ?_) (fun c1 => ?_)
  · skip
    refine lv_aload_n hx hb dX6_closeYear_9 rfl (lv_at hl 0 rfl) ?_
    refine g_get S hK hP (i := 0) (by omega) mC0 rfl inlX6 0 (by decide) k_67 (v := .ref (a 1)) rfl dX6_closeYear_10 ?_
    refine lv_iconst (v := 0) hx hb dX6_closeYear_13 (by decide) ?_
    refine g_aldN S hK hP (i := 1) (by omega) mC1 (k := 0) (by omega) (by decide) (v := u 1 0) (rfl) dX6_closeYear_14 ?_
    refine lv_bipush (v := 100) hx hb dX6_closeYear_15 (by decide) ?_
    refine lv_iload_n hx hb dX6_closeYear_17 rfl (lv_at hl 1 rfl) ?_
    refine lv_iconst (v := 1) hx hb dX6_closeYear_18 (by decide) ?_
    refine lv_iadd hx hb dX6_closeYear_19 ?_
    refine lv_imul hx hb dX6_closeYear_20 ?_
    refine lv_icmp_lt (tgt := 35) hx hb dX6_closeYear_21 (by decide) (fun c2 => ?_) (fun c2 => ?_)
    · skip
      refine lv_bipush (v := -4) hx hb dX6_closeYear_35 (by decide) ?_
      exact e_int S hr hlk rfl hK hS (gP_eq (show w_X6_closeYear u p1 = u from (if_neg c1).trans ((if_pos c2).trans rfl)) hP) (show v_X6_closeYear u p1 = (-4 : Int32) from (if_neg c1).trans ((if_pos c2).trans rfl)).symm dX6_closeYear_37
    · skip
      refine lv_aload_n hx hb dX6_closeYear_24 rfl (lv_at hl 0 rfl) ?_
      refine g_get S hK hP (i := 0) (by omega) mC0 rfl inlX6 0 (by decide) k_67 (v := .ref (a 1)) rfl dX6_closeYear_25 ?_
      refine lv_bipush (v := 8) hx hb dX6_closeYear_28 (by decide) ?_
      refine g_aldN S hK hP (i := 1) (by omega) mC1 (k := 8) (by omega) (by decide) (v := u 1 8) (rfl) dX6_closeYear_30 ?_
      refine lv_iload_n hx hb dX6_closeYear_31 rfl (lv_at hl 1 rfl) ?_
      refine lv_icmp_ge (tgt := 38) hx hb dX6_closeYear_32 (by decide) (fun c3 => ?_) (fun c3 => ?_)
      · skip
        refine lv_aload_n hx hb dX6_closeYear_38 rfl (lv_at hl 0 rfl) ?_
        refine g_get S hK hP (i := 0) (by omega) mC0 rfl inlX6 0 (by decide) k_67 (v := .ref (a 1)) rfl dX6_closeYear_39 ?_
        refine lv_bipush (v := 8) hx hb dX6_closeYear_42 (by decide) ?_
        refine g_aldN S hK hP (i := 1) (by omega) mC1 (k := 8) (by omega) (by decide) (v := u 1 8) (rfl) dX6_closeYear_44 ?_
        refine lv_iload_n hx hb dX6_closeYear_45 rfl (lv_at hl 1 rfl) ?_
        refine lv_icmp_le (tgt := 52) hx hb dX6_closeYear_46 (by decide) (fun c4 => ?_) (fun c4 => ?_)
        · skip
          refine lv_aload_n hx hb dX6_closeYear_52 rfl (lv_at hl 0 rfl) ?_
          refine r_callV S hK hP (c_X6_know l G a hI u hk6) (r_cw S k_205 k_202 k_203 k_204 k_5 q_X6_know ⟨Nat.le_of_ble_eq_true rfl, Nat.le_of_ble_eq_true rfl⟩ rfl rfl) (g_recv hK hP (i := 0) (by omega) mC0 rfl) rfl hl.1 rfl (Nat.le_of_ble_eq_true rfl) dX6_closeYear_53 ⟨Nat.zero_le _, Nat.zero_le _⟩ hS (fun _ h => h) (fun H locs hP _ _ hS => ?_)
          have hP : mP G a (w_X6_know u) H := hP
          refine lv_aload_n hx hb dX6_closeYear_56 rfl (lv_at hl 0 rfl) ?_
          refine g_get S hK hP (i := 0) (by omega) mC0 rfl inlX6 0 (by decide) k_67 (v := .ref (a 1)) rfl dX6_closeYear_57 ?_
          refine lv_bipush (v := 125) hx hb dX6_closeYear_60 (by decide) ?_
          refine lv_iload_n hx hb dX6_closeYear_62 rfl (lv_at hl 1 rfl) ?_
          have hq_p1 : p1.toNatClampNeg < 100 := vp_lt ((vp_X6_isYear c1 (by decide)) : vp_in p1 100)
          refine r_top (v := nI p1.toNatClampNeg) (vp_nI ((vp_X6_isYear c1 (by decide)) : vp_in p1 100)) ?_
          refine lv_iadd hx hb dX6_closeYear_63 ?_
          refine r_top (v := nI (125 + p1.toNatClampNeg)) (nI_add 125 p1.toNatClampNeg) ?_
          refine lv_aload_n hx hb dX6_closeYear_64 rfl (lv_at hl 0 rfl) ?_
          refine lv_iload_n hx hb dX6_closeYear_65 rfl (lv_at hl 1 rfl) ?_
          have hq_p1 : p1.toNatClampNeg < 100 := vp_lt ((vp_X6_isYear c1 (by decide)) : vp_in p1 100)
          refine r_top (v := nI p1.toNatClampNeg) (vp_nI ((vp_X6_isYear c1 (by decide)) : vp_in p1 100)) ?_
          refine lv_aload_n hx hb dX6_closeYear_66 rfl (lv_at hl 0 rfl) ?_
          refine g_get S hK hP (i := 0) (by omega) mC0 rfl inlX6 0 (by decide) k_67 (v := .ref (a 1)) rfl dX6_closeYear_67 ?_
          refine lv_iconst (v := 5) hx hb dX6_closeYear_70 (by decide) ?_
          refine g_aldN S hK hP (i := 1) (by omega) mC1 (k := 5) (by omega) (by decide) (v := (w_X6_know u) 1 5) (rfl) dX6_closeYear_71 ?_
          refine r_callI S hK hP (c_X6_dueFor l G a hI (w_X6_know u) p1.toNatClampNeg (by omega) _ (know_SI hm)) (r_cw S k_469 k_466 k_467 k_468 k_5 q_X6_dueFor ⟨Nat.le_of_ble_eq_true rfl, Nat.le_of_ble_eq_true rfl⟩ rfl rfl) (g_recv hK hP (i := 0) (by omega) mC0 rfl) rfl hl.1 rfl (Nat.le_of_ble_eq_true rfl) dX6_closeYear_72 ⟨Nat.zero_le _, Nat.zero_le _⟩ hS (fun _ h => h) (fun H locs hP _ _ hS => ?_)
          have hP : mP G a (w_X6_know u) H := hP
          refine g_astN S hK hP hI hS (i := 1) (by omega) mC1 (k := 125 + p1.toNatClampNeg) (by omega) (by decide) dX6_closeYear_75 (fun H locs hP hS => ?_)
          have hP : mP G a (up (w_X6_know u) 1 (125 + p1.toNatClampNeg) (v_X6_dueFor (w_X6_know u) p1.toNatClampNeg ((w_X6_know u) 1 5))) H := hP
          refine lv_aload_n hx hb dX6_closeYear_76 rfl (lv_at hl 0 rfl) ?_
          refine g_get S hK hP (i := 0) (by omega) mC0 rfl inlX6 0 (by decide) k_67 (v := .ref (a 1)) rfl dX6_closeYear_77 ?_
          refine lv_bipush (v := 8) hx hb dX6_closeYear_80 (by decide) ?_
          refine lv_dup2_11 hx hb dX6_closeYear_82 rfl rfl ?_
          refine g_aldN S hK hP (i := 1) (by omega) mC1 (k := 8) (by omega) (by decide) (v := (w_X6_know u) 1 8) ((up_nk (by omega)).trans rfl) dX6_closeYear_83 ?_
          refine lv_iconst (v := 1) hx hb dX6_closeYear_84 (by decide) ?_
          refine lv_iadd hx hb dX6_closeYear_85 ?_
          refine g_astN S hK hP hI hS (i := 1) (by omega) mC1 (k := 8) (by omega) (by decide) dX6_closeYear_86 (fun H locs hP hS => ?_)
          have hP : mP G a (up (up (w_X6_know u) 1 (125 + p1.toNatClampNeg) (v_X6_dueFor (w_X6_know u) p1.toNatClampNeg ((w_X6_know u) 1 5))) 1 8 (((w_X6_know u) 1 8) + (1 : Int32))) H := hP
          refine lv_aload_n hx hb dX6_closeYear_87 rfl (lv_at hl 0 rfl) ?_
          refine g_get S hK hP (i := 0) (by omega) mC0 rfl inlX6 0 (by decide) k_67 (v := .ref (a 1)) rfl dX6_closeYear_88 ?_
          refine lv_bipush (v := 125) hx hb dX6_closeYear_91 (by decide) ?_
          refine lv_iload_n hx hb dX6_closeYear_93 rfl (lv_at hl 1 rfl) ?_
          have hq_p1 : p1.toNatClampNeg < 100 := vp_lt ((vp_X6_isYear c1 (by decide)) : vp_in p1 100)
          refine r_top (v := nI p1.toNatClampNeg) (vp_nI ((vp_X6_isYear c1 (by decide)) : vp_in p1 100)) ?_
          refine lv_iadd hx hb dX6_closeYear_94 ?_
          refine r_top (v := nI (125 + p1.toNatClampNeg)) (nI_add 125 p1.toNatClampNeg) ?_
          refine g_aldN S hK hP (i := 1) (by omega) mC1 (k := 125 + p1.toNatClampNeg) (by omega) (by decide) (v := v_X6_dueFor (w_X6_know u) p1.toNatClampNeg ((w_X6_know u) 1 5)) ((up_nk (by omega)).trans (up_same)) dX6_closeYear_95 ?_
          exact e_int S hr hlk rfl hK hS (gP_eq (show w_X6_closeYear u p1 = up (up (w_X6_know u) 1 (125 + p1.toNatClampNeg) (v_X6_dueFor (w_X6_know u) p1.toNatClampNeg ((w_X6_know u) 1 5))) 1 8 (((w_X6_know u) 1 8) + (1 : Int32)) from (if_neg c1).trans ((if_neg c2).trans ((if_pos c3).trans ((if_pos c4).trans rfl)))) hP) (show v_X6_closeYear u p1 = v_X6_dueFor (w_X6_know u) p1.toNatClampNeg ((w_X6_know u) 1 5) from (if_neg c1).trans ((if_neg c2).trans ((if_pos c3).trans ((if_pos c4).trans rfl)))).symm dX6_closeYear_96
        · skip
          refine lv_bipush (v := -5) hx hb dX6_closeYear_49 (by decide) ?_
          exact e_int S hr hlk rfl hK hS (gP_eq (show w_X6_closeYear u p1 = u from (if_neg c1).trans ((if_neg c2).trans ((if_pos c3).trans ((if_neg c4).trans rfl)))) hP) (show v_X6_closeYear u p1 = (-5 : Int32) from (if_neg c1).trans ((if_neg c2).trans ((if_pos c3).trans ((if_neg c4).trans rfl)))).symm dX6_closeYear_51
      · skip
        refine lv_bipush (v := -4) hx hb dX6_closeYear_35 (by decide) ?_
        exact e_int S hr hlk rfl hK hS (gP_eq (show w_X6_closeYear u p1 = u from (if_neg c1).trans ((if_neg c2).trans ((if_neg c3).trans rfl))) hP) (show v_X6_closeYear u p1 = (-4 : Int32) from (if_neg c1).trans ((if_neg c2).trans ((if_neg c3).trans rfl))).symm dX6_closeYear_37
  · skip
    refine lv_iconst (v := -1) hx hb dX6_closeYear_7 (by decide) ?_
    exact e_int S hr hlk rfl hK hS (gP_eq (show w_X6_closeYear u p1 = u from (if_pos c1).trans rfl) hP) (show v_X6_closeYear u p1 = (-1 : Int32) from (if_pos c1).trans rfl).symm dX6_closeYear_8

def v_X6_set (u : Nat → Nat → Int32) (p1 : Int32) (p2 : Int32) : Int32 := if v_X6_in p1 (0 : Int32) (4 : Int32) = 0 then (-1 : Int32) else if p1 = (2 : Int32) then (if v_X6_in p2 (1 : Int32) (v_X6_most p1) = 0 then (-2 : Int32) else if u 1 (1 + p1.toNatClampNeg) = p2 then (-5 : Int32) else u 1 (1 + p1.toNatClampNeg)) else if v_X6_in p2 (0 : Int32) (v_X6_most p1) = 0 then (-2 : Int32) else if u 1 (1 + p1.toNatClampNeg) = p2 then (-5 : Int32) else u 1 (1 + p1.toNatClampNeg)
def w_X6_set (u : Nat → Nat → Int32) (p1 : Int32) (p2 : Int32) : Nat → Nat → Int32 := if v_X6_in p1 (0 : Int32) (4 : Int32) = 0 then u else if p1 = (2 : Int32) then (if v_X6_in p2 (1 : Int32) (v_X6_most p1) = 0 then u else if u 1 (1 + p1.toNatClampNeg) = p2 then u else up (w_X6_know u) 1 (1 + p1.toNatClampNeg) p2) else if v_X6_in p2 (0 : Int32) (v_X6_most p1) = 0 then u else if u 1 (1 + p1.toNatClampNeg) = p2 then u else up (w_X6_know u) 1 (1 + p1.toNatClampNeg) p2
theorem q_X6_set : yX6_set.cls ≠ "java/lang/invoke/MethodHandle" ∧ yX6_set.cls ≠ "java/lang/invoke/VarHandle" ∧ (parseMethodDescriptor yX6_set.desc).map (fun d => d.parameters.length) = some 2 := ⟨by decide, by decide, by decide +kernel⟩
set_option maxHeartbeats 4000000 in
set_option maxRecDepth 100000 in
theorem c_X6_set (l : Launch) (G : kG) (a : Nat → Nat) (hI : gI 8 a) (u : Nat → Nat → Int32) (p1 : Int32) (p2 : Int32) (hm : SI (u 1)) (hk6 : KI (u 0)) : Met l yX6_set (Cond.code yX6_set cX6_set 4 (some .int) :: BIG) (rmK 2) (pcG G (mP G a u) [.ref (a 0), .int p1, .int p2]) (qcI G (gA 8 a) (mP G a (w_X6_set u p1 p2)) (v_X6_set u p1 p2)) 0 0 (gA 8 a) := by
  refine m_start (by decide) (Nat.le_of_ble_eq_true rfl) ?_
  intro p e s m args below meth c S hr hlk hnm hP hK ls hl
  have hx := S.1
  have hb := S.2.1
  have hown := S.2.2.2.1
  have hS : va_S (gA 8 a) s.heap s.heap [] := va_S.rf
  have hl : lv_has ls 4 [(0, .ref (a 0)), (1, .int p1), (2, .int p2)] := hl
  refine lv_iload_n hx hb dX6_set_0 rfl (lv_at hl 1 rfl) ?_
  refine lv_iconst (v := 0) hx hb dX6_set_1 (by decide) ?_
  refine lv_iconst (v := 4) hx hb dX6_set_2 (by decide) ?_
  refine r_callS S hK hP (c_X6_in l G (mP G a u) (gA 8 a) _ _ _ ) (r_cs S k_198 k_196 k_197 k_5 q_X6_in ⟨Nat.le_of_ble_eq_true rfl, Nat.le_of_ble_eq_true rfl⟩ rfl rfl) rfl hl.1 rfl (Nat.le_of_ble_eq_true rfl) dX6_set_3 ⟨Nat.zero_le _, Nat.zero_le _⟩ hS (fun _ h => h) (fun H locs hP _ _ hS => ?_)
  have hP : mP G a u H := hP
  refine lv_if_ne (tgt := 11) hx hb dX6_set_6 (by decide) (fun c1 => ?_) (fun c1 => ?_)
  · skip
    refine lv_iload_n hx hb dX6_set_11 rfl (lv_at hl 2 rfl) ?_
    refine lv_iload_n hx hb dX6_set_12 rfl (lv_at hl 1 rfl) ?_
    refine lv_iconst (v := 2) hx hb dX6_set_13 (by decide) ?_
    refine lv_icmp_ne (tgt := 21) hx hb dX6_set_14 (by decide) (fun c2 => ?_) (fun c2 => ?_)
    · skip
      refine lv_iconst (v := 0) hx hb dX6_set_21 (by decide) ?_
      refine lv_iload_n hx hb dX6_set_22 rfl (lv_at hl 1 rfl) ?_
      refine r_callS S hK hP (c_X6_most l G (mP G a u) (gA 8 a) _ ) (r_cs S k_487 k_485 k_486 k_5 q_X6_most ⟨Nat.le_of_ble_eq_true rfl, Nat.le_of_ble_eq_true rfl⟩ rfl rfl) rfl hl.1 rfl (Nat.le_of_ble_eq_true rfl) dX6_set_23 ⟨Nat.zero_le _, Nat.zero_le _⟩ hS (fun _ h => h) (fun H locs hP _ _ hS => ?_)
      have hP : mP G a u H := hP
      refine r_callS S hK hP (c_X6_in l G (mP G a u) (gA 8 a) _ _ _ ) (r_cs S k_198 k_196 k_197 k_5 q_X6_in ⟨Nat.le_of_ble_eq_true rfl, Nat.le_of_ble_eq_true rfl⟩ rfl rfl) rfl hl.1 rfl (Nat.le_of_ble_eq_true rfl) dX6_set_26 ⟨Nat.zero_le _, Nat.zero_le _⟩ hS (fun _ h => h) (fun H locs hP _ _ hS => ?_)
      have hP : mP G a u H := hP
      refine lv_if_ne (tgt := 35) hx hb dX6_set_29 (by decide) (fun c3 => ?_) (fun c3 => ?_)
      · skip
        refine lv_aload_n hx hb dX6_set_35 rfl (lv_at hl 0 rfl) ?_
        refine g_get S hK hP (i := 0) (by omega) mC0 rfl inlX6 0 (by decide) k_67 (v := .ref (a 1)) rfl dX6_set_36 ?_
        refine lv_iconst (v := 1) hx hb dX6_set_39 (by decide) ?_
        refine lv_iload_n hx hb dX6_set_40 rfl (lv_at hl 1 rfl) ?_
        have hq_p1 : p1.toNatClampNeg < 5 := vp_lt ((vp_in6 c1 (by decide) (by decide) : vp_in p1 5) : vp_in p1 5)
        refine r_top (v := nI p1.toNatClampNeg) (vp_nI ((vp_in6 c1 (by decide) (by decide) : vp_in p1 5) : vp_in p1 5)) ?_
        refine lv_iadd hx hb dX6_set_41 ?_
        refine r_top (v := nI (1 + p1.toNatClampNeg)) (nI_add 1 p1.toNatClampNeg) ?_
        refine g_aldN S hK hP (i := 1) (by omega) mC1 (k := 1 + p1.toNatClampNeg) (by omega) (by decide) (v := u 1 (1 + p1.toNatClampNeg)) (rfl) dX6_set_42 ?_
        refine lv_istore_n (lv' := [(3, .int (u 1 (1 + p1.toNatClampNeg))), (0, .ref (a 0)), (1, .int p1), (2, .int p2)]) hx hb dX6_set_43 rfl hl (by decide) rfl (fun ls hl => ?_)
        refine lv_iload_n hx hb dX6_set_44 rfl (lv_at hl 0 rfl) ?_
        refine lv_iload_n hx hb dX6_set_45 rfl (lv_at hl 3 rfl) ?_
        refine lv_icmp_ne (tgt := 52) hx hb dX6_set_46 (by decide) (fun c4 => ?_) (fun c4 => ?_)
        · skip
          refine lv_aload_n hx hb dX6_set_52 rfl (lv_at hl 1 rfl) ?_
          refine r_callV S hK hP (c_X6_know l G a hI u hk6) (r_cw S k_205 k_202 k_203 k_204 k_5 q_X6_know ⟨Nat.le_of_ble_eq_true rfl, Nat.le_of_ble_eq_true rfl⟩ rfl rfl) (g_recv hK hP (i := 0) (by omega) mC0 rfl) rfl hl.1 rfl (Nat.le_of_ble_eq_true rfl) dX6_set_53 ⟨Nat.zero_le _, Nat.zero_le _⟩ hS (fun _ h => h) (fun H locs hP _ _ hS => ?_)
          have hP : mP G a (w_X6_know u) H := hP
          refine lv_aload_n hx hb dX6_set_56 rfl (lv_at hl 1 rfl) ?_
          refine g_get S hK hP (i := 0) (by omega) mC0 rfl inlX6 0 (by decide) k_67 (v := .ref (a 1)) rfl dX6_set_57 ?_
          refine lv_iconst (v := 1) hx hb dX6_set_60 (by decide) ?_
          refine lv_iload_n hx hb dX6_set_61 rfl (lv_at hl 2 rfl) ?_
          have hq_p1 : p1.toNatClampNeg < 5 := vp_lt ((vp_in6 c1 (by decide) (by decide) : vp_in p1 5) : vp_in p1 5)
          refine r_top (v := nI p1.toNatClampNeg) (vp_nI ((vp_in6 c1 (by decide) (by decide) : vp_in p1 5) : vp_in p1 5)) ?_
          refine lv_iadd hx hb dX6_set_62 ?_
          refine r_top (v := nI (1 + p1.toNatClampNeg)) (nI_add 1 p1.toNatClampNeg) ?_
          refine lv_iload_n hx hb dX6_set_63 rfl (lv_at hl 3 rfl) ?_
          refine g_astN S hK hP hI hS (i := 1) (by omega) mC1 (k := 1 + p1.toNatClampNeg) (by omega) (by decide) dX6_set_64 (fun H locs hP hS => ?_)
          have hP : mP G a (up (w_X6_know u) 1 (1 + p1.toNatClampNeg) p2) H := hP
          refine lv_iload_n hx hb dX6_set_65 rfl (lv_at hl 0 rfl) ?_
          exact e_int S hr hlk rfl hK hS (gP_eq (show w_X6_set u p1 p2 = up (w_X6_know u) 1 (1 + p1.toNatClampNeg) p2 from (if_neg c1).trans ((if_neg c2).trans ((if_neg c3).trans ((if_neg c4).trans rfl)))) hP) (show v_X6_set u p1 p2 = u 1 (1 + p1.toNatClampNeg) from (if_neg c1).trans ((if_neg c2).trans ((if_neg c3).trans ((if_neg c4).trans rfl)))).symm dX6_set_66
        · skip
          refine lv_bipush (v := -5) hx hb dX6_set_49 (by decide) ?_
          exact e_int S hr hlk rfl hK hS (gP_eq (show w_X6_set u p1 p2 = u from (if_neg c1).trans ((if_neg c2).trans ((if_neg c3).trans ((if_pos c4).trans rfl)))) hP) (show v_X6_set u p1 p2 = (-5 : Int32) from (if_neg c1).trans ((if_neg c2).trans ((if_neg c3).trans ((if_pos c4).trans rfl)))).symm dX6_set_51
      · skip
        refine lv_bipush (v := -2) hx hb dX6_set_32 (by decide) ?_
        exact e_int S hr hlk rfl hK hS (gP_eq (show w_X6_set u p1 p2 = u from (if_neg c1).trans ((if_neg c2).trans ((if_pos c3).trans rfl))) hP) (show v_X6_set u p1 p2 = (-2 : Int32) from (if_neg c1).trans ((if_neg c2).trans ((if_pos c3).trans rfl))).symm dX6_set_34
    · skip
      refine lv_iconst (v := 1) hx hb dX6_set_17 (by decide) ?_
      refine lv_goto (tgt := 22) hx hb dX6_set_18 (by decide) ?_
      refine lv_iload_n hx hb dX6_set_22 rfl (lv_at hl 1 rfl) ?_
      refine r_callS S hK hP (c_X6_most l G (mP G a u) (gA 8 a) _ ) (r_cs S k_487 k_485 k_486 k_5 q_X6_most ⟨Nat.le_of_ble_eq_true rfl, Nat.le_of_ble_eq_true rfl⟩ rfl rfl) rfl hl.1 rfl (Nat.le_of_ble_eq_true rfl) dX6_set_23 ⟨Nat.zero_le _, Nat.zero_le _⟩ hS (fun _ h => h) (fun H locs hP _ _ hS => ?_)
      have hP : mP G a u H := hP
      refine r_callS S hK hP (c_X6_in l G (mP G a u) (gA 8 a) _ _ _ ) (r_cs S k_198 k_196 k_197 k_5 q_X6_in ⟨Nat.le_of_ble_eq_true rfl, Nat.le_of_ble_eq_true rfl⟩ rfl rfl) rfl hl.1 rfl (Nat.le_of_ble_eq_true rfl) dX6_set_26 ⟨Nat.zero_le _, Nat.zero_le _⟩ hS (fun _ h => h) (fun H locs hP _ _ hS => ?_)
      have hP : mP G a u H := hP
      refine lv_if_ne (tgt := 35) hx hb dX6_set_29 (by decide) (fun c5 => ?_) (fun c5 => ?_)
      · skip
        refine lv_aload_n hx hb dX6_set_35 rfl (lv_at hl 0 rfl) ?_
        refine g_get S hK hP (i := 0) (by omega) mC0 rfl inlX6 0 (by decide) k_67 (v := .ref (a 1)) rfl dX6_set_36 ?_
        refine lv_iconst (v := 1) hx hb dX6_set_39 (by decide) ?_
        refine lv_iload_n hx hb dX6_set_40 rfl (lv_at hl 1 rfl) ?_
        have hq_p1 : p1.toNatClampNeg < 5 := vp_lt ((vp_in6 c1 (by decide) (by decide) : vp_in p1 5) : vp_in p1 5)
        refine r_top (v := nI p1.toNatClampNeg) (vp_nI ((vp_in6 c1 (by decide) (by decide) : vp_in p1 5) : vp_in p1 5)) ?_
        refine lv_iadd hx hb dX6_set_41 ?_
        refine r_top (v := nI (1 + p1.toNatClampNeg)) (nI_add 1 p1.toNatClampNeg) ?_
        refine g_aldN S hK hP (i := 1) (by omega) mC1 (k := 1 + p1.toNatClampNeg) (by omega) (by decide) (v := u 1 (1 + p1.toNatClampNeg)) (rfl) dX6_set_42 ?_
        refine lv_istore_n (lv' := [(3, .int (u 1 (1 + p1.toNatClampNeg))), (0, .ref (a 0)), (1, .int p1), (2, .int p2)]) hx hb dX6_set_43 rfl hl (by decide) rfl (fun ls hl => ?_)
        refine lv_iload_n hx hb dX6_set_44 rfl (lv_at hl 0 rfl) ?_
        refine lv_iload_n hx hb dX6_set_45 rfl (lv_at hl 3 rfl) ?_
        refine lv_icmp_ne (tgt := 52) hx hb dX6_set_46 (by decide) (fun c6 => ?_) (fun c6 => ?_)
        · skip
          refine lv_aload_n hx hb dX6_set_52 rfl (lv_at hl 1 rfl) ?_
          refine r_callV S hK hP (c_X6_know l G a hI u hk6) (r_cw S k_205 k_202 k_203 k_204 k_5 q_X6_know ⟨Nat.le_of_ble_eq_true rfl, Nat.le_of_ble_eq_true rfl⟩ rfl rfl) (g_recv hK hP (i := 0) (by omega) mC0 rfl) rfl hl.1 rfl (Nat.le_of_ble_eq_true rfl) dX6_set_53 ⟨Nat.zero_le _, Nat.zero_le _⟩ hS (fun _ h => h) (fun H locs hP _ _ hS => ?_)
          have hP : mP G a (w_X6_know u) H := hP
          refine lv_aload_n hx hb dX6_set_56 rfl (lv_at hl 1 rfl) ?_
          refine g_get S hK hP (i := 0) (by omega) mC0 rfl inlX6 0 (by decide) k_67 (v := .ref (a 1)) rfl dX6_set_57 ?_
          refine lv_iconst (v := 1) hx hb dX6_set_60 (by decide) ?_
          refine lv_iload_n hx hb dX6_set_61 rfl (lv_at hl 2 rfl) ?_
          have hq_p1 : p1.toNatClampNeg < 5 := vp_lt ((vp_in6 c1 (by decide) (by decide) : vp_in p1 5) : vp_in p1 5)
          refine r_top (v := nI p1.toNatClampNeg) (vp_nI ((vp_in6 c1 (by decide) (by decide) : vp_in p1 5) : vp_in p1 5)) ?_
          refine lv_iadd hx hb dX6_set_62 ?_
          refine r_top (v := nI (1 + p1.toNatClampNeg)) (nI_add 1 p1.toNatClampNeg) ?_
          refine lv_iload_n hx hb dX6_set_63 rfl (lv_at hl 3 rfl) ?_
          refine g_astN S hK hP hI hS (i := 1) (by omega) mC1 (k := 1 + p1.toNatClampNeg) (by omega) (by decide) dX6_set_64 (fun H locs hP hS => ?_)
          have hP : mP G a (up (w_X6_know u) 1 (1 + p1.toNatClampNeg) p2) H := hP
          refine lv_iload_n hx hb dX6_set_65 rfl (lv_at hl 0 rfl) ?_
          exact e_int S hr hlk rfl hK hS (gP_eq (show w_X6_set u p1 p2 = up (w_X6_know u) 1 (1 + p1.toNatClampNeg) p2 from (if_neg c1).trans ((if_pos c2).trans ((if_neg c5).trans ((if_neg c6).trans rfl)))) hP) (show v_X6_set u p1 p2 = u 1 (1 + p1.toNatClampNeg) from (if_neg c1).trans ((if_pos c2).trans ((if_neg c5).trans ((if_neg c6).trans rfl)))).symm dX6_set_66
        · skip
          refine lv_bipush (v := -5) hx hb dX6_set_49 (by decide) ?_
          exact e_int S hr hlk rfl hK hS (gP_eq (show w_X6_set u p1 p2 = u from (if_neg c1).trans ((if_pos c2).trans ((if_neg c5).trans ((if_pos c6).trans rfl)))) hP) (show v_X6_set u p1 p2 = (-5 : Int32) from (if_neg c1).trans ((if_pos c2).trans ((if_neg c5).trans ((if_pos c6).trans rfl)))).symm dX6_set_51
      · skip
        refine lv_bipush (v := -2) hx hb dX6_set_32 (by decide) ?_
        exact e_int S hr hlk rfl hK hS (gP_eq (show w_X6_set u p1 p2 = u from (if_neg c1).trans ((if_pos c2).trans ((if_pos c5).trans rfl))) hP) (show v_X6_set u p1 p2 = (-2 : Int32) from (if_neg c1).trans ((if_pos c2).trans ((if_pos c5).trans rfl))).symm dX6_set_34
  · skip
    refine lv_iconst (v := -1) hx hb dX6_set_9 (by decide) ?_
    exact e_int S hr hlk rfl hK hS (gP_eq (show w_X6_set u p1 p2 = u from (if_pos c1).trans rfl) hP) (show v_X6_set u p1 p2 = (-1 : Int32) from (if_pos c1).trans rfl).symm dX6_set_10
