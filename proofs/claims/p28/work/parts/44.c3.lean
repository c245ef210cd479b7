/-! bounds of the places of the books -/
theorem copyFrom1_loop_R (r r1 : Nat) : ∀ (n k : Nat) (z : CS), (w_X1_copyFrom_loop r r1 n k z).1 = z.1 := by
  intro n
  induction n with
  | zero => intro k z; rfl
  | succ n ih => intro k z; exact (ih (k + 1) (w_X0_copyFrom z r k r1 k)).trans rfl
theorem copyFrom1_R {z : CS} {r r1 : Nat} : (w_X1_copyFrom z r r1).1 = z.1 := copyFrom1_loop_R r r1 40 0 z
theorem startAct_R {z : CS} : (w_X5_startAct z).1 = z.1 := copyFrom1_R
theorem RI_eq {R R' : Nat → Nat} (h : R' = R) (hR : RI R) : RI R' := h ▸ hR
theorem RJ_eq {R R' : Nat → Nat} (h : R' = R) (hR : RJ R) : RJ R' := h ▸ hR
theorem add_loop_lt {z : CS} {r1 : Nat} : ∀ (n k : Nat) (z1 : CS), k + n = 3 → RI z1.1 → v_X2_add_loop z r1 n k z1 < 7 ∨ v_X2_add_loop z r1 n k z1 = z.1 2 := by
  intro n
  induction n with
  | zero => intro k z1 _ _; exact Or.inr rfl
  | succ n ih => intro k z1 hk h; exact ih (k + 1) _ (by omega) (RI_up h (h _ (by omega)))
theorem add_lt {z : CS} {r1 : Nat} (h : RI z.1) : v_X2_add z r1 < 7 := by
  have hl : v_X2_add_loop z r1 3 0 z < 7 := by
    rcases add_loop_lt (z := z) (r1 := r1) 3 0 z rfl h with e | e
    · exact e
    · rw [e]; exact h 2 (by decide)
  unfold v_X2_add
  refine (Classical.em (z.2 7 1 1 < 0)).elim (fun c1 => ?_) (fun c1 => ?_)
  · rw [if_pos c1]; exact hl
  rw [if_neg c1]
  refine (Classical.em ((4 : Int32) ≤ z.2 7 1 1)).elim (fun c2 => ?_) (fun c2 => ?_)
  · rw [if_pos c2]; exact hl
  rw [if_neg c2]
  have hin : vp_in (z.2 7 1 1) 4 := vp_of (vp_lo1 c1) (vp_hi1 (n := 4) c2 rfl (by decide))
  have := vp_lt hin
  exact h _ (by omega)
theorem takeLatest_lt {z : CS} {r1 : Nat} (h : RI z.1) (h1 : r1 < 7) : v_X2_takeLatest z r1 < 7 := by
  unfold v_X2_takeLatest
  refine (Classical.em (z.2 7 1 1 ≤ 0)).elim (fun c1 => ?_) (fun c1 => ?_)
  · rw [if_pos c1]; exact h1
  rw [if_neg c1]
  refine (Classical.em (z.2 7 1 1 ≤ (4 : Int32))).elim (fun c2 => ?_) (fun c2 => ?_)
  · rw [if_pos c2]
    have := vp_lt (vp_dec c1 c2)
    exact h _ (by omega)
  · rw [if_neg c2]; exact h1
theorem fst_zB {z : CS} {r : Nat} {b : Nat → Nat → Int32} : (zB z r b).1 = z.1 := rfl
theorem fst_wB {z : CS} {r t k : Nat} {v : Int32} : (wB z r t k v).1 = z.1 := rfl
theorem fst_wC {z : CS} {r t r1 N : Nat} : (wC z r t r1 N).1 = z.1 := rfl
theorem fst_w7 {z : CS} {t k : Nat} {v : Int32} : (w7 z t k v).1 = z.1 := rfl
theorem fst_w8 {z : CS} {k : Nat} {v : Int32} : (w8 z k v).1 = z.1 := rfl
def v_X5_endAct (z : CS) (p1 : Int32) : Int32 := if p1 < 0 then p1 else p1
def w_X5_endAct (z : CS) (p1 : Int32) : CS := if p1 < 0 then (zR (zR z 1 (z.1 0)) 0 (z.1 1)) else zR (w_X2_add z (z.1 1)) 1 (v_X2_add z (z.1 1))
theorem q_X5_endAct : yX5_endAct.cls ≠ "java/lang/invoke/MethodHandle" ∧ yX5_endAct.cls ≠ "java/lang/invoke/VarHandle" ∧ (parseMethodDescriptor yX5_endAct.desc).map (fun d => d.parameters.length) = some 1 := ⟨by decide, by decide, by decide +kernel⟩
set_option maxHeartbeats 4000000 in
set_option maxRecDepth 100000 in
theorem c_X5_endAct (l : Launch) (G : kG) (a : Nat → Nat) (hI : gI 334 a) (z : CS) (p1 : Int32) (hR : RI z.1) (hJ : RJ z.1) : Met l yX5_endAct (Cond.code yX5_endAct cX5_endAct 3 (some .int) :: BIG) (rmK 1) (pcG G (cP G a z) [.ref (a 329), .int p1]) (qcI G (gA 334 a) (cP G a (w_X5_endAct z p1)) (v_X5_endAct z p1)) 0 0 (gA 334 a) := by
  refine m_start (by decide) (Nat.le_of_ble_eq_true rfl) ?_
  intro p e s m args below meth c S hr hlk hnm hP hK ls hl
  have hx := S.1
  have hb := S.2.1
  have hown := S.2.2.2.1
  have hS : va_S (gA 334 a) s.heap s.heap [] := va_S.rf
  have hl : lv_has ls 3 [(0, .ref (a 329)), (1, .int p1)] := hl
  refine lv_iload_n hx hb dX5_endAct_0 rfl (lv_at hl 1 rfl) ?_
  refine lv_if_lt (tgt := 22) hx hb dX5_endAct_1 (by decide) (fun c1 => ?_) (fun c1 => ?_)
  · skip
    refine lv_aload_n hx hb dX5_endAct_22 rfl (lv_at hl 0 rfl) ?_
    refine g_get S hK hP (i := 329) (by omega) cC0 rfl inlX5 1 (by decide) k_13 (v := .ref (a (47 * (z.1 1)))) rfl dX5_endAct_23 ?_
    refine lv_astore_n (lv' := [(2, .ref (a (47 * (z.1 1)))), (0, .ref (a 329)), (1, .int p1)]) hx hb dX5_endAct_26 rfl hl (by decide) rfl (fun ls hl => ?_)
    refine lv_aload_n hx hb dX5_endAct_27 rfl (lv_at hl 1 rfl) ?_
    refine lv_aload_n hx hb dX5_endAct_28 rfl (lv_at hl 1 rfl) ?_
    refine g_get S hK hP (i := 329) (by omega) cC0 rfl inlX5 0 (by decide) k_12 (v := .ref (a (47 * (z.1 0)))) rfl dX5_endAct_29 ?_
    refine c_putR 1 (by decide) S hK hP hI hS (r := z.1 0) k_13 rfl pBk rfl rfl dX5_endAct_32 (fun H locs hP hS => ?_)
    have hP : cP G a (zR z 1 (z.1 0)) H := hP
    refine lv_aload_n hx hb dX5_endAct_35 rfl (lv_at hl 1 rfl) ?_
    refine lv_aload_n hx hb dX5_endAct_36 rfl (lv_at hl 0 rfl) ?_
    refine c_putR 0 (by decide) S hK hP hI hS (r := z.1 1) k_12 rfl pBk rfl rfl dX5_endAct_37 (fun H locs hP hS => ?_)
    have hP : cP G a (zR (zR z 1 (z.1 0)) 0 (z.1 1)) H := hP
    refine lv_iload_n hx hb dX5_endAct_40 rfl (lv_at hl 2 rfl) ?_
    exact e_int S hr hlk rfl hK hS (cP_eq (show w_X5_endAct z p1 = zR (zR z 1 (z.1 0)) 0 (z.1 1) from (if_pos c1).trans rfl) hP) (show v_X5_endAct z p1 = p1 from (if_pos c1).trans rfl).symm dX5_endAct_41
  · skip
    refine lv_aload_n hx hb dX5_endAct_4 rfl (lv_at hl 0 rfl) ?_
    refine lv_aload_n hx hb dX5_endAct_5 rfl (lv_at hl 0 rfl) ?_
    refine g_get S hK hP (i := 329) (by omega) cC0 rfl inlX5 4 (by decide) k_18 (v := .ref (a 330)) rfl dX5_endAct_6 ?_
    refine lv_aload_n hx hb dX5_endAct_9 rfl (lv_at hl 0 rfl) ?_
    refine g_get S hK hP (i := 329) (by omega) cC0 rfl inlX5 1 (by decide) k_13 (v := .ref (a (47 * (z.1 1)))) rfl dX5_endAct_10 ?_
    refine r_callQ S hK hP (c_X2_add l G a hI z (z.1 1) (hR 1 (by decide)) hR) (r_cw S k_346 k_343 k_344 k_345 k_17 q_X2_add ⟨Nat.le_of_ble_eq_true rfl, Nat.le_of_ble_eq_true rfl⟩ rfl rfl) (g_recv hK hP (i := 330) (by omega) cC1 rfl) rfl hl.1 rfl (Nat.le_of_ble_eq_true rfl) dX5_endAct_13 ⟨Nat.zero_le _, Nat.zero_le _⟩ hS (fun _ h => h) (fun H locs hP _ _ hS => ?_)
    have hP : cP G a (w_X2_add z (z.1 1)) H := hP
    refine c_putR 1 (by decide) S hK hP hI hS (r := (v_X2_add z (z.1 1))) k_13 rfl pBk rfl rfl dX5_endAct_16 (fun H locs hP hS => ?_)
    have hP : cP G a (zR (w_X2_add z (z.1 1)) 1 (v_X2_add z (z.1 1))) H := hP
    refine lv_goto (tgt := 40) hx hb dX5_endAct_19 (by decide) ?_
    refine lv_iload_n hx hb dX5_endAct_40 rfl (lv_at hl 1 rfl) ?_
    exact e_int S hr hlk rfl hK hS (cP_eq (show w_X5_endAct z p1 = zR (w_X2_add z (z.1 1)) 1 (v_X2_add z (z.1 1)) from (if_neg c1).trans rfl) hP) (show v_X5_endAct z p1 = p1 from (if_neg c1).trans rfl).symm dX5_endAct_41

def v_X5_bill (z : CS) (p1 : Int32) (p2 : Int32) (p3 : Int32) (p4 : Int32) : Int32 := v_X5_endAct (zB (w_X5_startAct z) ((w_X5_startAct z).1 0) (w_X1_writeBill ((w_X5_startAct z).2 ((w_X5_startAct z).1 0)) p1 p2 p3 p4)) (v_X1_writeBill ((w_X5_startAct z).2 ((w_X5_startAct z).1 0)) p1 p2 p3 p4)
def w_X5_bill (z : CS) (p1 : Int32) (p2 : Int32) (p3 : Int32) (p4 : Int32) : CS := w_X5_endAct (zB (w_X5_startAct z) ((w_X5_startAct z).1 0) (w_X1_writeBill ((w_X5_startAct z).2 ((w_X5_startAct z).1 0)) p1 p2 p3 p4)) (v_X1_writeBill ((w_X5_startAct z).2 ((w_X5_startAct z).1 0)) p1 p2 p3 p4)
theorem q_X5_bill : yX5_bill.cls ≠ "java/lang/invoke/MethodHandle" ∧ yX5_bill.cls ≠ "java/lang/invoke/VarHandle" ∧ (parseMethodDescriptor yX5_bill.desc).map (fun d => d.parameters.length) = some 4 := ⟨by decide, by decide, by decide +kernel⟩
set_option maxHeartbeats 4000000 in
set_option maxRecDepth 100000 in
theorem c_X5_bill (l : Launch) (G : kG) (a : Nat → Nat) (hI : gI 334 a) (z : CS) (p1 : Int32) (p2 : Int32) (p3 : Int32) (p4 : Int32) (hR : RI z.1) (hJ : RJ z.1) : Met l yX5_bill (Cond.code yX5_bill cX5_bill 5 (some .int) :: BIG) (rmK 4) (pcG G (cP G a z) [.ref (a 329), .int p1, .int p2, .int p3, .int p4]) (qcI G (gA 334 a) (cP G a (w_X5_bill z p1 p2 p3 p4)) (v_X5_bill z p1 p2 p3 p4)) 0 0 (gA 334 a) := by
  refine m_start (by decide) (Nat.le_of_ble_eq_true rfl) ?_
  intro p e s m args below meth c S hr hlk hnm hP hK ls hl
  have hx := S.1
  have hb := S.2.1
  have hown := S.2.2.2.1
  have hS : va_S (gA 334 a) s.heap s.heap [] := va_S.rf
  have hl : lv_has ls 5 [(0, .ref (a 329)), (1, .int p1), (2, .int p2), (3, .int p3), (4, .int p4)] := hl
  refine lv_aload_n hx hb dX5_bill_0 rfl (lv_at hl 0 rfl) ?_
  refine r_callV S hK hP (c_X5_startAct l G a hI z hR hJ) (r_cw S k_290 k_287 k_288 k_289 k_2 q_X5_startAct ⟨Nat.le_of_ble_eq_true rfl, Nat.le_of_ble_eq_true rfl⟩ rfl rfl) (g_recv hK hP (i := 329) (by omega) cC0 rfl) rfl hl.1 rfl (Nat.le_of_ble_eq_true rfl) dX5_bill_1 ⟨Nat.zero_le _, Nat.zero_le _⟩ hS (fun _ h => h) (fun H locs hP _ _ hS => ?_)
  have hP : cP G a (w_X5_startAct z) H := hP
  refine lv_aload_n hx hb dX5_bill_4 rfl (lv_at hl 0 rfl) ?_
  refine lv_aload_n hx hb dX5_bill_5 rfl (lv_at hl 0 rfl) ?_
  refine g_get S hK hP (i := 329) (by omega) cC0 rfl inlX5 0 (by decide) k_12 (v := .ref (a (47 * ((w_X5_startAct z).1 0)))) rfl dX5_bill_6 ?_
  refine lv_iload_n hx hb dX5_bill_9 rfl (lv_at hl 1 rfl) ?_
  refine lv_iload_n hx hb dX5_bill_10 rfl (lv_at hl 2 rfl) ?_
  refine lv_iload_n hx hb dX5_bill_11 rfl (lv_at hl 3 rfl) ?_
  refine lv_iload hx hb dX5_bill_12 (lv_at hl 4 rfl) ?_
  have hB := cP_book (r := (w_X5_startAct z).1 0) hP ((RI_eq (startAct_R) hR) 0 (by decide))
  refine r_callI S hK hB (c_X1_writeBill l G (fun t => a (47 * ((w_X5_startAct z).1 0) + t)) (gI_book hI ((RI_eq (startAct_R) hR) 0 (by decide))) ((w_X5_startAct z).2 ((w_X5_startAct z).1 0)) _ _ _ _ ) (r_cw S k_315 k_312 k_313 k_314 k_11 q_X1_writeBill ⟨Nat.le_of_ble_eq_true rfl, Nat.le_of_ble_eq_true rfl⟩ rfl rfl) (g_recv hK hB (i := 0) (by omega) bC0 rfl) rfl hl.1 rfl (Nat.le_of_ble_eq_true rfl) dX5_bill_14 ⟨Nat.zero_le _, Nat.zero_le _⟩ hS (fun _ h => gA_book ((RI_eq (startAct_R) hR) 0 (by decide)) h) (fun H locs hB hk1 hz1 hS => ?_)
  have hP := cP_join hI ((RI_eq (startAct_R) hR) 0 (by decide)) hP hB hk1
  have hP : cP G a (zB (w_X5_startAct z) ((w_X5_startAct z).1 0) (w_X1_writeBill ((w_X5_startAct z).2 ((w_X5_startAct z).1 0)) p1 p2 p3 p4)) H := hP
  refine r_callI S hK hP (c_X5_endAct l G a hI (zB (w_X5_startAct z) ((w_X5_startAct z).1 0) (w_X1_writeBill ((w_X5_startAct z).2 ((w_X5_startAct z).1 0)) p1 p2 p3 p4)) _ (RI_eq (fst_zB.trans (startAct_R)) hR) (RJ_eq (fst_zB.trans (startAct_R)) hJ)) (r_cw S k_342 k_339 k_340 k_341 k_2 q_X5_endAct ⟨Nat.le_of_ble_eq_true rfl, Nat.le_of_ble_eq_true rfl⟩ rfl rfl) (g_recv hK hP (i := 329) (by omega) cC0 rfl) rfl hl.1 rfl (Nat.le_of_ble_eq_true rfl) dX5_bill_17 ⟨Nat.zero_le _, Nat.zero_le _⟩ hS (fun _ h => h) (fun H locs hP _ _ hS => ?_)
  have hP : cP G a (w_X5_endAct (zB (w_X5_startAct z) ((w_X5_startAct z).1 0) (w_X1_writeBill ((w_X5_startAct z).2 ((w_X5_startAct z).1 0)) p1 p2 p3 p4)) (v_X1_writeBill ((w_X5_startAct z).2 ((w_X5_startAct z).1 0)) p1 p2 p3 p4)) H := hP
  exact e_int S hr hlk rfl hK hS (cP_eq (show w_X5_bill z p1 p2 p3 p4 = w_X5_endAct (zB (w_X5_startAct z) ((w_X5_startAct z).1 0) (w_X1_writeBill ((w_X5_startAct z).2 ((w_X5_startAct z).1 0)) p1 p2 p3 p4)) (v_X1_writeBill ((w_X5_startAct z).2 ((w_X5_startAct z).1 0)) p1 p2 p3 p4) from rfl) hP) (show v_X5_bill z p1 p2 p3 p4 = v_X5_endAct (zB (w_X5_startAct z) ((w_X5_startAct z).1 0) (w_X1_writeBill ((w_X5_startAct z).2 ((w_X5_startAct z).1 0)) p1 p2 p3 p4)) (v_X1_writeBill ((w_X5_startAct z).2 ((w_X5_startAct z).1 0)) p1 p2 p3 p4) from rfl).symm dX5_bill_20

def v_X5_pay (z : CS) (p1 : Int32) (p2 : Int32) : Int32 := v_X5_endAct (zB (w_X5_startAct z) ((w_X5_startAct z).1 0) (w_X1_takePayment ((w_X5_startAct z).2 ((w_X5_startAct z).1 0)) p1 p2)) (v_X1_takePayment ((w_X5_startAct z).2 ((w_X5_startAct z).1 0)) p1 p2)
def w_X5_pay (z : CS) (p1 : Int32) (p2 : Int32) : CS := w_X5_endAct (zB (w_X5_startAct z) ((w_X5_startAct z).1 0) (w_X1_takePayment ((w_X5_startAct z).2 ((w_X5_startAct z).1 0)) p1 p2)) (v_X1_takePayment ((w_X5_startAct z).2 ((w_X5_startAct z).1 0)) p1 p2)
theorem q_X5_pay : yX5_pay.cls ≠ "java/lang/invoke/MethodHandle" ∧ yX5_pay.cls ≠ "java/lang/invoke/VarHandle" ∧ (parseMethodDescriptor yX5_pay.desc).map (fun d => d.parameters.length) = some 2 := ⟨by decide, by decide, by decide +kernel⟩
set_option maxHeartbeats 4000000 in
set_option maxRecDepth 100000 in
theorem c_X5_pay (l : Launch) (G : kG) (a : Nat → Nat) (hI : gI 334 a) (z : CS) (p1 : Int32) (p2 : Int32) (hR : RI z.1) (hJ : RJ z.1) : Met l yX5_pay (Cond.code yX5_pay cX5_pay 3 (some .int) :: BIG) (rmK 4) (pcG G (cP G a z) [.ref (a 329), .int p1, .int p2]) (qcI G (gA 334 a) (cP G a (w_X5_pay z p1 p2)) (v_X5_pay z p1 p2)) 0 0 (gA 334 a) := by
  refine m_start (by decide) (Nat.le_of_ble_eq_true rfl) ?_
  intro p e s m args below meth c S hr hlk hnm hP hK ls hl
  have hx := S.1
  have hb := S.2.1
  have hown := S.2.2.2.1
  have hS : va_S (gA 334 a) s.heap s.heap [] := va_S.rf
  have hl : lv_has ls 3 [(0, .ref (a 329)), (1, .int p1), (2, .int p2)] := hl
  refine lv_aload_n hx hb dX5_pay_0 rfl (lv_at hl 0 rfl) ?_
  refine r_callV S hK hP (c_X5_startAct l G a hI z hR hJ) (r_cw S k_290 k_287 k_288 k_289 k_2 q_X5_startAct ⟨Nat.le_of_ble_eq_true rfl, Nat.le_of_ble_eq_true rfl⟩ rfl rfl) (g_recv hK hP (i := 329) (by omega) cC0 rfl) rfl hl.1 rfl (Nat.le_of_ble_eq_true rfl) dX5_pay_1 ⟨Nat.zero_le _, Nat.zero_le _⟩ hS (fun _ h => h) (fun H locs hP _ _ hS => ?_)
  have hP : cP G a (w_X5_startAct z) H := hP
  refine lv_aload_n hx hb dX5_pay_4 rfl (lv_at hl 0 rfl) ?_
  refine lv_aload_n hx hb dX5_pay_5 rfl (lv_at hl 0 rfl) ?_
  refine g_get S hK hP (i := 329) (by omega) cC0 rfl inlX5 0 (by decide) k_12 (v := .ref (a (47 * ((w_X5_startAct z).1 0)))) rfl dX5_pay_6 ?_
  refine lv_iload_n hx hb dX5_pay_9 rfl (lv_at hl 1 rfl) ?_
  refine lv_iload_n hx hb dX5_pay_10 rfl (lv_at hl 2 rfl) ?_
  have hB := cP_book (r := (w_X5_startAct z).1 0) hP ((RI_eq (startAct_R) hR) 0 (by decide))
  refine r_callI S hK hB (c_X1_takePayment l G (fun t => a (47 * ((w_X5_startAct z).1 0) + t)) (gI_book hI ((RI_eq (startAct_R) hR) 0 (by decide))) ((w_X5_startAct z).2 ((w_X5_startAct z).1 0)) _ _ ) (r_cw S k_354 k_351 k_352 k_353 k_11 q_X1_takePayment ⟨Nat.le_of_ble_eq_true rfl, Nat.le_of_ble_eq_true rfl⟩ rfl rfl) (g_recv hK hB (i := 0) (by omega) bC0 rfl) rfl hl.1 rfl (Nat.le_of_ble_eq_true rfl) dX5_pay_11 ⟨Nat.zero_le _, Nat.zero_le _⟩ hS (fun _ h => gA_book ((RI_eq (startAct_R) hR) 0 (by decide)) h) (fun H locs hB hk1 hz1 hS => ?_)
  have hP := cP_join hI ((RI_eq (startAct_R) hR) 0 (by decide)) hP hB hk1
  have hP : cP G a (zB (w_X5_startAct z) ((w_X5_startAct z).1 0) (w_X1_takePayment ((w_X5_startAct z).2 ((w_X5_startAct z).1 0)) p1 p2)) H := hP
  refine r_callI S hK hP (c_X5_endAct l G a hI (zB (w_X5_startAct z) ((w_X5_startAct z).1 0) (w_X1_takePayment ((w_X5_startAct z).2 ((w_X5_startAct z).1 0)) p1 p2)) _ (RI_eq (fst_zB.trans (startAct_R)) hR) (RJ_eq (fst_zB.trans (startAct_R)) hJ)) (r_cw S k_342 k_339 k_340 k_341 k_2 q_X5_endAct ⟨Nat.le_of_ble_eq_true rfl, Nat.le_of_ble_eq_true rfl⟩ rfl rfl) (g_recv hK hP (i := 329) (by omega) cC0 rfl) rfl hl.1 rfl (Nat.le_of_ble_eq_true rfl) dX5_pay_14 ⟨Nat.zero_le _, Nat.zero_le _⟩ hS (fun _ h => h) (fun H locs hP _ _ hS => ?_)
  have hP : cP G a (w_X5_endAct (zB (w_X5_startAct z) ((w_X5_startAct z).1 0) (w_X1_takePayment ((w_X5_startAct z).2 ((w_X5_startAct z).1 0)) p1 p2)) (v_X1_takePayment ((w_X5_startAct z).2 ((w_X5_startAct z).1 0)) p1 p2)) H := hP
  exact e_int S hr hlk rfl hK hS (cP_eq (show w_X5_pay z p1 p2 = w_X5_endAct (zB (w_X5_startAct z) ((w_X5_startAct z).1 0) (w_X1_takePayment ((w_X5_startAct z).2 ((w_X5_startAct z).1 0)) p1 p2)) (v_X1_takePayment ((w_X5_startAct z).2 ((w_X5_startAct z).1 0)) p1 p2) from rfl) hP) (show v_X5_pay z p1 p2 = v_X5_endAct (zB (w_X5_startAct z) ((w_X5_startAct z).1 0) (w_X1_takePayment ((w_X5_startAct z).2 ((w_X5_startAct z).1 0)) p1 p2)) (v_X1_takePayment ((w_X5_startAct z).2 ((w_X5_startAct z).1 0)) p1 p2) from rfl).symm dX5_pay_17

def v_X5_payBill (z : CS) (p1 : Int32) (p2 : Int32) : Int32 := v_X5_endAct (zB (w_X5_startAct z) ((w_X5_startAct z).1 0) (w_X1_takePaymentFor ((w_X5_startAct z).2 ((w_X5_startAct z).1 0)) p1 p2)) (v_X1_takePaymentFor ((w_X5_startAct z).2 ((w_X5_startAct z).1 0)) p1 p2)
def w_X5_payBill (z : CS) (p1 : Int32) (p2 : Int32) : CS := w_X5_endAct (zB (w_X5_startAct z) ((w_X5_startAct z).1 0) (w_X1_takePaymentFor ((w_X5_startAct z).2 ((w_X5_startAct z).1 0)) p1 p2)) (v_X1_takePaymentFor ((w_X5_startAct z).2 ((w_X5_startAct z).1 0)) p1 p2)
theorem q_X5_payBill : yX5_payBill.cls ≠ "java/lang/invoke/MethodHandle" ∧ yX5_payBill.cls ≠ "java/lang/invoke/VarHandle" ∧ (parseMethodDescriptor yX5_payBill.desc).map (fun d => d.parameters.length) = some 2 := ⟨by decide, by decide, by decide +kernel⟩
set_option maxHeartbeats 4000000 in
set_option maxRecDepth 100000 in
theorem c_X5_payBill (l : Launch) (G : kG) (a : Nat → Nat) (hI : gI 334 a) (z : CS) (p1 : Int32) (p2 : Int32) (hR : RI z.1) (hJ : RJ z.1) : Met l yX5_payBill (Cond.code yX5_payBill cX5_payBill 3 (some .int) :: BIG) (rmK 4) (pcG G (cP G a z) [.ref (a 329), .int p1, .int p2]) (qcI G (gA 334 a) (cP G a (w_X5_payBill z p1 p2)) (v_X5_payBill z p1 p2)) 0 0 (gA 334 a) := by
  refine m_start (by decide) (Nat.le_of_ble_eq_true rfl) ?_
  intro p e s m args below meth c S hr hlk hnm hP hK ls hl
  have hx := S.1
  have hb := S.2.1
  have hown := S.2.2.2.1
  have hS : va_S (gA 334 a) s.heap s.heap [] := va_S.rf
  have hl : lv_has ls 3 [(0, .ref (a 329)), (1, .int p1), (2, .int p2)] := hl
  refine lv_aload_n hx hb dX5_payBill_0 rfl (lv_at hl 0 rfl) ?_
  refine r_callV S hK hP (c_X5_startAct l G a hI z hR hJ) (r_cw S k_290 k_287 k_288 k_289 k_2 q_X5_startAct ⟨Nat.le_of_ble_eq_true rfl, Nat.le_of_ble_eq_true rfl⟩ rfl rfl) (g_recv hK hP (i := 329) (by omega) cC0 rfl) rfl hl.1 rfl (Nat.le_of_ble_eq_true rfl) dX5_payBill_1 ⟨Nat.zero_le _, Nat.zero_le _⟩ hS (fun _ h => h) (fun H locs hP _ _ hS => ?_)
  have hP : cP G a (w_X5_startAct z) H := hP
  refine lv_aload_n hx hb dX5_payBill_4 rfl (lv_at hl 0 rfl) ?_
  refine lv_aload_n hx hb dX5_payBill_5 rfl (lv_at hl 0 rfl) ?_
  refine g_get S hK hP (i := 329) (by omega) cC0 rfl inlX5 0 (by decide) k_12 (v := .ref (a (47 * ((w_X5_startAct z).1 0)))) rfl dX5_payBill_6 ?_
  refine lv_iload_n hx hb dX5_payBill_9 rfl (lv_at hl 1 rfl) ?_
  refine lv_iload_n hx hb dX5_payBill_10 rfl (lv_at hl 2 rfl) ?_
  have hB := cP_book (r := (w_X5_startAct z).1 0) hP ((RI_eq (startAct_R) hR) 0 (by decide))
  refine r_callI S hK hB (c_X1_takePaymentFor l G (fun t => a (47 * ((w_X5_startAct z).1 0) + t)) (gI_book hI ((RI_eq (startAct_R) hR) 0 (by decide))) ((w_X5_startAct z).2 ((w_X5_startAct z).1 0)) _ _ ) (r_cw S k_370 k_367 k_368 k_369 k_11 q_X1_takePaymentFor ⟨Nat.le_of_ble_eq_true rfl, Nat.le_of_ble_eq_true rfl⟩ rfl rfl) (g_recv hK hB (i := 0) (by omega) bC0 rfl) rfl hl.1 rfl (Nat.le_of_ble_eq_true rfl) dX5_payBill_11 ⟨Nat.zero_le _, Nat.zero_le _⟩ hS (fun _ h => gA_book ((RI_eq (startAct_R) hR) 0 (by decide)) h) (fun H locs hB hk1 hz1 hS => ?_)
  have hP := cP_join hI ((RI_eq (startAct_R) hR) 0 (by decide)) hP hB hk1
  have hP : cP G a (zB (w_X5_startAct z) ((w_X5_startAct z).1 0) (w_X1_takePaymentFor ((w_X5_startAct z).2 ((w_X5_startAct z).1 0)) p1 p2)) H := hP
  refine r_callI S hK hP (c_X5_endAct l G a hI (zB (w_X5_startAct z) ((w_X5_startAct z).1 0) (w_X1_takePaymentFor ((w_X5_startAct z).2 ((w_X5_startAct z).1 0)) p1 p2)) _ (RI_eq (fst_zB.trans (startAct_R)) hR) (RJ_eq (fst_zB.trans (startAct_R)) hJ)) (r_cw S k_342 k_339 k_340 k_341 k_2 q_X5_endAct ⟨Nat.le_of_ble_eq_true rfl, Nat.le_of_ble_eq_true rfl⟩ rfl rfl) (g_recv hK hP (i := 329) (by omega) cC0 rfl) rfl hl.1 rfl (Nat.le_of_ble_eq_true rfl) dX5_payBill_14 ⟨Nat.zero_le _, Nat.zero_le _⟩ hS (fun _ h => h) (fun H locs hP _ _ hS => ?_)
  have hP : cP G a (w_X5_endAct (zB (w_X5_startAct z) ((w_X5_startAct z).1 0) (w_X1_takePaymentFor ((w_X5_startAct z).2 ((w_X5_startAct z).1 0)) p1 p2)) (v_X1_takePaymentFor ((w_X5_startAct z).2 ((w_X5_startAct z).1 0)) p1 p2)) H := hP
  exact e_int S hr hlk rfl hK hS (cP_eq (show w_X5_payBill z p1 p2 = w_X5_endAct (zB (w_X5_startAct z) ((w_X5_startAct z).1 0) (w_X1_takePaymentFor ((w_X5_startAct z).2 ((w_X5_startAct z).1 0)) p1 p2)) (v_X1_takePaymentFor ((w_X5_startAct z).2 ((w_X5_startAct z).1 0)) p1 p2) from rfl) hP) (show v_X5_payBill z p1 p2 = v_X5_endAct (zB (w_X5_startAct z) ((w_X5_startAct z).1 0) (w_X1_takePaymentFor ((w_X5_startAct z).2 ((w_X5_startAct z).1 0)) p1 p2)) (v_X1_takePaymentFor ((w_X5_startAct z).2 ((w_X5_startAct z).1 0)) p1 p2) from rfl).symm dX5_payBill_17

def v_X5_payBack (z : CS) (p1 : Int32) : Int32 := v_X5_endAct (zB (w_X5_startAct z) ((w_X5_startAct z).1 0) (w_X1_returnCredit ((w_X5_startAct z).2 ((w_X5_startAct z).1 0)) p1)) (v_X1_returnCredit ((w_X5_startAct z).2 ((w_X5_startAct z).1 0)) p1)
def w_X5_payBack (z : CS) (p1 : Int32) : CS := w_X5_endAct (zB (w_X5_startAct z) ((w_X5_startAct z).1 0) (w_X1_returnCredit ((w_X5_startAct z).2 ((w_X5_startAct z).1 0)) p1)) (v_X1_returnCredit ((w_X5_startAct z).2 ((w_X5_startAct z).1 0)) p1)
theorem q_X5_payBack : yX5_payBack.cls ≠ "java/lang/invoke/MethodHandle" ∧ yX5_payBack.cls ≠ "java/lang/invoke/VarHandle" ∧ (parseMethodDescriptor yX5_payBack.desc).map (fun d => d.parameters.length) = some 1 := ⟨by decide, by decide, by decide +kernel⟩
set_option maxHeartbeats 4000000 in
set_option maxRecDepth 100000 in
theorem c_X5_payBack (l : Launch) (G : kG) (a : Nat → Nat) (hI : gI 334 a) (z : CS) (p1 : Int32) (hR : RI z.1) (hJ : RJ z.1) : Met l yX5_payBack (Cond.code yX5_payBack cX5_payBack 2 (some .int) :: BIG) (rmK 4) (pcG G (cP G a z) [.ref (a 329), .int p1]) (qcI G (gA 334 a) (cP G a (w_X5_payBack z p1)) (v_X5_payBack z p1)) 0 0 (gA 334 a) := by
  refine m_start (by decide) (Nat.le_of_ble_eq_true rfl) ?_
  intro p e s m args below meth c S hr hlk hnm hP hK ls hl
  have hx := S.1
  have hb := S.2.1
  have hown := S.2.2.2.1
  have hS : va_S (gA 334 a) s.heap s.heap [] := va_S.rf
  have hl : lv_has ls 2 [(0, .ref (a 329)), (1, .int p1)] := hl
  refine lv_aload_n hx hb dX5_payBack_0 rfl (lv_at hl 0 rfl) ?_
  refine r_callV S hK hP (c_X5_startAct l G a hI z hR hJ) (r_cw S k_290 k_287 k_288 k_289 k_2 q_X5_startAct ⟨Nat.le_of_ble_eq_true rfl, Nat.le_of_ble_eq_true rfl⟩ rfl rfl) (g_recv hK hP (i := 329) (by omega) cC0 rfl) rfl hl.1 rfl (Nat.le_of_ble_eq_true rfl) dX5_payBack_1 ⟨Nat.zero_le _, Nat.zero_le _⟩ hS (fun _ h => h) (fun H locs hP _ _ hS => ?_)
  have hP : cP G a (w_X5_startAct z) H := hP
  refine lv_aload_n hx hb dX5_payBack_4 rfl (lv_at hl 0 rfl) ?_
  refine lv_aload_n hx hb dX5_payBack_5 rfl (lv_at hl 0 rfl) ?_
  refine g_get S hK hP (i := 329) (by omega) cC0 rfl inlX5 0 (by decide) k_12 (v := .ref (a (47 * ((w_X5_startAct z).1 0)))) rfl dX5_payBack_6 ?_
  refine lv_iload_n hx hb dX5_payBack_9 rfl (lv_at hl 1 rfl) ?_
  have hB := cP_book (r := (w_X5_startAct z).1 0) hP ((RI_eq (startAct_R) hR) 0 (by decide))
  refine r_callI S hK hB (c_X1_returnCredit l G (fun t => a (47 * ((w_X5_startAct z).1 0) + t)) (gI_book hI ((RI_eq (startAct_R) hR) 0 (by decide))) ((w_X5_startAct z).2 ((w_X5_startAct z).1 0)) _ ) (r_cw S k_380 k_377 k_378 k_379 k_11 q_X1_returnCredit ⟨Nat.le_of_ble_eq_true rfl, Nat.le_of_ble_eq_true rfl⟩ rfl rfl) (g_recv hK hB (i := 0) (by omega) bC0 rfl) rfl hl.1 rfl (Nat.le_of_ble_eq_true rfl) dX5_payBack_10 ⟨Nat.zero_le _, Nat.zero_le _⟩ hS (fun _ h => gA_book ((RI_eq (startAct_R) hR) 0 (by decide)) h) (fun H locs hB hk1 hz1 hS => ?_)
  have hP := cP_join hI ((RI_eq (startAct_R) hR) 0 (by decide)) hP hB hk1
  have hP : cP G a (zB (w_X5_startAct z) ((w_X5_startAct z).1 0) (w_X1_returnCredit ((w_X5_startAct z).2 ((w_X5_startAct z).1 0)) p1)) H := hP
  refine r_callI S hK hP (c_X5_endAct l G a hI (zB (w_X5_startAct z) ((w_X5_startAct z).1 0) (w_X1_returnCredit ((w_X5_startAct z).2 ((w_X5_startAct z).1 0)) p1)) _ (RI_eq (fst_zB.trans (startAct_R)) hR) (RJ_eq (fst_zB.trans (startAct_R)) hJ)) (r_cw S k_342 k_339 k_340 k_341 k_2 q_X5_endAct ⟨Nat.le_of_ble_eq_true rfl, Nat.le_of_ble_eq_true rfl⟩ rfl rfl) (g_recv hK hP (i := 329) (by omega) cC0 rfl) rfl hl.1 rfl (Nat.le_of_ble_eq_true rfl) dX5_payBack_13 ⟨Nat.zero_le _, Nat.zero_le _⟩ hS (fun _ h => h) (fun H locs hP _ _ hS => ?_)
  have hP : cP G a (w_X5_endAct (zB (w_X5_startAct z) ((w_X5_startAct z).1 0) (w_X1_returnCredit ((w_X5_startAct z).2 ((w_X5_startAct z).1 0)) p1)) (v_X1_returnCredit ((w_X5_startAct z).2 ((w_X5_startAct z).1 0)) p1)) H := hP
  exact e_int S hr hlk rfl hK hS (cP_eq (show w_X5_payBack z p1 = w_X5_endAct (zB (w_X5_startAct z) ((w_X5_startAct z).1 0) (w_X1_returnCredit ((w_X5_startAct z).2 ((w_X5_startAct z).1 0)) p1)) (v_X1_returnCredit ((w_X5_startAct z).2 ((w_X5_startAct z).1 0)) p1) from rfl) hP) (show v_X5_payBack z p1 = v_X5_endAct (zB (w_X5_startAct z) ((w_X5_startAct z).1 0) (w_X1_returnCredit ((w_X5_startAct z).2 ((w_X5_startAct z).1 0)) p1)) (v_X1_returnCredit ((w_X5_startAct z).2 ((w_X5_startAct z).1 0)) p1) from rfl).symm dX5_payBack_16

def v_X5_pass (z : CS) (p1 : Int32) : Int32 := v_X5_endAct (zB (w_X5_startAct z) ((w_X5_startAct z).1 0) (w_X1_goOn ((w_X5_startAct z).2 ((w_X5_startAct z).1 0)) p1)) (v_X1_goOn ((w_X5_startAct z).2 ((w_X5_startAct z).1 0)) p1)
def w_X5_pass (z : CS) (p1 : Int32) : CS := w_X5_endAct (zB (w_X5_startAct z) ((w_X5_startAct z).1 0) (w_X1_goOn ((w_X5_startAct z).2 ((w_X5_startAct z).1 0)) p1)) (v_X1_goOn ((w_X5_startAct z).2 ((w_X5_startAct z).1 0)) p1)
theorem q_X5_pass : yX5_pass.cls ≠ "java/lang/invoke/MethodHandle" ∧ yX5_pass.cls ≠ "java/lang/invoke/VarHandle" ∧ (parseMethodDescriptor yX5_pass.desc).map (fun d => d.parameters.length) = some 1 := ⟨by decide, by decide, by decide +kernel⟩
set_option maxHeartbeats 4000000 in
set_option maxRecDepth 100000 in
theorem c_X5_pass (l : Launch) (G : kG) (a : Nat → Nat) (hI : gI 334 a) (z : CS) (p1 : Int32) (hR : RI z.1) (hJ : RJ z.1) : Met l yX5_pass (Cond.code yX5_pass cX5_pass 2 (some .int) :: BIG) (rmK 4) (pcG G (cP G a z) [.ref (a 329), .int p1]) (qcI G (gA 334 a) (cP G a (w_X5_pass z p1)) (v_X5_pass z p1)) 0 0 (gA 334 a) := by
  refine m_start (by decide) (Nat.le_of_ble_eq_true rfl) ?_
  intro p e s m args below meth c S hr hlk hnm hP hK ls hl
  have hx := S.1
  have hb := S.2.1
  have hown := S.2.2.2.1
  have hS : va_S (gA 334 a) s.heap s.heap [] := va_S.rf
  have hl : lv_has ls 2 [(0, .ref (a 329)), (1, .int p1)] := hl
  refine lv_aload_n hx hb dX5_pass_0 rfl (lv_at hl 0 rfl) ?_
  refine r_callV S hK hP (c_X5_startAct l G a hI z hR hJ) (r_cw S k_290 k_287 k_288 k_289 k_2 q_X5_startAct ⟨Nat.le_of_ble_eq_true rfl, Nat.le_of_ble_eq_true rfl⟩ rfl rfl) (g_recv hK hP (i := 329) (by omega) cC0 rfl) rfl hl.1 rfl (Nat.le_of_ble_eq_true rfl) dX5_pass_1 ⟨Nat.zero_le _, Nat.zero_le _⟩ hS (fun _ h => h) (fun H locs hP _ _ hS => ?_)
  have hP : cP G a (w_X5_startAct z) H := hP
  refine lv_aload_n hx hb dX5_pass_4 rfl (lv_at hl 0 rfl) ?_
  refine lv_aload_n hx hb dX5_pass_5 rfl (lv_at hl 0 rfl) ?_
  refine g_get S hK hP (i := 329) (by omega) cC0 rfl inlX5 0 (by decide) k_12 (v := .ref (a (47 * ((w_X5_startAct z).1 0)))) rfl dX5_pass_6 ?_
  refine lv_iload_n hx hb dX5_pass_9 rfl (lv_at hl 1 rfl) ?_
  have hB := cP_book (r := (w_X5_startAct z).1 0) hP ((RI_eq (startAct_R) hR) 0 (by decide))
  refine r_callI S hK hB (c_X1_goOn l G (fun t => a (47 * ((w_X5_startAct z).1 0) + t)) (gI_book hI ((RI_eq (startAct_R) hR) 0 (by decide))) ((w_X5_startAct z).2 ((w_X5_startAct z).1 0)) _ ) (r_cw S k_388 k_385 k_386 k_387 k_11 q_X1_goOn ⟨Nat.le_of_ble_eq_true rfl, Nat.le_of_ble_eq_true rfl⟩ rfl rfl) (g_recv hK hB (i := 0) (by omega) bC0 rfl) rfl hl.1 rfl (Nat.le_of_ble_eq_true rfl) dX5_pass_10 ⟨Nat.zero_le _, Nat.zero_le _⟩ hS (fun _ h => gA_book ((RI_eq (startAct_R) hR) 0 (by decide)) h) (fun H locs hB hk1 hz1 hS => ?_)
  have hP := cP_join hI ((RI_eq (startAct_R) hR) 0 (by decide)) hP hB hk1
  have hP : cP G a (zB (w_X5_startAct z) ((w_X5_startAct z).1 0) (w_X1_goOn ((w_X5_startAct z).2 ((w_X5_startAct z).1 0)) p1)) H := hP
  refine r_callI S hK hP (c_X5_endAct l G a hI (zB (w_X5_startAct z) ((w_X5_startAct z).1 0) (w_X1_goOn ((w_X5_startAct z).2 ((w_X5_startAct z).1 0)) p1)) _ (RI_eq (fst_zB.trans (startAct_R)) hR) (RJ_eq (fst_zB.trans (startAct_R)) hJ)) (r_cw S k_342 k_339 k_340 k_341 k_2 q_X5_endAct ⟨Nat.le_of_ble_eq_true rfl, Nat.le_of_ble_eq_true rfl⟩ rfl rfl) (g_recv hK hP (i := 329) (by omega) cC0 rfl) rfl hl.1 rfl (Nat.le_of_ble_eq_true rfl) dX5_pass_13 ⟨Nat.zero_le _, Nat.zero_le _⟩ hS (fun _ h => h) (fun H locs hP _ _ hS => ?_)
  have hP : cP G a (w_X5_endAct (zB (w_X5_startAct z) ((w_X5_startAct z).1 0) (w_X1_goOn ((w_X5_startAct z).2 ((w_X5_startAct z).1 0)) p1)) (v_X1_goOn ((w_X5_startAct z).2 ((w_X5_startAct z).1 0)) p1)) H := hP
  exact e_int S hr hlk rfl hK hS (cP_eq (show w_X5_pass z p1 = w_X5_endAct (zB (w_X5_startAct z) ((w_X5_startAct z).1 0) (w_X1_goOn ((w_X5_startAct z).2 ((w_X5_startAct z).1 0)) p1)) (v_X1_goOn ((w_X5_startAct z).2 ((w_X5_startAct z).1 0)) p1) from rfl) hP) (show v_X5_pass z p1 = v_X5_endAct (zB (w_X5_startAct z) ((w_X5_startAct z).1 0) (w_X1_goOn ((w_X5_startAct z).2 ((w_X5_startAct z).1 0)) p1)) (v_X1_goOn ((w_X5_startAct z).2 ((w_X5_startAct z).1 0)) p1) from rfl).symm dX5_pass_16

def v_X5_remind (z : CS) : Int32 := v_X5_endAct (zB (w_X5_startAct z) ((w_X5_startAct z).1 0) (w_X1_sendReminders ((w_X5_startAct z).2 ((w_X5_startAct z).1 0)))) (v_X1_sendReminders ((w_X5_startAct z).2 ((w_X5_startAct z).1 0)))
def w_X5_remind (z : CS) : CS := w_X5_endAct (zB (w_X5_startAct z) ((w_X5_startAct z).1 0) (w_X1_sendReminders ((w_X5_startAct z).2 ((w_X5_startAct z).1 0)))) (v_X1_sendReminders ((w_X5_startAct z).2 ((w_X5_startAct z).1 0)))
theorem q_X5_remind : yX5_remind.cls ≠ "java/lang/invoke/MethodHandle" ∧ yX5_remind.cls ≠ "java/lang/invoke/VarHandle" ∧ (parseMethodDescriptor yX5_remind.desc).map (fun d => d.parameters.length) = some 0 := ⟨by decide, by decide, by decide +kernel⟩
set_option maxHeartbeats 4000000 in
set_option maxRecDepth 100000 in
theorem c_X5_remind (l : Launch) (G : kG) (a : Nat → Nat) (hI : gI 334 a) (z : CS) (hR : RI z.1) (hJ : RJ z.1) : Met l yX5_remind (Cond.code yX5_remind cX5_remind 1 (some .int) :: BIG) (rmK 4) (pcG G (cP G a z) [.ref (a 329)]) (qcI G (gA 334 a) (cP G a (w_X5_remind z)) (v_X5_remind z)) 0 0 (gA 334 a) := by
  refine m_start (by decide) (Nat.le_of_ble_eq_true rfl) ?_
  intro p e s m args below meth c S hr hlk hnm hP hK ls hl
  have hx := S.1
  have hb := S.2.1
  have hown := S.2.2.2.1
  have hS : va_S (gA 334 a) s.heap s.heap [] := va_S.rf
  have hl : lv_has ls 1 [(0, .ref (a 329))] := hl
  refine lv_aload_n hx hb dX5_remind_0 rfl (lv_at hl 0 rfl) ?_
  refine r_callV S hK hP (c_X5_startAct l G a hI z hR hJ) (r_cw S k_290 k_287 k_288 k_289 k_2 q_X5_startAct ⟨Nat.le_of_ble_eq_true rfl, Nat.le_of_ble_eq_true rfl⟩ rfl rfl) (g_recv hK hP (i := 329) (by omega) cC0 rfl) rfl hl.1 rfl (Nat.le_of_ble_eq_true rfl) dX5_remind_1 ⟨Nat.zero_le _, Nat.zero_le _⟩ hS (fun _ h => h) (fun H locs hP _ _ hS => ?_)
  have hP : cP G a (w_X5_startAct z) H := hP
  refine lv_aload_n hx hb dX5_remind_4 rfl (lv_at hl 0 rfl) ?_
  refine lv_aload_n hx hb dX5_remind_5 rfl (lv_at hl 0 rfl) ?_
  refine g_get S hK hP (i := 329) (by omega) cC0 rfl inlX5 0 (by decide) k_12 (v := .ref (a (47 * ((w_X5_startAct z).1 0)))) rfl dX5_remind_6 ?_
  have hB := cP_book (r := (w_X5_startAct z).1 0) hP ((RI_eq (startAct_R) hR) 0 (by decide))
  refine r_callI S hK hB (c_X1_sendReminders l G (fun t => a (47 * ((w_X5_startAct z).1 0) + t)) (gI_book hI ((RI_eq (startAct_R) hR) 0 (by decide))) ((w_X5_startAct z).2 ((w_X5_startAct z).1 0)) ) (r_cw S k_397 k_394 k_395 k_396 k_11 q_X1_sendReminders ⟨Nat.le_of_ble_eq_true rfl, Nat.le_of_ble_eq_true rfl⟩ rfl rfl) (g_recv hK hB (i := 0) (by omega) bC0 rfl) rfl hl.1 rfl (Nat.le_of_ble_eq_true rfl) dX5_remind_9 ⟨Nat.zero_le _, Nat.zero_le _⟩ hS (fun _ h => gA_book ((RI_eq (startAct_R) hR) 0 (by decide)) h) (fun H locs hB hk1 hz1 hS => ?_)
  have hP := cP_join hI ((RI_eq (startAct_R) hR) 0 (by decide)) hP hB hk1
  have hP : cP G a (zB (w_X5_startAct z) ((w_X5_startAct z).1 0) (w_X1_sendReminders ((w_X5_startAct z).2 ((w_X5_startAct z).1 0)))) H := hP
  refine r_callI S hK hP (c_X5_endAct l G a hI (zB (w_X5_startAct z) ((w_X5_startAct z).1 0) (w_X1_sendReminders ((w_X5_startAct z).2 ((w_X5_startAct z).1 0)))) _ (RI_eq (fst_zB.trans (startAct_R)) hR) (RJ_eq (fst_zB.trans (startAct_R)) hJ)) (r_cw S k_342 k_339 k_340 k_341 k_2 q_X5_endAct ⟨Nat.le_of_ble_eq_true rfl, Nat.le_of_ble_eq_true rfl⟩ rfl rfl) (g_recv hK hP (i := 329) (by omega) cC0 rfl) rfl hl.1 rfl (Nat.le_of_ble_eq_true rfl) dX5_remind_12 ⟨Nat.zero_le _, Nat.zero_le _⟩ hS (fun _ h => h) (fun H locs hP _ _ hS => ?_)
  have hP : cP G a (w_X5_endAct (zB (w_X5_startAct z) ((w_X5_startAct z).1 0) (w_X1_sendReminders ((w_X5_startAct z).2 ((w_X5_startAct z).1 0)))) (v_X1_sendReminders ((w_X5_startAct z).2 ((w_X5_startAct z).1 0)))) H := hP
  exact e_int S hr hlk rfl hK hS (cP_eq (show w_X5_remind z  = w_X5_endAct (zB (w_X5_startAct z) ((w_X5_startAct z).1 0) (w_X1_sendReminders ((w_X5_startAct z).2 ((w_X5_startAct z).1 0)))) (v_X1_sendReminders ((w_X5_startAct z).2 ((w_X5_startAct z).1 0))) from rfl) hP) (show v_X5_remind z  = v_X5_endAct (zB (w_X5_startAct z) ((w_X5_startAct z).1 0) (w_X1_sendReminders ((w_X5_startAct z).2 ((w_X5_startAct z).1 0)))) (v_X1_sendReminders ((w_X5_startAct z).2 ((w_X5_startAct z).1 0))) from rfl).symm dX5_remind_15

def v_X5_writeOff (z : CS) (p1 : Int32) : Int32 := v_X5_endAct (zB (w_X5_startAct z) ((w_X5_startAct z).1 0) (w_X1_giveUp ((w_X5_startAct z).2 ((w_X5_startAct z).1 0)) p1)) (v_X1_giveUp ((w_X5_startAct z).2 ((w_X5_startAct z).1 0)) p1)
def w_X5_writeOff (z : CS) (p1 : Int32) : CS := w_X5_endAct (zB (w_X5_startAct z) ((w_X5_startAct z).1 0) (w_X1_giveUp ((w_X5_startAct z).2 ((w_X5_startAct z).1 0)) p1)) (v_X1_giveUp ((w_X5_startAct z).2 ((w_X5_startAct z).1 0)) p1)
theorem q_X5_writeOff : yX5_writeOff.cls ≠ "java/lang/invoke/MethodHandle" ∧ yX5_writeOff.cls ≠ "java/lang/invoke/VarHandle" ∧ (parseMethodDescriptor yX5_writeOff.desc).map (fun d => d.parameters.length) = some 1 := ⟨by decide, by decide, by decide +kernel⟩
set_option maxHeartbeats 4000000 in
set_option maxRecDepth 100000 in
theorem c_X5_writeOff (l : Launch) (G : kG) (a : Nat → Nat) (hI : gI 334 a) (z : CS) (p1 : Int32) (hR : RI z.1) (hJ : RJ z.1) : Met l yX5_writeOff (Cond.code yX5_writeOff cX5_writeOff 2 (some .int) :: BIG) (rmK 4) (pcG G (cP G a z) [.ref (a 329), .int p1]) (qcI G (gA 334 a) (cP G a (w_X5_writeOff z p1)) (v_X5_writeOff z p1)) 0 0 (gA 334 a) := by
  refine m_start (by decide) (Nat.le_of_ble_eq_true rfl) ?_
  intro p e s m args below meth c S hr hlk hnm hP hK ls hl
  have hx := S.1
  have hb := S.2.1
  have hown := S.2.2.2.1
  have hS : va_S (gA 334 a) s.heap s.heap [] := va_S.rf
  have hl : lv_has ls 2 [(0, .ref (a 329)), (1, .int p1)] := hl
  refine lv_aload_n hx hb dX5_writeOff_0 rfl (lv_at hl 0 rfl) ?_
  refine r_callV S hK hP (c_X5_startAct l G a hI z hR hJ) (r_cw S k_290 k_287 k_288 k_289 k_2 q_X5_startAct ⟨Nat.le_of_ble_eq_true rfl, Nat.le_of_ble_eq_true rfl⟩ rfl rfl) (g_recv hK hP (i := 329) (by omega) cC0 rfl) rfl hl.1 rfl (Nat.le_of_ble_eq_true rfl) dX5_writeOff_1 ⟨Nat.zero_le _, Nat.zero_le _⟩ hS (fun _ h => h) (fun H locs hP _ _ hS => ?_)
  have hP : cP G a (w_X5_startAct z) H := hP
  refine lv_aload_n hx hb dX5_writeOff_4 rfl (lv_at hl 0 rfl) ?_
  refine lv_aload_n hx hb dX5_writeOff_5 rfl (lv_at hl 0 rfl) ?_
  refine g_get S hK hP (i := 329) (by omega) cC0 rfl inlX5 0 (by decide) k_12 (v := .ref (a (47 * ((w_X5_startAct z).1 0)))) rfl dX5_writeOff_6 ?_
  refine lv_iload_n hx hb dX5_writeOff_9 rfl (lv_at hl 1 rfl) ?_
  have hB := cP_book (r := (w_X5_startAct z).1 0) hP ((RI_eq (startAct_R) hR) 0 (by decide))
  refine r_callI S hK hB (c_X1_giveUp l G (fun t => a (47 * ((w_X5_startAct z).1 0) + t)) (gI_book hI ((RI_eq (startAct_R) hR) 0 (by decide))) ((w_X5_startAct z).2 ((w_X5_startAct z).1 0)) _ ) (r_cw S k_412 k_409 k_410 k_411 k_11 q_X1_giveUp ⟨Nat.le_of_ble_eq_true rfl, Nat.le_of_ble_eq_true rfl⟩ rfl rfl) (g_recv hK hB (i := 0) (by omega) bC0 rfl) rfl hl.1 rfl (Nat.le_of_ble_eq_true rfl) dX5_writeOff_10 ⟨Nat.zero_le _, Nat.zero_le _⟩ hS (fun _ h => gA_book ((RI_eq (startAct_R) hR) 0 (by decide)) h) (fun H locs hB hk1 hz1 hS => ?_)
  have hP := cP_join hI ((RI_eq (startAct_R) hR) 0 (by decide)) hP hB hk1
  have hP : cP G a (zB (w_X5_startAct z) ((w_X5_startAct z).1 0) (w_X1_giveUp ((w_X5_startAct z).2 ((w_X5_startAct z).1 0)) p1)) H := hP
  refine r_callI S hK hP (c_X5_endAct l G a hI (zB (w_X5_startAct z) ((w_X5_startAct z).1 0) (w_X1_giveUp ((w_X5_startAct z).2 ((w_X5_startAct z).1 0)) p1)) _ (RI_eq (fst_zB.trans (startAct_R)) hR) (RJ_eq (fst_zB.trans (startAct_R)) hJ)) (r_cw S k_342 k_339 k_340 k_341 k_2 q_X5_endAct ⟨Nat.le_of_ble_eq_true rfl, Nat.le_of_ble_eq_true rfl⟩ rfl rfl) (g_recv hK hP (i := 329) (by omega) cC0 rfl) rfl hl.1 rfl (Nat.le_of_ble_eq_true rfl) dX5_writeOff_13 ⟨Nat.zero_le _, Nat.zero_le _⟩ hS (fun _ h => h) (fun H locs hP _ _ hS => ?_)
  have hP : cP G a (w_X5_endAct (zB (w_X5_startAct z) ((w_X5_startAct z).1 0) (w_X1_giveUp ((w_X5_startAct z).2 ((w_X5_startAct z).1 0)) p1)) (v_X1_giveUp ((w_X5_startAct z).2 ((w_X5_startAct z).1 0)) p1)) H := hP
  exact e_int S hr hlk rfl hK hS (cP_eq (show w_X5_writeOff z p1 = w_X5_endAct (zB (w_X5_startAct z) ((w_X5_startAct z).1 0) (w_X1_giveUp ((w_X5_startAct z).2 ((w_X5_startAct z).1 0)) p1)) (v_X1_giveUp ((w_X5_startAct z).2 ((w_X5_startAct z).1 0)) p1) from rfl) hP) (show v_X5_writeOff z p1 = v_X5_endAct (zB (w_X5_startAct z) ((w_X5_startAct z).1 0) (w_X1_giveUp ((w_X5_startAct z).2 ((w_X5_startAct z).1 0)) p1)) (v_X1_giveUp ((w_X5_startAct z).2 ((w_X5_startAct z).1 0)) p1) from rfl).symm dX5_writeOff_16

def v_X5_closeYear (z : CS) (p1 : Int32) : Int32 := v_X5_endAct (zB (w_X5_startAct z) ((w_X5_startAct z).1 0) (w_X1_endYear ((w_X5_startAct z).2 ((w_X5_startAct z).1 0)) p1)) (v_X1_endYear ((w_X5_startAct z).2 ((w_X5_startAct z).1 0)) p1)
def w_X5_closeYear (z : CS) (p1 : Int32) : CS := w_X5_endAct (zB (w_X5_startAct z) ((w_X5_startAct z).1 0) (w_X1_endYear ((w_X5_startAct z).2 ((w_X5_startAct z).1 0)) p1)) (v_X1_endYear ((w_X5_startAct z).2 ((w_X5_startAct z).1 0)) p1)
theorem q_X5_closeYear : yX5_closeYear.cls ≠ "java/lang/invoke/MethodHandle" ∧ yX5_closeYear.cls ≠ "java/lang/invoke/VarHandle" ∧ (parseMethodDescriptor yX5_closeYear.desc).map (fun d => d.parameters.length) = some 1 := ⟨by decide, by decide, by decide +kernel⟩
set_option maxHeartbeats 4000000 in
set_option maxRecDepth 100000 in
theorem c_X5_closeYear (l : Launch) (G : kG) (a : Nat → Nat) (hI : gI 334 a) (z : CS) (p1 : Int32) (hR : RI z.1) (hJ : RJ z.1) : Met l yX5_closeYear (Cond.code yX5_closeYear cX5_closeYear 2 (some .int) :: BIG) (rmK 4) (pcG G (cP G a z) [.ref (a 329), .int p1]) (qcI G (gA 334 a) (cP G a (w_X5_closeYear z p1)) (v_X5_closeYear z p1)) 0 0 (gA 334 a) := by
  refine m_start (by decide) (Nat.le_of_ble_eq_true rfl) ?_
  intro p e s m args below meth c S hr hlk hnm hP hK ls hl
  have hx := S.1
  have hb := S.2.1
  have hown := S.2.2.2.1
  have hS : va_S (gA 334 a) s.heap s.heap [] := va_S.rf
  have hl : lv_has ls 2 [(0, .ref (a 329)), (1, .int p1)] := hl
  refine lv_aload_n hx hb dX5_closeYear_0 rfl (lv_at hl 0 rfl) ?_
  refine r_callV S hK hP (c_X5_startAct l G a hI z hR hJ) (r_cw S k_290 k_287 k_288 k_289 k_2 q_X5_startAct ⟨Nat.le_of_ble_eq_true rfl, Nat.le_of_ble_eq_true rfl⟩ rfl rfl) (g_recv hK hP (i := 329) (by omega) cC0 rfl) rfl hl.1 rfl (Nat.le_of_ble_eq_true rfl) dX5_closeYear_1 ⟨Nat.zero_le _, Nat.zero_le _⟩ hS (fun _ h => h) (fun H locs hP _ _ hS => ?_)
  have hP : cP G a (w_X5_startAct z) H := hP
  refine lv_aload_n hx hb dX5_closeYear_4 rfl (lv_at hl 0 rfl) ?_
  refine lv_aload_n hx hb dX5_closeYear_5 rfl (lv_at hl 0 rfl) ?_
  refine g_get S hK hP (i := 329) (by omega) cC0 rfl inlX5 0 (by decide) k_12 (v := .ref (a (47 * ((w_X5_startAct z).1 0)))) rfl dX5_closeYear_6 ?_
  refine lv_iload_n hx hb dX5_closeYear_9 rfl (lv_at hl 1 rfl) ?_
  have hB := cP_book (r := (w_X5_startAct z).1 0) hP ((RI_eq (startAct_R) hR) 0 (by decide))
  refine r_callI S hK hB (c_X1_endYear l G (fun t => a (47 * ((w_X5_startAct z).1 0) + t)) (gI_book hI ((RI_eq (startAct_R) hR) 0 (by decide))) ((w_X5_startAct z).2 ((w_X5_startAct z).1 0)) _ ) (r_cw S k_424 k_421 k_422 k_423 k_11 q_X1_endYear ⟨Nat.le_of_ble_eq_true rfl, Nat.le_of_ble_eq_true rfl⟩ rfl rfl) (g_recv hK hB (i := 0) (by omega) bC0 rfl) rfl hl.1 rfl (Nat.le_of_ble_eq_true rfl) dX5_closeYear_10 ⟨Nat.zero_le _, Nat.zero_le _⟩ hS (fun _ h => gA_book ((RI_eq (startAct_R) hR) 0 (by decide)) h) (fun H locs hB hk1 hz1 hS => ?_)
  have hP := cP_join hI ((RI_eq (startAct_R) hR) 0 (by decide)) hP hB hk1
  have hP : cP G a (zB (w_X5_startAct z) ((w_X5_startAct z).1 0) (w_X1_endYear ((w_X5_startAct z).2 ((w_X5_startAct z).1 0)) p1)) H := hP
  refine r_callI S hK hP (c_X5_endAct l G a hI (zB (w_X5_startAct z) ((w_X5_startAct z).1 0) (w_X1_endYear ((w_X5_startAct z).2 ((w_X5_startAct z).1 0)) p1)) _ (RI_eq (fst_zB.trans (startAct_R)) hR) (RJ_eq (fst_zB.trans (startAct_R)) hJ)) (r_cw S k_342 k_339 k_340 k_341 k_2 q_X5_endAct ⟨Nat.le_of_ble_eq_true rfl, Nat.le_of_ble_eq_true rfl⟩ rfl rfl) (g_recv hK hP (i := 329) (by omega) cC0 rfl) rfl hl.1 rfl (Nat.le_of_ble_eq_true rfl) dX5_closeYear_13 ⟨Nat.zero_le _, Nat.zero_le _⟩ hS (fun _ h => h) (fun H locs hP _ _ hS => ?_)
  have hP : cP G a (w_X5_endAct (zB (w_X5_startAct z) ((w_X5_startAct z).1 0) (w_X1_endYear ((w_X5_startAct z).2 ((w_X5_startAct z).1 0)) p1)) (v_X1_endYear ((w_X5_startAct z).2 ((w_X5_startAct z).1 0)) p1)) H := hP
  exact e_int S hr hlk rfl hK hS (cP_eq (show w_X5_closeYear z p1 = w_X5_endAct (zB (w_X5_startAct z) ((w_X5_startAct z).1 0) (w_X1_endYear ((w_X5_startAct z).2 ((w_X5_startAct z).1 0)) p1)) (v_X1_endYear ((w_X5_startAct z).2 ((w_X5_startAct z).1 0)) p1) from rfl) hP) (show v_X5_closeYear z p1 = v_X5_endAct (zB (w_X5_startAct z) ((w_X5_startAct z).1 0) (w_X1_endYear ((w_X5_startAct z).2 ((w_X5_startAct z).1 0)) p1)) (v_X1_endYear ((w_X5_startAct z).2 ((w_X5_startAct z).1 0)) p1) from rfl).symm dX5_closeYear_16

def v_X5_undo (z : CS) : Int32 := if z.2 7 1 1 = 0 then (-5 : Int32) else (w_X2_takeLatest z (z.1 0)).2 7 1 1
def w_X5_undo (z : CS) : CS := if z.2 7 1 1 = 0 then z else zR (w_X2_takeLatest z (z.1 0)) 0 (v_X2_takeLatest z (z.1 0))
theorem q_X5_undo : yX5_undo.cls ≠ "java/lang/invoke/MethodHandle" ∧ yX5_undo.cls ≠ "java/lang/invoke/VarHandle" ∧ (parseMethodDescriptor yX5_undo.desc).map (fun d => d.parameters.length) = some 0 := ⟨by decide, by decide, by decide +kernel⟩
set_option maxHeartbeats 4000000 in
set_option maxRecDepth 100000 in
theorem c_X5_undo (l : Launch) (G : kG) (a : Nat → Nat) (hI : gI 334 a) (z : CS) (hR : RI z.1) (hJ : RJ z.1) : Met l yX5_undo (Cond.code yX5_undo cX5_undo 1 (some .int) :: BIG) (rmK 1) (pcG G (cP G a z) [.ref (a 329)]) (qcI G (gA 334 a) (cP G a (w_X5_undo z)) (v_X5_undo z)) 0 0 (gA 334 a) := by
  refine m_start (by decide) (Nat.le_of_ble_eq_true rfl) ?_
  intro p e s m args below meth c S hr hlk hnm hP hK ls hl
  have hx := S.1
  have hb := S.2.1
  have hown := S.2.2.2.1
  have hS : va_S (gA 334 a) s.heap s.heap [] := va_S.rf
  have hl : lv_has ls 1 [(0, .ref (a 329))] := hl
  refine lv_aload_n hx hb dX5_undo_0 rfl (lv_at hl 0 rfl) ?_
  refine g_get S hK hP (i := 329) (by omega) cC0 rfl inlX5 4 (by decide) k_18 (v := .ref (a 330)) rfl dX5_undo_1 ?_
  refine g_get S hK hP (i := 330) (by omega) cC1 rfl inlX2 1 (by decide) k_72 (v := .int (z.2 7 1 1)) (congrArg Value.int (Eq.trans (congrFun (fl_7 (t := 1) (by decide)) 1) (rfl))) dX5_undo_4 ?_
  refine lv_if_ne (tgt := 13) hx hb dX5_undo_7 (by decide) (fun c1 => ?_) (fun c1 => ?_)
  · skip
    refine lv_aload_n hx hb dX5_undo_13 rfl (lv_at hl 0 rfl) ?_
    refine lv_aload_n hx hb dX5_undo_14 rfl (lv_at hl 0 rfl) ?_
    refine g_get S hK hP (i := 329) (by omega) cC0 rfl inlX5 4 (by decide) k_18 (v := .ref (a 330)) rfl dX5_undo_15 ?_
    refine lv_aload_n hx hb dX5_undo_18 rfl (lv_at hl 0 rfl) ?_
    refine g_get S hK hP (i := 329) (by omega) cC0 rfl inlX5 0 (by decide) k_12 (v := .ref (a (47 * (z.1 0)))) rfl dX5_undo_19 ?_
    refine r_callQ S hK hP (c_X2_takeLatest l G a hI z (z.1 0) (hR 0 (by decide)) hR) (r_cw S k_270 k_267 k_268 k_269 k_17 q_X2_takeLatest ⟨Nat.le_of_ble_eq_true rfl, Nat.le_of_ble_eq_true rfl⟩ rfl rfl) (g_recv hK hP (i := 330) (by omega) cC1 rfl) rfl hl.1 rfl (Nat.le_of_ble_eq_true rfl) dX5_undo_22 ⟨Nat.zero_le _, Nat.zero_le _⟩ hS (fun _ h => h) (fun H locs hP _ _ hS => ?_)
    have hP : cP G a (w_X2_takeLatest z (z.1 0)) H := hP
    refine c_putR 0 (by decide) S hK hP hI hS (r := (v_X2_takeLatest z (z.1 0))) k_12 rfl pBk rfl rfl dX5_undo_25 (fun H locs hP hS => ?_)
    have hP : cP G a (zR (w_X2_takeLatest z (z.1 0)) 0 (v_X2_takeLatest z (z.1 0))) H := hP
    refine lv_aload_n hx hb dX5_undo_28 rfl (lv_at hl 0 rfl) ?_
    refine g_get S hK hP (i := 329) (by omega) cC0 rfl inlX5 4 (by decide) k_18 (v := .ref (a 330)) rfl dX5_undo_29 ?_
    refine g_get S hK hP (i := 330) (by omega) cC1 rfl inlX2 1 (by decide) k_72 (v := .int ((w_X2_takeLatest z (z.1 0)).2 7 1 1)) (congrArg Value.int (Eq.trans (congrFun (fl_7 (t := 1) (by decide)) 1) (rfl))) dX5_undo_32 ?_
    exact e_int S hr hlk rfl hK hS (cP_eq (show w_X5_undo z  = zR (w_X2_takeLatest z (z.1 0)) 0 (v_X2_takeLatest z (z.1 0)) from (if_neg c1).trans rfl) hP) (show v_X5_undo z  = (w_X2_takeLatest z (z.1 0)).2 7 1 1 from (if_neg c1).trans rfl).symm dX5_undo_35
  · skip
    refine lv_bipush (v := -5) hx hb dX5_undo_10 (by decide) ?_
    exact e_int S hr hlk rfl hK hS (cP_eq (show w_X5_undo z  = z from (if_pos c1).trans rfl) hP) (show v_X5_undo z  = (-5 : Int32) from (if_pos c1).trans rfl).symm dX5_undo_12
