theorem KJ_dec2 {u : Nat → Nat → Int32} (h : KI (u 0)) (h0 : ¬ u 0 6 = 0) : KJ (up u 0 6 (u 0 6 - (1 : Int32)) 0) := by
  obtain ⟨k, h1, h2⟩ := h
  rcases Nat.eq_zero_or_pos k with e | e
  · exact absurd (by rw [h2, e]; rfl) h0
  · obtain ⟨k', rfl⟩ : ∃ k', k = k' + 1 := ⟨k - 1, by omega⟩
    have e : up u 0 6 (u 0 6 - (1 : Int32)) 0 6 = nI k' := by
      rw [up_same, h2, nI_pred]
    have e2 := sN_of e (by omega)
    exact ⟨e2.1, by rw [e2.2]; omega⟩
theorem KJ_up1 {u : Nat → Nat → Int32} {i : Nat} {v : Int32} (h : KJ (u 0)) : KJ (up u 1 i v 0) := by
  rw [up_oi (by decide)]; exact h
/-- the length of the text -/
def LI (s0 : Nat → Int32) : Prop := ∃ n : Nat, n ≤ 60 ∧ s0 8 = nI n
theorem LI_n {s : Nat → Int32} (h : LI s) : s 8 = nI (sN s 8) := by
  obtain ⟨n, h1, h2⟩ := h
  exact (sN_of h2 (by omega)).1
theorem LI_lt {s : Nat → Int32} (h : LI s) (h2 : ¬ s 8 = (60 : Int32)) : sN s 8 < 60 := by
  obtain ⟨n, h1, h3⟩ := h
  have e := sN_of h3 (by omega)
  rcases Nat.lt_or_ge (sN s 8) 60 with h4 | h4
  · exact h4
  · exact absurd (e.1.trans (congrArg nI (show sN s 8 = 60 by omega))) h2
theorem count_in {p : Int32} (h : ¬ v_X6_in p (15 : Int32) (19 : Int32) = 0) : vp_in ((1 : Int32) + p - (15 : Int32)) 713 := by
  obtain ⟨h1, h2⟩ := in6 h
  obtain ⟨j, hj, rfl⟩ := vp_in_of (n := 20) (vp_in6 h (by decide) (by decide)) (by decide)
  have h3 : 15 ≤ j := (nI_leI (a := 15) (by decide) (by omega)).mp h1
  have e : (1 : Int32) + nI j - (15 : Int32) = nI (j - 14) := by
    have e1 : (1 : Int32) + nI j = nI (1 + j) := nI_add 1 j
    rw [e1]
    exact (pk_sub (a := 1 + j) (b := 15) (by omega)).trans (congrArg nI (by omega))
  rw [e]
  exact vp_in_nI (by omega) (by decide)

def v_X6_stopped (u : Nat → Nat → Int32) (p1 : Int32) : Int32 := if p1 = 0 then (u 0 9) else if p1 = (1 : Int32) then (u 0 10) else (-2 : Int32)
theorem q_X6_stopped : yX6_stopped.cls ≠ "java/lang/invoke/MethodHandle" ∧ yX6_stopped.cls ≠ "java/lang/invoke/VarHandle" ∧ (parseMethodDescriptor yX6_stopped.desc).map (fun d => d.parameters.length) = some 1 := ⟨by decide, by decide, by decide +kernel⟩
set_option maxHeartbeats 4000000 in
set_option maxRecDepth 100000 in
theorem c_X6_stopped (l : Launch) (G : kG) (a : Nat → Nat) (hI : gI 8 a) (u : Nat → Nat → Int32) (p1 : Int32) : Met l yX6_stopped (Cond.code yX6_stopped cX6_stopped 2 (some .int) :: BIG) (rmK 0) (pcG G (mP G a u) [.ref (a 0), .int p1]) (qcI G (gA 8 a) (mP G a u) (v_X6_stopped u p1)) 0 0 (gA 8 a) := by
  refine m_start (by decide) (Nat.le_of_ble_eq_true rfl) ?_
  intro p e s m args below meth c S hr hlk hnm hP hK ls hl
  have hx := S.1
  have hb := S.2.1
  have hown := S.2.2.2.1
  have hS : va_S (gA 8 a) s.heap s.heap [] := va_S.rf
  have hl : lv_has ls 2 [(0, .ref (a 0)), (1, .int p1)] := hl
  refine lv_iload_n hx hb dX6_stopped_0 rfl (lv_at hl 1 rfl) ?_
  refine lv_if_ne (tgt := 11) hx hb dX6_stopped_1 (by decide) (fun c1 => ?_) (fun c1 => ?_)
  · skip
    refine lv_iload_n hx hb dX6_stopped_11 rfl (lv_at hl 1 rfl) ?_
    refine lv_iconst (v := 1) hx hb dX6_stopped_12 (by decide) ?_
    refine lv_icmp_ne (tgt := 23) hx hb dX6_stopped_13 (by decide) (fun c2 => ?_) (fun c2 => ?_)
    · skip
      refine lv_bipush (v := -2) hx hb dX6_stopped_23 (by decide) ?_
      exact e_int S hr hlk rfl hK hS hP (show v_X6_stopped u p1 = (-2 : Int32) from (if_neg c1).trans ((if_neg c2).trans rfl)).symm dX6_stopped_25
    · skip
      refine lv_aload_n hx hb dX6_stopped_16 rfl (lv_at hl 0 rfl) ?_
      refine g_get S hK hP (i := 0) (by omega) mC0 rfl inlX6 10 (by decide) k_74 (v := .int (u 0 10)) rfl dX6_stopped_17 ?_
      refine lv_goto (tgt := 25) hx hb dX6_stopped_20 (by decide) ?_
      exact e_int S hr hlk rfl hK hS hP (show v_X6_stopped u p1 = u 0 10 from (if_neg c1).trans ((if_pos c2).trans rfl)).symm dX6_stopped_25
  · skip
    refine lv_aload_n hx hb dX6_stopped_4 rfl (lv_at hl 0 rfl) ?_
    refine g_get S hK hP (i := 0) (by omega) mC0 rfl inlX6 9 (by decide) k_73 (v := .int (u 0 9)) rfl dX6_stopped_5 ?_
    refine lv_goto (tgt := 25) hx hb dX6_stopped_8 (by decide) ?_
    exact e_int S hr hlk rfl hK hS hP (show v_X6_stopped u p1 = u 0 9 from (if_pos c1).trans rfl).symm dX6_stopped_25

def v_X6_undo_loop : Nat → Nat → (Nat → Nat → Int32) → Int32
  | 0, k, u1 => u1 0 6
  | n + 1, k, u1 => v_X6_undo_loop n (k + 1) (up u1 1 k (u1 5 (713 * (sN (u1 0) 6) + k)))
def w_X6_undo_loop : Nat → Nat → (Nat → Nat → Int32) → (Nat → Nat → Int32)
  | 0, k, u1 => u1
  | n + 1, k, u1 => w_X6_undo_loop n (k + 1) (up u1 1 k (u1 5 (713 * (sN (u1 0) 6) + k)))
def v_X6_undo (u : Nat → Nat → Int32) : Int32 := if u 0 6 = 0 then (-5 : Int32) else v_X6_undo_loop 713 0 (up u 0 6 ((u 0 6) - (1 : Int32)))
def w_X6_undo (u : Nat → Nat → Int32) : Nat → Nat → Int32 := if u 0 6 = 0 then u else w_X6_undo_loop 713 0 (up u 0 6 ((u 0 6) - (1 : Int32)))
theorem q_X6_undo : yX6_undo.cls ≠ "java/lang/invoke/MethodHandle" ∧ yX6_undo.cls ≠ "java/lang/invoke/VarHandle" ∧ (parseMethodDescriptor yX6_undo.desc).map (fun d => d.parameters.length) = some 0 := ⟨by decide, by decide, by decide +kernel⟩
set_option maxHeartbeats 4000000 in
set_option maxRecDepth 100000 in
theorem c_X6_undo (l : Launch) (G : kG) (a : Nat → Nat) (hI : gI 8 a) (u : Nat → Nat → Int32) (hk6 : KI (u 0)) : Met l yX6_undo (Cond.code yX6_undo cX6_undo 2 (some .int) :: BIG) (rmK 0) (pcG G (mP G a u) [.ref (a 0)]) (qcI G (gA 8 a) (mP G a (w_X6_undo u)) (v_X6_undo u)) 0 0 (gA 8 a) := by
  refine m_start (by decide) (Nat.le_of_ble_eq_true rfl) ?_
  intro p e s m args below meth c S hr hlk hnm hP hK ls hl
  have hx := S.1
  have hb := S.2.1
  have hown := S.2.2.2.1
  have hS : va_S (gA 8 a) s.heap s.heap [] := va_S.rf
  have hl : lv_has ls 2 [(0, .ref (a 0))] := hl
  refine lv_aload_n hx hb dX6_undo_0 rfl (lv_at hl 0 rfl) ?_
  refine g_get S hK hP (i := 0) (by omega) mC0 rfl inlX6 6 (by decide) k_214 (v := .int (u 0 6)) rfl dX6_undo_1 ?_
  refine lv_if_ne (tgt := 10) hx hb dX6_undo_4 (by decide) (fun c1 => ?_) (fun c1 => ?_)
  · skip
    refine lv_aload_n hx hb dX6_undo_10 rfl (lv_at hl 0 rfl) ?_
    refine lv_dup hx hb dX6_undo_11 rfl ?_
    refine g_get S hK hP (i := 0) (by omega) mC0 rfl inlX6 6 (by decide) k_214 (v := .int (u 0 6)) rfl dX6_undo_12 ?_
    refine lv_iconst (v := 1) hx hb dX6_undo_15 (by decide) ?_
    refine lv_isub hx hb dX6_undo_16 ?_
    refine g_put S hK hP hI hS (i := 0) (by omega) mC0 rfl inlX6 tyX6 tyX6_ok nmX6 mF_n 6 (by decide) k_214 rfl pI rfl rfl (fun _ => rfl) dX6_undo_17 (fun H locs hP hS => ?_)
    have hP : mP G a (up u 0 6 ((u 0 6) - (1 : Int32))) H := hP
    refine lv_iconst (v := 0) hx hb dX6_undo_20 (by decide) ?_
    refine lv_istore_n (lv' := [(1, .int (0 : Int32)), (0, .ref (a 0))]) hx hb dX6_undo_21 rfl hl (by decide) rfl (fun ls hl => ?_)
    have LP_loop : ∀ (n : Nat) (k : Nat), k + n = 713 → ∀ (u1 : Nat → Nat → Int32) (H : Heap) (locs : List Loc), mP G a u1 H → va_S (gA 8 a) s.heap H locs → KJ (u1 0) → ∀ ls : Array Slot, lv_has ls 2 [(1, .int (nI k)), (0, .ref (a 0))] → W p l e (rmK 0) s m args below meth c H locs 0 0 (MQ below (qcI G (gA 8 a) (mP G a (w_X6_undo_loop n k u1)) (v_X6_undo_loop n k u1)) args s 0 0 (gA 8 a)) (F0 m 22 ls []) := by
      intro n
      induction n with
      | zero =>
        intro k hk_LP_loop u1 H locs hP hS hkn ls hl
        have hkn2 := hkn.2
        refine lv_iload_n hx hb dX6_undo_22 rfl (lv_at hl 0 rfl) ?_
        refine lv_sipush (v := 713) hx hb dX6_undo_23 (by decide) ?_
        refine lv_icmp_ge (tgt := 56) hx hb dX6_undo_26 (by decide) (fun _ => ?_) (fun c => absurd ((nI_leI (a := 713) (b := k) (by omega) (by omega)).mpr (by omega)) c)
        refine lv_aload_n hx hb dX6_undo_56 rfl (lv_at hl 1 rfl) ?_
        refine g_get S hK hP (i := 0) (by omega) mC0 rfl inlX6 6 (by decide) k_214 (v := .int (u1 0 6)) rfl dX6_undo_57 ?_
        exact e_int S hr hlk rfl hK hS (gP_eq (show w_X6_undo_loop 0 k u1 = u1 from rfl) hP) (show v_X6_undo_loop 0 k u1 = u1 0 6 from rfl).symm dX6_undo_60
      | succ n ih_LP_loop =>
        intro k hk_LP_loop u1 H locs hP hS hkn ls hl
        have hkn2 := hkn.2
        refine lv_iload_n hx hb dX6_undo_22 rfl (lv_at hl 0 rfl) ?_
        refine lv_sipush (v := 713) hx hb dX6_undo_23 (by decide) ?_
        refine lv_icmp_ge (tgt := 56) hx hb dX6_undo_26 (by decide) (fun c => absurd c (fun z => absurd ((nI_leI (a := 713) (b := k) (by omega) (by omega)).mp z) (by omega))) (fun _ => ?_)
        refine lv_aload_n hx hb dX6_undo_29 rfl (lv_at hl 1 rfl) ?_
        refine g_get S hK hP (i := 0) (by omega) mC0 rfl inlX6 0 (by decide) k_67 (v := .ref (a 1)) rfl dX6_undo_30 ?_
        refine lv_iload_n hx hb dX6_undo_33 rfl (lv_at hl 0 rfl) ?_
        refine lv_aload_n hx hb dX6_undo_34 rfl (lv_at hl 1 rfl) ?_
        refine g_get S hK hP (i := 0) (by omega) mC0 rfl inlX6 5 (by decide) k_71 (v := .ref (a 5)) rfl dX6_undo_35 ?_
        refine lv_sipush (v := 713) hx hb dX6_undo_38 (by decide) ?_
        refine lv_aload_n hx hb dX6_undo_41 rfl (lv_at hl 1 rfl) ?_
        refine g_get S hK hP (i := 0) (by omega) mC0 rfl inlX6 6 (by decide) k_214 (v := .int (u1 0 6)) rfl dX6_undo_42 ?_
        refine r_top (v := nI (sN (u1 0) 6)) hkn.1 ?_
        refine lv_imul hx hb dX6_undo_45 ?_
        refine r_top (v := nI (713 * (sN (u1 0) 6))) (pk_mul 713 (sN (u1 0) 6)) ?_
        refine lv_iload_n hx hb dX6_undo_46 rfl (lv_at hl 0 rfl) ?_
        refine lv_iadd hx hb dX6_undo_47 ?_
        refine r_top (v := nI (713 * (sN (u1 0) 6) + k)) (nI_add (713 * (sN (u1 0) 6)) k) ?_
        refine g_aldN S hK hP (i := 5) (by omega) mC5 (k := 713 * (sN (u1 0) 6) + k) (by omega) (by decide) (v := u1 5 (713 * (sN (u1 0) 6) + k)) (rfl) dX6_undo_48 ?_
        refine g_astN S hK hP hI hS (i := 1) (by omega) mC1 (k := k) (by omega) (by decide) dX6_undo_49 (fun H locs hP hS => ?_)
        have hP : mP G a (up u1 1 k (u1 5 (713 * (sN (u1 0) 6) + k))) H := hP
        refine lv_iinc (v := nI (k + 1)) (lv' := [(1, .int (nI (k + 1))), (0, .ref (a 0))]) hx hb dX6_undo_50 hl (k := 0) rfl (nI_1 _) (by decide) rfl (fun ls hl => ?_)
        refine lv_goto (tgt := 22) hx hb dX6_undo_53 (by decide) ?_
        refine q_eqI (show v_X6_undo_loop (n + 1) k u1 = v_X6_undo_loop n (k + 1) (up u1 1 k (u1 5 (713 * (sN (u1 0) 6) + k))) from rfl) (show w_X6_undo_loop (n + 1) k u1 = w_X6_undo_loop n (k + 1) (up u1 1 k (u1 5 (713 * (sN (u1 0) 6) + k))) from rfl) ?_
        exact ih_LP_loop (k + 1) (by omega) _ _ _ hP hS (KJ_up1 hkn) ls (lv_sub hl [0, 1] rfl)
    refine q_eqI (show v_X6_undo u  = v_X6_undo_loop 713 0 (up u 0 6 ((u 0 6) - (1 : Int32))) from (if_neg c1).trans rfl) (show w_X6_undo u  = w_X6_undo_loop 713 0 (up u 0 6 ((u 0 6) - (1 : Int32))) from (if_neg c1).trans rfl) ?_
    exact LP_loop 713 0 (by omega) _ _ _ hP hS (KJ_dec2 hk6 c1) ls (lv_sub hl [0, 1] rfl)
  · skip
    refine lv_bipush (v := -5) hx hb dX6_undo_7 (by decide) ?_
    exact e_int S hr hlk rfl hK hS (gP_eq (show w_X6_undo u  = u from (if_pos c1).trans rfl) hP) (show v_X6_undo u  = (-5 : Int32) from (if_pos c1).trans rfl).symm dX6_undo_9

def v_X6_keep_loop : Nat → Nat → (Nat → Nat → Int32) → Int32
  | 0, k, u => u 1 0
  | n + 1, k, u => v_X6_keep_loop n (k + 1) (up u 4 k (u 1 k))
def w_X6_keep_loop : Nat → Nat → (Nat → Nat → Int32) → (Nat → Nat → Int32)
  | 0, k, u => up u 0 4 (1 : Int32)
  | n + 1, k, u => w_X6_keep_loop n (k + 1) (up u 4 k (u 1 k))
def v_X6_keep (u : Nat → Nat → Int32) : Int32 := v_X6_keep_loop 713 0 u
def w_X6_keep (u : Nat → Nat → Int32) : Nat → Nat → Int32 := w_X6_keep_loop 713 0 u
theorem q_X6_keep : yX6_keep.cls ≠ "java/lang/invoke/MethodHandle" ∧ yX6_keep.cls ≠ "java/lang/invoke/VarHandle" ∧ (parseMethodDescriptor yX6_keep.desc).map (fun d => d.parameters.length) = some 0 := ⟨by decide, by decide, by decide +kernel⟩
set_option maxHeartbeats 4000000 in
set_option maxRecDepth 100000 in
theorem c_X6_keep (l : Launch) (G : kG) (a : Nat → Nat) (hI : gI 8 a) (u : Nat → Nat → Int32) : Met l yX6_keep (Cond.code yX6_keep cX6_keep 2 (some .int) :: BIG) (rmK 0) (pcG G (mP G a u) [.ref (a 0)]) (qcI G (gA 8 a) (mP G a (w_X6_keep u)) (v_X6_keep u)) 0 0 (gA 8 a) := by
  refine m_start (by decide) (Nat.le_of_ble_eq_true rfl) ?_
  intro p e s m args below meth c S hr hlk hnm hP hK ls hl
  have hx := S.1
  have hb := S.2.1
  have hown := S.2.2.2.1
  have hS : va_S (gA 8 a) s.heap s.heap [] := va_S.rf
  have hl : lv_has ls 2 [(0, .ref (a 0))] := hl
  refine lv_iconst (v := 0) hx hb dX6_keep_0 (by decide) ?_
  refine lv_istore_n (lv' := [(1, .int (0 : Int32)), (0, .ref (a 0))]) hx hb dX6_keep_1 rfl hl (by decide) rfl (fun ls hl => ?_)
  have LP_loop : ∀ (n : Nat) (k : Nat), k + n = 713 → ∀ (u : Nat → Nat → Int32) (H : Heap) (locs : List Loc), mP G a u H → va_S (gA 8 a) s.heap H locs → ∀ ls : Array Slot, lv_has ls 2 [(1, .int (nI k)), (0, .ref (a 0))] → W p l e (rmK 0) s m args below meth c H locs 0 0 (MQ below (qcI G (gA 8 a) (mP G a (w_X6_keep_loop n k u)) (v_X6_keep_loop n k u)) args s 0 0 (gA 8 a)) (F0 m 2 ls []) := by
    intro n
    induction n with
    | zero =>
      intro k hk_LP_loop u H locs hP hS ls hl
      refine lv_iload_n hx hb dX6_keep_2 rfl (lv_at hl 0 rfl) ?_
      refine lv_sipush (v := 713) hx hb dX6_keep_3 (by decide) ?_
      refine lv_icmp_ge (tgt := 27) hx hb dX6_keep_6 (by decide) (fun _ => ?_) (fun c => absurd ((nI_leI (a := 713) (b := k) (by omega) (by omega)).mpr (by omega)) c)
      refine lv_aload_n hx hb dX6_keep_27 rfl (lv_at hl 1 rfl) ?_
      refine lv_iconst (v := 1) hx hb dX6_keep_28 (by decide) ?_
      refine g_put S hK hP hI hS (i := 0) (by omega) mC0 rfl inlX6 tyX6 tyX6_ok nmX6 mF_n 4 (by decide) k_653 rfl pZ rfl rfl (fun _ => rfl) dX6_keep_29 (fun H locs hP hS => ?_)
      have hP : mP G a (up u 0 4 (1 : Int32)) H := hP
      refine lv_aload_n hx hb dX6_keep_32 rfl (lv_at hl 1 rfl) ?_
      refine g_get S hK hP (i := 0) (by omega) mC0 rfl inlX6 0 (by decide) k_67 (v := .ref (a 1)) rfl dX6_keep_33 ?_
      refine lv_iconst (v := 0) hx hb dX6_keep_36 (by decide) ?_
      refine g_aldN S hK hP (i := 1) (by omega) mC1 (k := 0) (by omega) (by decide) (v := u 1 0) ((up_ni (by omega)).trans rfl) dX6_keep_37 ?_
      exact e_int S hr hlk rfl hK hS (gP_eq (show w_X6_keep_loop 0 k u = up u 0 4 (1 : Int32) from rfl) hP) (show v_X6_keep_loop 0 k u = u 1 0 from rfl).symm dX6_keep_38
    | succ n ih_LP_loop =>
      intro k hk_LP_loop u H locs hP hS ls hl
      refine lv_iload_n hx hb dX6_keep_2 rfl (lv_at hl 0 rfl) ?_
      refine lv_sipush (v := 713) hx hb dX6_keep_3 (by decide) ?_
      refine lv_icmp_ge (tgt := 27) hx hb dX6_keep_6 (by decide) (fun c => absurd c (fun z => absurd ((nI_leI (a := 713) (b := k) (by omega) (by omega)).mp z) (by omega))) (fun _ => ?_)
      refine lv_aload_n hx hb dX6_keep_9 rfl (lv_at hl 1 rfl) ?_
      refine g_get S hK hP (i := 0) (by omega) mC0 rfl inlX6 3 (by decide) k_70 (v := .ref (a 4)) rfl dX6_keep_10 ?_
      refine lv_iload_n hx hb dX6_keep_13 rfl (lv_at hl 0 rfl) ?_
      refine lv_aload_n hx hb dX6_keep_14 rfl (lv_at hl 1 rfl) ?_
      refine g_get S hK hP (i := 0) (by omega) mC0 rfl inlX6 0 (by decide) k_67 (v := .ref (a 1)) rfl dX6_keep_15 ?_
      refine lv_iload_n hx hb dX6_keep_18 rfl (lv_at hl 0 rfl) ?_
      refine g_aldN S hK hP (i := 1) (by omega) mC1 (k := k) (by omega) (by decide) (v := u 1 k) (rfl) dX6_keep_19 ?_
      refine g_astN S hK hP hI hS (i := 4) (by omega) mC4 (k := k) (by omega) (by decide) dX6_keep_20 (fun H locs hP hS => ?_)
      have hP : mP G a (up u 4 k (u 1 k)) H := hP
      refine lv_iinc (v := nI (k + 1)) (lv' := [(1, .int (nI (k + 1))), (0, .ref (a 0))]) hx hb dX6_keep_21 hl (k := 0) rfl (nI_1 _) (by decide) rfl (fun ls hl => ?_)
      refine lv_goto (tgt := 2) hx hb dX6_keep_24 (by decide) ?_
      refine q_eqI (show v_X6_keep_loop (n + 1) k u = v_X6_keep_loop n (k + 1) (up u 4 k (u 1 k)) from rfl) (show w_X6_keep_loop (n + 1) k u = w_X6_keep_loop n (k + 1) (up u 4 k (u 1 k)) from rfl) ?_
      exact ih_LP_loop (k + 1) (by omega) _ _ _ hP hS ls (lv_sub hl [0, 1] rfl)
  refine q_eqI (show v_X6_keep u  = v_X6_keep_loop 713 0 u from rfl) (show w_X6_keep u  = w_X6_keep_loop 713 0 u from rfl) ?_
  exact LP_loop 713 0 (by omega) _ _ _ hP hS ls (lv_sub hl [0, 1] rfl)

def v_X6_restore_loop : Nat → Nat → (Nat → Nat → Int32) → Int32
  | 0, k, u => u 1 0
  | n + 1, k, u => v_X6_restore_loop n (k + 1) (up u 1 k (u 4 k))
def w_X6_restore_loop : Nat → Nat → (Nat → Nat → Int32) → (Nat → Nat → Int32)
  | 0, k, u => u
  | n + 1, k, u => w_X6_restore_loop n (k + 1) (up u 1 k (u 4 k))
def v_X6_restore (u : Nat → Nat → Int32) : Int32 := if u 0 4 = 0 then (-5 : Int32) else v_X6_restore_loop 713 0 (w_X6_know u)
def w_X6_restore (u : Nat → Nat → Int32) : Nat → Nat → Int32 := if u 0 4 = 0 then u else w_X6_restore_loop 713 0 (w_X6_know u)
theorem q_X6_restore : yX6_restore.cls ≠ "java/lang/invoke/MethodHandle" ∧ yX6_restore.cls ≠ "java/lang/invoke/VarHandle" ∧ (parseMethodDescriptor yX6_restore.desc).map (fun d => d.parameters.length) = some 0 := ⟨by decide, by decide, by decide +kernel⟩
set_option maxHeartbeats 4000000 in
set_option maxRecDepth 100000 in
theorem c_X6_restore (l : Launch) (G : kG) (a : Nat → Nat) (hI : gI 8 a) (u : Nat → Nat → Int32) (hk6 : KI (u 0)) : Met l yX6_restore (Cond.code yX6_restore cX6_restore 2 (some .int) :: BIG) (rmK 2) (pcG G (mP G a u) [.ref (a 0)]) (qcI G (gA 8 a) (mP G a (w_X6_restore u)) (v_X6_restore u)) 0 0 (gA 8 a) := by
  refine m_start (by decide) (Nat.le_of_ble_eq_true rfl) ?_
  intro p e s m args below meth c S hr hlk hnm hP hK ls hl
  have hx := S.1
  have hb := S.2.1
  have hown := S.2.2.2.1
  have hS : va_S (gA 8 a) s.heap s.heap [] := va_S.rf
  have hl : lv_has ls 2 [(0, .ref (a 0))] := hl
  refine lv_aload_n hx hb dX6_restore_0 rfl (lv_at hl 0 rfl) ?_
  refine g_get S hK hP (i := 0) (by omega) mC0 rfl inlX6 4 (by decide) k_653 (v := .int (u 0 4)) rfl dX6_restore_1 ?_
  refine lv_if_ne (tgt := 10) hx hb dX6_restore_4 (by decide) (fun c1 => ?_) (fun c1 => ?_)
  · skip
    refine lv_aload_n hx hb dX6_restore_10 rfl (lv_at hl 0 rfl) ?_
    refine r_callV S hK hP (c_X6_know l G a hI u hk6) (r_cw S k_205 k_202 k_203 k_204 k_5 q_X6_know ⟨Nat.le_of_ble_eq_true rfl, Nat.le_of_ble_eq_true rfl⟩ rfl rfl) (g_recv hK hP (i := 0) (by omega) mC0 rfl) rfl hl.1 rfl (Nat.le_of_ble_eq_true rfl) dX6_restore_11 ⟨Nat.zero_le _, Nat.zero_le _⟩ hS (fun _ h => h) (fun H locs hP _ _ hS => ?_)
    have hP : mP G a (w_X6_know u) H := hP
    refine lv_iconst (v := 0) hx hb dX6_restore_14 (by decide) ?_
    refine lv_istore_n (lv' := [(1, .int (0 : Int32)), (0, .ref (a 0))]) hx hb dX6_restore_15 rfl hl (by decide) rfl (fun ls hl => ?_)
    have LP_loop : ∀ (n : Nat) (k : Nat), k + n = 713 → ∀ (u : Nat → Nat → Int32) (H : Heap) (locs : List Loc), mP G a u H → va_S (gA 8 a) s.heap H locs → ∀ ls : Array Slot, lv_has ls 2 [(1, .int (nI k)), (0, .ref (a 0))] → W p l e (rmK 2) s m args below meth c H locs 0 0 (MQ below (qcI G (gA 8 a) (mP G a (w_X6_restore_loop n k u)) (v_X6_restore_loop n k u)) args s 0 0 (gA 8 a)) (F0 m 16 ls []) := by
      intro n
      induction n with
      | zero =>
        intro k hk_LP_loop u H locs hP hS ls hl
        refine lv_iload_n hx hb dX6_restore_16 rfl (lv_at hl 0 rfl) ?_
        refine lv_sipush (v := 713) hx hb dX6_restore_17 (by decide) ?_
        refine lv_icmp_ge (tgt := 41) hx hb dX6_restore_20 (by decide) (fun _ => ?_) (fun c => absurd ((nI_leI (a := 713) (b := k) (by omega) (by omega)).mpr (by omega)) c)
        refine lv_aload_n hx hb dX6_restore_41 rfl (lv_at hl 1 rfl) ?_
        refine g_get S hK hP (i := 0) (by omega) mC0 rfl inlX6 0 (by decide) k_67 (v := .ref (a 1)) rfl dX6_restore_42 ?_
        refine lv_iconst (v := 0) hx hb dX6_restore_45 (by decide) ?_
        refine g_aldN S hK hP (i := 1) (by omega) mC1 (k := 0) (by omega) (by decide) (v := u 1 0) (rfl) dX6_restore_46 ?_
        exact e_int S hr hlk rfl hK hS (gP_eq (show w_X6_restore_loop 0 k u = u from rfl) hP) (show v_X6_restore_loop 0 k u = u 1 0 from rfl).symm dX6_restore_47
      | succ n ih_LP_loop =>
        intro k hk_LP_loop u H locs hP hS ls hl
        refine lv_iload_n hx hb dX6_restore_16 rfl (lv_at hl 0 rfl) ?_
        refine lv_sipush (v := 713) hx hb dX6_restore_17 (by decide) ?_
        refine lv_icmp_ge (tgt := 41) hx hb dX6_restore_20 (by decide) (fun c => absurd c (fun z => absurd ((nI_leI (a := 713) (b := k) (by omega) (by omega)).mp z) (by omega))) (fun _ => ?_)
        refine lv_aload_n hx hb dX6_restore_23 rfl (lv_at hl 1 rfl) ?_
        refine g_get S hK hP (i := 0) (by omega) mC0 rfl inlX6 0 (by decide) k_67 (v := .ref (a 1)) rfl dX6_restore_24 ?_
        refine lv_iload_n hx hb dX6_restore_27 rfl (lv_at hl 0 rfl) ?_
        refine lv_aload_n hx hb dX6_restore_28 rfl (lv_at hl 1 rfl) ?_
        refine g_get S hK hP (i := 0) (by omega) mC0 rfl inlX6 3 (by decide) k_70 (v := .ref (a 4)) rfl dX6_restore_29 ?_
        refine lv_iload_n hx hb dX6_restore_32 rfl (lv_at hl 0 rfl) ?_
        refine g_aldN S hK hP (i := 4) (by omega) mC4 (k := k) (by omega) (by decide) (v := u 4 k) (rfl) dX6_restore_33 ?_
        refine g_astN S hK hP hI hS (i := 1) (by omega) mC1 (k := k) (by omega) (by decide) dX6_restore_34 (fun H locs hP hS => ?_)
        have hP : mP G a (up u 1 k (u 4 k)) H := hP
        refine lv_iinc (v := nI (k + 1)) (lv' := [(1, .int (nI (k + 1))), (0, .ref (a 0))]) hx hb dX6_restore_35 hl (k := 0) rfl (nI_1 _) (by decide) rfl (fun ls hl => ?_)
        refine lv_goto (tgt := 16) hx hb dX6_restore_38 (by decide) ?_
        refine q_eqI (show v_X6_restore_loop (n + 1) k u = v_X6_restore_loop n (k + 1) (up u 1 k (u 4 k)) from rfl) (show w_X6_restore_loop (n + 1) k u = w_X6_restore_loop n (k + 1) (up u 1 k (u 4 k)) from rfl) ?_
        exact ih_LP_loop (k + 1) (by omega) _ _ _ hP hS ls (lv_sub hl [0, 1] rfl)
    refine q_eqI (show v_X6_restore u  = v_X6_restore_loop 713 0 (w_X6_know u) from (if_neg c1).trans rfl) (show w_X6_restore u  = w_X6_restore_loop 713 0 (w_X6_know u) from (if_neg c1).trans rfl) ?_
    exact LP_loop 713 0 (by omega) _ _ _ hP hS ls (lv_sub hl [0, 1] rfl)
  · skip
    refine lv_bipush (v := -5) hx hb dX6_restore_7 (by decide) ?_
    exact e_int S hr hlk rfl hK hS (gP_eq (show w_X6_restore u  = u from (if_pos c1).trans rfl) hP) (show v_X6_restore u  = (-5 : Int32) from (if_pos c1).trans rfl).symm dX6_restore_9

def v_X6_billOf (u : Nat → Nat → Int32) (p1 : Int32) (p2 : Int32) : Int32 := if v_X6_isBill u p1 = 0 then (-1 : Int32) else if p2 = 0 then (u 1 (233 + 12 * p1.toNatClampNeg + 0)) else if p2 = 1 then (u 1 (233 + 12 * p1.toNatClampNeg + 1)) else if p2 = 2 then (v_X6_taxOf u p1.toNatClampNeg) else if p2 = 3 then (v_X6_sumOf u p1.toNatClampNeg) else if p2 = 4 then (u 1 (233 + 12 * p1.toNatClampNeg + 3)) else if p2 = 5 then (v_X6_dueDay u p1.toNatClampNeg) else if p2 = 6 then (u 1 (233 + 12 * p1.toNatClampNeg + 5)) else if p2 = 7 then (u 1 (233 + 12 * p1.toNatClampNeg + 6)) else if p2 = 8 then (u 1 (233 + 12 * p1.toNatClampNeg + 7)) else if p2 = 9 then (u 1 (233 + 12 * p1.toNatClampNeg + 8)) else if p2 = 10 then (v_X6_owedOn u p1.toNatClampNeg) else if p2 = 11 then (u 1 (233 + 12 * p1.toNatClampNeg + 9)) else if p2 = 12 then (u 1 (233 + 12 * p1.toNatClampNeg + 11)) else if p2 = 13 then (if v_X6_isOverdue u p1.toNatClampNeg = 0 then (0 : Int32) else (1 : Int32)) else (-2 : Int32)
theorem q_X6_billOf : yX6_billOf.cls ≠ "java/lang/invoke/MethodHandle" ∧ yX6_billOf.cls ≠ "java/lang/invoke/VarHandle" ∧ (parseMethodDescriptor yX6_billOf.desc).map (fun d => d.parameters.length) = some 2 := ⟨by decide, by decide, by decide +kernel⟩
set_option maxHeartbeats 4000000 in
set_option maxRecDepth 100000 in
theorem c_X6_billOf (l : Launch) (G : kG) (a : Nat → Nat) (hI : gI 8 a) (u : Nat → Nat → Int32) (p1 : Int32) (p2 : Int32) (hm : SI (u 1)) : Met l yX6_billOf (Cond.code yX6_billOf cX6_billOf 3 (some .int) :: BIG) (rmK 4) (pcG G (mP G a u) [.ref (a 0), .int p1, .int p2]) (qcI G (gA 8 a) (mP G a u) (v_X6_billOf u p1 p2)) 0 0 (gA 8 a) := by
  refine m_start (by decide) (Nat.le_of_ble_eq_true rfl) ?_
  intro p e s m args below meth c S hr hlk hnm hP hK ls hl
  have hx := S.1
  have hb := S.2.1
  have hown := S.2.2.2.1
  have hS : va_S (gA 8 a) s.heap s.heap [] := va_S.rf
  have hl : lv_has ls 3 [(0, .ref (a 0)), (1, .int p1), (2, .int p2)] := hl
  refine lv_aload_n hx hb dX6_billOf_0 rfl (lv_at hl 0 rfl) ?_
  refine lv_iload_n hx hb dX6_billOf_1 rfl (lv_at hl 1 rfl) ?_
  refine r_callI S hK hP (c_X6_isBill l G a hI u _ ) (r_cw S k_320 k_317 k_318 k_319 k_5 q_X6_isBill ⟨Nat.le_of_ble_eq_true rfl, Nat.le_of_ble_eq_true rfl⟩ rfl rfl) (g_recv hK hP (i := 0) (by omega) mC0 rfl) rfl hl.1 rfl (Nat.le_of_ble_eq_true rfl) dX6_billOf_2 ⟨Nat.zero_le _, Nat.zero_le _⟩ hS (fun _ h => h) (fun H locs hP _ _ hS => ?_)
  have hP : mP G a u H := hP
  refine lv_if_ne (tgt := 10) hx hb dX6_billOf_5 (by decide) (fun c1 => ?_) (fun c1 => ?_)
  · skip
    refine lv_iload_n hx hb dX6_billOf_10 rfl (lv_at hl 2 rfl) ?_
    refine (Classical.em (p2 = 0)).elim (fun c2 => ?_) (fun c2 => ?_)
    · refine lv_tableIn (tgt := 80)  hx hb dX6_billOf_11 (by rw [c2]; decide) (by rw [c2]; decide) (by rw [c2]; rfl) (by decide) ?_
      refine lv_aload_n hx hb dX6_billOf_80 rfl (lv_at hl 0 rfl) ?_
      refine g_get S hK hP (i := 0) (by omega) mC0 rfl inlX6 0 (by decide) k_67 (v := .ref (a 1)) rfl dX6_billOf_81 ?_
      refine lv_iload_n hx hb dX6_billOf_84 rfl (lv_at hl 1 rfl) ?_
      have hq_p1 : p1.toNatClampNeg < 40 := vp_lt ((vp_X6_isBill hm c1) : vp_in p1 40)
      refine r_top (v := nI p1.toNatClampNeg) (vp_nI ((vp_X6_isBill hm c1) : vp_in p1 40)) ?_
      refine lv_iconst (v := 0) hx hb dX6_billOf_85 (by decide) ?_
      refine r_callS S hK hP (c_X6_of l G (mP G a u) (gA 8 a) p1.toNatClampNeg 0 trivial trivial ) (r_cs S k_221 k_219 k_220 k_5 q_X6_of ⟨Nat.le_of_ble_eq_true rfl, Nat.le_of_ble_eq_true rfl⟩ rfl rfl) rfl hl.1 rfl (Nat.le_of_ble_eq_true rfl) dX6_billOf_86 ⟨Nat.zero_le _, Nat.zero_le _⟩ hS (fun _ h => h) (fun H locs hP _ _ hS => ?_)
      have hP : mP G a u H := hP
      refine r_top (v := nI (233 + 12 * p1.toNatClampNeg + 0)) rfl ?_
      refine g_aldN S hK hP (i := 1) (by omega) mC1 (k := 233 + 12 * p1.toNatClampNeg + 0) (by omega) (by decide) (v := u 1 (233 + 12 * p1.toNatClampNeg + 0)) (rfl) dX6_billOf_89 ?_
      exact e_int S hr hlk rfl hK hS hP (show v_X6_billOf u p1 p2 = u 1 (233 + 12 * p1.toNatClampNeg + 0) from (if_neg c1).trans ((if_pos c2).trans rfl)).symm dX6_billOf_90
    refine (Classical.em (p2 = 1)).elim (fun c3 => ?_) (fun c3 => ?_)
    · refine lv_tableIn (tgt := 91)  hx hb dX6_billOf_11 (by rw [c3]; decide) (by rw [c3]; decide) (by rw [c3]; rfl) (by decide) ?_
      refine lv_aload_n hx hb dX6_billOf_91 rfl (lv_at hl 0 rfl) ?_
      refine g_get S hK hP (i := 0) (by omega) mC0 rfl inlX6 0 (by decide) k_67 (v := .ref (a 1)) rfl dX6_billOf_92 ?_
      refine lv_iload_n hx hb dX6_billOf_95 rfl (lv_at hl 1 rfl) ?_
      have hq_p1 : p1.toNatClampNeg < 40 := vp_lt ((vp_X6_isBill hm c1) : vp_in p1 40)
      refine r_top (v := nI p1.toNatClampNeg) (vp_nI ((vp_X6_isBill hm c1) : vp_in p1 40)) ?_
      refine lv_iconst (v := 1) hx hb dX6_billOf_96 (by decide) ?_
      refine r_callS S hK hP (c_X6_of l G (mP G a u) (gA 8 a) p1.toNatClampNeg 1 trivial trivial ) (r_cs S k_221 k_219 k_220 k_5 q_X6_of ⟨Nat.le_of_ble_eq_true rfl, Nat.le_of_ble_eq_true rfl⟩ rfl rfl) rfl hl.1 rfl (Nat.le_of_ble_eq_true rfl) dX6_billOf_97 ⟨Nat.zero_le _, Nat.zero_le _⟩ hS (fun _ h => h) (fun H locs hP _ _ hS => ?_)
      have hP : mP G a u H := hP
      refine r_top (v := nI (233 + 12 * p1.toNatClampNeg + 1)) rfl ?_
      refine g_aldN S hK hP (i := 1) (by omega) mC1 (k := 233 + 12 * p1.toNatClampNeg + 1) (by omega) (by decide) (v := u 1 (233 + 12 * p1.toNatClampNeg + 1)) (rfl) dX6_billOf_100 ?_
      exact e_int S hr hlk rfl hK hS hP (show v_X6_billOf u p1 p2 = u 1 (233 + 12 * p1.toNatClampNeg + 1) from (if_neg c1).trans ((if_neg c2).trans ((if_pos c3).trans rfl))).symm dX6_billOf_101
    refine (Classical.em (p2 = 2)).elim (fun c4 => ?_) (fun c4 => ?_)
    · refine lv_tableIn (tgt := 102)  hx hb dX6_billOf_11 (by rw [c4]; decide) (by rw [c4]; decide) (by rw [c4]; rfl) (by decide) ?_
      refine lv_aload_n hx hb dX6_billOf_102 rfl (lv_at hl 0 rfl) ?_
      refine lv_iload_n hx hb dX6_billOf_103 rfl (lv_at hl 1 rfl) ?_
      have hq_p1 : p1.toNatClampNeg < 40 := vp_lt ((vp_X6_isBill hm c1) : vp_in p1 40)
      refine r_top (v := nI p1.toNatClampNeg) (vp_nI ((vp_X6_isBill hm c1) : vp_in p1 40)) ?_
      refine r_callI S hK hP (c_X6_taxOf l G a hI u p1.toNatClampNeg (by omega) ) (r_cw S k_241 k_238 k_239 k_240 k_5 q_X6_taxOf ⟨Nat.le_of_ble_eq_true rfl, Nat.le_of_ble_eq_true rfl⟩ rfl rfl) (g_recv hK hP (i := 0) (by omega) mC0 rfl) rfl hl.1 rfl (Nat.le_of_ble_eq_true rfl) dX6_billOf_104 ⟨Nat.zero_le _, Nat.zero_le _⟩ hS (fun _ h => h) (fun H locs hP _ _ hS => ?_)
      have hP : mP G a u H := hP
      exact e_int S hr hlk rfl hK hS hP (show v_X6_billOf u p1 p2 = v_X6_taxOf u p1.toNatClampNeg from (if_neg c1).trans ((if_neg c2).trans ((if_neg c3).trans ((if_pos c4).trans rfl)))).symm dX6_billOf_107
    refine (Classical.em (p2 = 3)).elim (fun c5 => ?_) (fun c5 => ?_)
    · refine lv_tableIn (tgt := 108)  hx hb dX6_billOf_11 (by rw [c5]; decide) (by rw [c5]; decide) (by rw [c5]; rfl) (by decide) ?_
      refine lv_aload_n hx hb dX6_billOf_108 rfl (lv_at hl 0 rfl) ?_
      refine lv_iload_n hx hb dX6_billOf_109 rfl (lv_at hl 1 rfl) ?_
      have hq_p1 : p1.toNatClampNeg < 40 := vp_lt ((vp_X6_isBill hm c1) : vp_in p1 40)
      refine r_top (v := nI p1.toNatClampNeg) (vp_nI ((vp_X6_isBill hm c1) : vp_in p1 40)) ?_
      refine r_callI S hK hP (c_X6_sumOf l G a hI u p1.toNatClampNeg (by omega) ) (r_cw S k_237 k_234 k_235 k_236 k_5 q_X6_sumOf ⟨Nat.le_of_ble_eq_true rfl, Nat.le_of_ble_eq_true rfl⟩ rfl rfl) (g_recv hK hP (i := 0) (by omega) mC0 rfl) rfl hl.1 rfl (Nat.le_of_ble_eq_true rfl) dX6_billOf_110 ⟨Nat.zero_le _, Nat.zero_le _⟩ hS (fun _ h => h) (fun H locs hP _ _ hS => ?_)
      have hP : mP G a u H := hP
      exact e_int S hr hlk rfl hK hS hP (show v_X6_billOf u p1 p2 = v_X6_sumOf u p1.toNatClampNeg from (if_neg c1).trans ((if_neg c2).trans ((if_neg c3).trans ((if_neg c4).trans ((if_pos c5).trans rfl))))).symm dX6_billOf_113
    refine (Classical.em (p2 = 4)).elim (fun c6 => ?_) (fun c6 => ?_)
    · refine lv_tableIn (tgt := 114)  hx hb dX6_billOf_11 (by rw [c6]; decide) (by rw [c6]; decide) (by rw [c6]; rfl) (by decide) ?_
      refine lv_aload_n hx hb dX6_billOf_114 rfl (lv_at hl 0 rfl) ?_
      refine g_get S hK hP (i := 0) (by omega) mC0 rfl inlX6 0 (by decide) k_67 (v := .ref (a 1)) rfl dX6_billOf_115 ?_
      refine lv_iload_n hx hb dX6_billOf_118 rfl (lv_at hl 1 rfl) ?_
      have hq_p1 : p1.toNatClampNeg < 40 := vp_lt ((vp_X6_isBill hm c1) : vp_in p1 40)
      refine r_top (v := nI p1.toNatClampNeg) (vp_nI ((vp_X6_isBill hm c1) : vp_in p1 40)) ?_
      refine lv_iconst (v := 3) hx hb dX6_billOf_119 (by decide) ?_
      refine r_callS S hK hP (c_X6_of l G (mP G a u) (gA 8 a) p1.toNatClampNeg 3 trivial trivial ) (r_cs S k_221 k_219 k_220 k_5 q_X6_of ⟨Nat.le_of_ble_eq_true rfl, Nat.le_of_ble_eq_true rfl⟩ rfl rfl) rfl hl.1 rfl (Nat.le_of_ble_eq_true rfl) dX6_billOf_120 ⟨Nat.zero_le _, Nat.zero_le _⟩ hS (fun _ h => h) (fun H locs hP _ _ hS => ?_)
      have hP : mP G a u H := hP
      refine r_top (v := nI (233 + 12 * p1.toNatClampNeg + 3)) rfl ?_
      refine g_aldN S hK hP (i := 1) (by omega) mC1 (k := 233 + 12 * p1.toNatClampNeg + 3) (by omega) (by decide) (v := u 1 (233 + 12 * p1.toNatClampNeg + 3)) (rfl) dX6_billOf_123 ?_
      exact e_int S hr hlk rfl hK hS hP (show v_X6_billOf u p1 p2 = u 1 (233 + 12 * p1.toNatClampNeg + 3) from (if_neg c1).trans ((if_neg c2).trans ((if_neg c3).trans ((if_neg c4).trans ((if_neg c5).trans ((if_pos c6).trans rfl)))))).symm dX6_billOf_124
    refine (Classical.em (p2 = 5)).elim (fun c7 => ?_) (fun c7 => ?_)
    · refine lv_tableIn (tgt := 125)  hx hb dX6_billOf_11 (by rw [c7]; decide) (by rw [c7]; decide) (by rw [c7]; rfl) (by decide) ?_
      refine lv_aload_n hx hb dX6_billOf_125 rfl (lv_at hl 0 rfl) ?_
      refine lv_iload_n hx hb dX6_billOf_126 rfl (lv_at hl 1 rfl) ?_
      have hq_p1 : p1.toNatClampNeg < 40 := vp_lt ((vp_X6_isBill hm c1) : vp_in p1 40)
      refine r_top (v := nI p1.toNatClampNeg) (vp_nI ((vp_X6_isBill hm c1) : vp_in p1 40)) ?_
      refine r_callI S hK hP (c_X6_dueDay l G a hI u p1.toNatClampNeg (by omega) ) (r_cw S k_421 k_418 k_419 k_420 k_5 q_X6_dueDay ⟨Nat.le_of_ble_eq_true rfl, Nat.le_of_ble_eq_true rfl⟩ rfl rfl) (g_recv hK hP (i := 0) (by omega) mC0 rfl) rfl hl.1 rfl (Nat.le_of_ble_eq_true rfl) dX6_billOf_127 ⟨Nat.zero_le _, Nat.zero_le _⟩ hS (fun _ h => h) (fun H locs hP _ _ hS => ?_)
      have hP : mP G a u H := hP
      exact e_int S hr hlk rfl hK hS hP (show v_X6_billOf u p1 p2 = v_X6_dueDay u p1.toNatClampNeg from (if_neg c1).trans ((if_neg c2).trans ((if_neg c3).trans ((if_neg c4).trans ((if_neg c5).trans ((if_neg c6).trans ((if_pos c7).trans rfl))))))).symm dX6_billOf_130
    refine (Classical.em (p2 = 6)).elim (fun c8 => ?_) (fun c8 => ?_)
    · refine lv_tableIn (tgt := 131)  hx hb dX6_billOf_11 (by rw [c8]; decide) (by rw [c8]; decide) (by rw [c8]; rfl) (by decide) ?_
      refine lv_aload_n hx hb dX6_billOf_131 rfl (lv_at hl 0 rfl) ?_
      refine g_get S hK hP (i := 0) (by omega) mC0 rfl inlX6 0 (by decide) k_67 (v := .ref (a 1)) rfl dX6_billOf_132 ?_
      refine lv_iload_n hx hb dX6_billOf_135 rfl (lv_at hl 1 rfl) ?_
      have hq_p1 : p1.toNatClampNeg < 40 := vp_lt ((vp_X6_isBill hm c1) : vp_in p1 40)
      refine r_top (v := nI p1.toNatClampNeg) (vp_nI ((vp_X6_isBill hm c1) : vp_in p1 40)) ?_
      refine lv_iconst (v := 5) hx hb dX6_billOf_136 (by decide) ?_
      refine lv_iload_n hx hb dX6_billOf_137 rfl (lv_at hl 2 rfl) ?_
      refine lv_iadd hx hb dX6_billOf_138 ?_
      refine lv_bipush (v := 6) hx hb dX6_billOf_139 (by decide) ?_
      refine lv_isub hx hb dX6_billOf_141 ?_
      refine r_top (v := 5) (by rw [c8]; decide) ?_
      refine r_callS S hK hP (c_X6_of l G (mP G a u) (gA 8 a) p1.toNatClampNeg 5 trivial trivial ) (r_cs S k_221 k_219 k_220 k_5 q_X6_of ⟨Nat.le_of_ble_eq_true rfl, Nat.le_of_ble_eq_true rfl⟩ rfl rfl) rfl hl.1 rfl (Nat.le_of_ble_eq_true rfl) dX6_billOf_142 ⟨Nat.zero_le _, Nat.zero_le _⟩ hS (fun _ h => h) (fun H locs hP _ _ hS => ?_)
      have hP : mP G a u H := hP
      refine r_top (v := nI (233 + 12 * p1.toNatClampNeg + 5)) rfl ?_
      refine g_aldN S hK hP (i := 1) (by omega) mC1 (k := 233 + 12 * p1.toNatClampNeg + 5) (by omega) (by decide) (v := u 1 (233 + 12 * p1.toNatClampNeg + 5)) (rfl) dX6_billOf_145 ?_
      exact e_int S hr hlk rfl hK hS hP (show v_X6_billOf u p1 p2 = u 1 (233 + 12 * p1.toNatClampNeg + 5) from (if_neg c1).trans ((if_neg c2).trans ((if_neg c3).trans ((if_neg c4).trans ((if_neg c5).trans ((if_neg c6).trans ((if_neg c7).trans ((if_pos c8).trans rfl)))))))).symm dX6_billOf_146
    refine (Classical.em (p2 = 7)).elim (fun c9 => ?_) (fun c9 => ?_)
    · refine lv_tableIn (tgt := 131)  hx hb dX6_billOf_11 (by rw [c9]; decide) (by rw [c9]; decide) (by rw [c9]; rfl) (by decide) ?_
      refine lv_aload_n hx hb dX6_billOf_131 rfl (lv_at hl 0 rfl) ?_
      refine g_get S hK hP (i := 0) (by omega) mC0 rfl inlX6 0 (by decide) k_67 (v := .ref (a 1)) rfl dX6_billOf_132 ?_
      refine lv_iload_n hx hb dX6_billOf_135 rfl (lv_at hl 1 rfl) ?_
      have hq_p1 : p1.toNatClampNeg < 40 := vp_lt ((vp_X6_isBill hm c1) : vp_in p1 40)
      refine r_top (v := nI p1.toNatClampNeg) (vp_nI ((vp_X6_isBill hm c1) : vp_in p1 40)) ?_
      refine lv_iconst (v := 5) hx hb dX6_billOf_136 (by decide) ?_
      refine lv_iload_n hx hb dX6_billOf_137 rfl (lv_at hl 2 rfl) ?_
      refine lv_iadd hx hb dX6_billOf_138 ?_
      refine lv_bipush (v := 6) hx hb dX6_billOf_139 (by decide) ?_
      refine lv_isub hx hb dX6_billOf_141 ?_
      refine r_top (v := 6) (by rw [c9]; decide) ?_
      refine r_callS S hK hP (c_X6_of l G (mP G a u) (gA 8 a) p1.toNatClampNeg 6 trivial trivial ) (r_cs S k_221 k_219 k_220 k_5 q_X6_of ⟨Nat.le_of_ble_eq_true rfl, Nat.le_of_ble_eq_true rfl⟩ rfl rfl) rfl hl.1 rfl (Nat.le_of_ble_eq_true rfl) dX6_billOf_142 ⟨Nat.zero_le _, Nat.zero_le _⟩ hS (fun _ h => h) (fun H locs hP _ _ hS => ?_)
      have hP : mP G a u H := hP
      refine r_top (v := nI (233 + 12 * p1.toNatClampNeg + 6)) rfl ?_
      refine g_aldN S hK hP (i := 1) (by omega) mC1 (k := 233 + 12 * p1.toNatClampNeg + 6) (by omega) (by decide) (v := u 1 (233 + 12 * p1.toNatClampNeg + 6)) (rfl) dX6_billOf_145 ?_
      exact e_int S hr hlk rfl hK hS hP (show v_X6_billOf u p1 p2 = u 1 (233 + 12 * p1.toNatClampNeg + 6) from (if_neg c1).trans ((if_neg c2).trans ((if_neg c3).trans ((if_neg c4).trans ((if_neg c5).trans ((if_neg c6).trans ((if_neg c7).trans ((if_neg c8).trans ((if_pos c9).trans rfl))))))))).symm dX6_billOf_146
    refine (Classical.em (p2 = 8)).elim (fun c10 => ?_) (fun c10 => ?_)
    · refine lv_tableIn (tgt := 131)  hx hb dX6_billOf_11 (by rw [c10]; decide) (by rw [c10]; decide) (by rw [c10]; rfl) (by decide) ?_
      refine lv_aload_n hx hb dX6_billOf_131 rfl (lv_at hl 0 rfl) ?_
      refine g_get S hK hP (i := 0) (by omega) mC0 rfl inlX6 0 (by decide) k_67 (v := .ref (a 1)) rfl dX6_billOf_132 ?_
      refine lv_iload_n hx hb dX6_billOf_135 rfl (lv_at hl 1 rfl) ?_
      have hq_p1 : p1.toNatClampNeg < 40 := vp_lt ((vp_X6_isBill hm c1) : vp_in p1 40)
      refine r_top (v := nI p1.toNatClampNeg) (vp_nI ((vp_X6_isBill hm c1) : vp_in p1 40)) ?_
      refine lv_iconst (v := 5) hx hb dX6_billOf_136 (by decide) ?_
      refine lv_iload_n hx hb dX6_billOf_137 rfl (lv_at hl 2 rfl) ?_
      refine lv_iadd hx hb dX6_billOf_138 ?_
      refine lv_bipush (v := 6) hx hb dX6_billOf_139 (by decide) ?_
      refine lv_isub hx hb dX6_billOf_141 ?_
      refine r_top (v := 7) (by rw [c10]; decide) ?_
      refine r_callS S hK hP (c_X6_of l G (mP G a u) (gA 8 a) p1.toNatClampNeg 7 trivial trivial ) (r_cs S k_221 k_219 k_220 k_5 q_X6_of ⟨Nat.le_of_ble_eq_true rfl, Nat.le_of_ble_eq_true rfl⟩ rfl rfl) rfl hl.1 rfl (Nat.le_of_ble_eq_true rfl) dX6_billOf_142 ⟨Nat.zero_le _, Nat.zero_le _⟩ hS (fun _ h => h) (fun H locs hP _ _ hS => ?_)
      have hP : mP G a u H := hP
      refine r_top (v := nI (233 + 12 * p1.toNatClampNeg + 7)) rfl ?_
      refine g_aldN S hK hP (i := 1) (by omega) mC1 (k := 233 + 12 * p1.toNatClampNeg + 7) (by omega) (by decide) (v := u 1 (233 + 12 * p1.toNatClampNeg + 7)) (rfl) dX6_billOf_145 ?_
      exact e_int S hr hlk rfl hK hS hP (show v_X6_billOf u p1 p2 = u 1 (233 + 12 * p1.toNatClampNeg + 7) from (if_neg c1).trans ((if_neg c2).trans ((if_neg c3).trans ((if_neg c4).trans ((if_neg c5).trans ((if_neg c6).trans ((if_neg c7).trans ((if_neg c8).trans ((if_neg c9).trans ((if_pos c10).trans rfl)))))))))).symm dX6_billOf_146
    refine (Classical.em (p2 = 9)).elim (fun c11 => ?_) (fun c11 => ?_)
    · refine lv_tableIn (tgt := 131)  hx hb dX6_billOf_11 (by rw [c11]; decide) (by rw [c11]; decide) (by rw [c11]; rfl) (by decide) ?_
      refine lv_aload_n hx hb dX6_billOf_131 rfl (lv_at hl 0 rfl) ?_
      refine g_get S hK hP (i := 0) (by omega) mC0 rfl inlX6 0 (by decide) k_67 (v := .ref (a 1)) rfl dX6_billOf_132 ?_
      refine lv_iload_n hx hb dX6_billOf_135 rfl (lv_at hl 1 rfl) ?_
      have hq_p1 : p1.toNatClampNeg < 40 := vp_lt ((vp_X6_isBill hm c1) : vp_in p1 40)
      refine r_top (v := nI p1.toNatClampNeg) (vp_nI ((vp_X6_isBill hm c1) : vp_in p1 40)) ?_
      refine lv_iconst (v := 5) hx hb dX6_billOf_136 (by decide) ?_
      refine lv_iload_n hx hb dX6_billOf_137 rfl (lv_at hl 2 rfl) ?_
      refine lv_iadd hx hb dX6_billOf_138 ?_
      refine lv_bipush (v := 6) hx hb dX6_billOf_139 (by decide) ?_
      refine lv_isub hx hb dX6_billOf_141 ?_
      refine r_top (v := 8) (by rw [c11]; decide) ?_
      refine r_callS S hK hP (c_X6_of l G (mP G a u) (gA 8 a) p1.toNatClampNeg 8 trivial trivial ) (r_cs S k_221 k_219 k_220 k_5 q_X6_of ⟨Nat.le_of_ble_eq_true rfl, Nat.le_of_ble_eq_true rfl⟩ rfl rfl) rfl hl.1 rfl (Nat.le_of_ble_eq_true rfl) dX6_billOf_142 ⟨Nat.zero_le _, Nat.zero_le _⟩ hS (fun _ h => h) (fun H locs hP _ _ hS => ?_)
      have hP : mP G a u H := hP
      refine r_top (v := nI (233 + 12 * p1.toNatClampNeg + 8)) rfl ?_
      refine g_aldN S hK hP (i := 1) (by omega) mC1 (k := 233 + 12 * p1.toNatClampNeg + 8) (by omega) (by decide) (v := u 1 (233 + 12 * p1.toNatClampNeg + 8)) (rfl) dX6_billOf_145 ?_
      exact e_int S hr hlk rfl hK hS hP (show v_X6_billOf u p1 p2 = u 1 (233 + 12 * p1.toNatClampNeg + 8) from (if_neg c1).trans ((if_neg c2).trans ((if_neg c3).trans ((if_neg c4).trans ((if_neg c5).trans ((if_neg c6).trans ((if_neg c7).trans ((if_neg c8).trans ((if_neg c9).trans ((if_neg c10).trans ((if_pos c11).trans rfl))))))))))).symm dX6_billOf_146
    refine (Classical.em (p2 = 10)).elim (fun c12 => ?_) (fun c12 => ?_)
    · refine lv_tableIn (tgt := 147)  hx hb dX6_billOf_11 (by rw [c12]; decide) (by rw [c12]; decide) (by rw [c12]; rfl) (by decide) ?_
      refine lv_aload_n hx hb dX6_billOf_147 rfl (lv_at hl 0 rfl) ?_
      refine lv_iload_n hx hb dX6_billOf_148 rfl (lv_at hl 1 rfl) ?_
      have hq_p1 : p1.toNatClampNeg < 40 := vp_lt ((vp_X6_isBill hm c1) : vp_in p1 40)
      refine r_top (v := nI p1.toNatClampNeg) (vp_nI ((vp_X6_isBill hm c1) : vp_in p1 40)) ?_
      refine r_callI S hK hP (c_X6_owedOn l G a hI u p1.toNatClampNeg (by omega) ) (r_cw S k_245 k_242 k_243 k_244 k_5 q_X6_owedOn ⟨Nat.le_of_ble_eq_true rfl, Nat.le_of_ble_eq_true rfl⟩ rfl rfl) (g_recv hK hP (i := 0) (by omega) mC0 rfl) rfl hl.1 rfl (Nat.le_of_ble_eq_true rfl) dX6_billOf_149 ⟨Nat.zero_le _, Nat.zero_le _⟩ hS (fun _ h => h) (fun H locs hP _ _ hS => ?_)
      have hP : mP G a u H := hP
      exact e_int S hr hlk rfl hK hS hP (show v_X6_billOf u p1 p2 = v_X6_owedOn u p1.toNatClampNeg from (if_neg c1).trans ((if_neg c2).trans ((if_neg c3).trans ((if_neg c4).trans ((if_neg c5).trans ((if_neg c6).trans ((if_neg c7).trans ((if_neg c8).trans ((if_neg c9).trans ((if_neg c10).trans ((if_neg c11).trans ((if_pos c12).trans rfl)))))))))))).symm dX6_billOf_152
    refine (Classical.em (p2 = 11)).elim (fun c13 => ?_) (fun c13 => ?_)
    · refine lv_tableIn (tgt := 153)  hx hb dX6_billOf_11 (by rw [c13]; decide) (by rw [c13]; decide) (by rw [c13]; rfl) (by decide) ?_
      refine lv_aload_n hx hb dX6_billOf_153 rfl (lv_at hl 0 rfl) ?_
      refine g_get S hK hP (i := 0) (by omega) mC0 rfl inlX6 0 (by decide) k_67 (v := .ref (a 1)) rfl dX6_billOf_154 ?_
      refine lv_iload_n hx hb dX6_billOf_157 rfl (lv_at hl 1 rfl) ?_
      have hq_p1 : p1.toNatClampNeg < 40 := vp_lt ((vp_X6_isBill hm c1) : vp_in p1 40)
      refine r_top (v := nI p1.toNatClampNeg) (vp_nI ((vp_X6_isBill hm c1) : vp_in p1 40)) ?_
      refine lv_bipush (v := 9) hx hb dX6_billOf_158 (by decide) ?_
      refine r_callS S hK hP (c_X6_of l G (mP G a u) (gA 8 a) p1.toNatClampNeg 9 trivial trivial ) (r_cs S k_221 k_219 k_220 k_5 q_X6_of ⟨Nat.le_of_ble_eq_true rfl, Nat.le_of_ble_eq_true rfl⟩ rfl rfl) rfl hl.1 rfl (Nat.le_of_ble_eq_true rfl) dX6_billOf_160 ⟨Nat.zero_le _, Nat.zero_le _⟩ hS (fun _ h => h) (fun H locs hP _ _ hS => ?_)
      have hP : mP G a u H := hP
      refine r_top (v := nI (233 + 12 * p1.toNatClampNeg + 9)) rfl ?_
      refine g_aldN S hK hP (i := 1) (by omega) mC1 (k := 233 + 12 * p1.toNatClampNeg + 9) (by omega) (by decide) (v := u 1 (233 + 12 * p1.toNatClampNeg + 9)) (rfl) dX6_billOf_163 ?_
      exact e_int S hr hlk rfl hK hS hP (show v_X6_billOf u p1 p2 = u 1 (233 + 12 * p1.toNatClampNeg + 9) from (if_neg c1).trans ((if_neg c2).trans ((if_neg c3).trans ((if_neg c4).trans ((if_neg c5).trans ((if_neg c6).trans ((if_neg c7).trans ((if_neg c8).trans ((if_neg c9).trans ((if_neg c10).trans ((if_neg c11).trans ((if_neg c12).trans ((if_pos c13).trans rfl))))))))))))).symm dX6_billOf_164
    refine (Classical.em (p2 = 12)).elim (fun c14 => ?_) (fun c14 => ?_)
    · refine lv_tableIn (tgt := 165)  hx hb dX6_billOf_11 (by rw [c14]; decide) (by rw [c14]; decide) (by rw [c14]; rfl) (by decide) ?_
      refine lv_aload_n hx hb dX6_billOf_165 rfl (lv_at hl 0 rfl) ?_
      refine g_get S hK hP (i := 0) (by omega) mC0 rfl inlX6 0 (by decide) k_67 (v := .ref (a 1)) rfl dX6_billOf_166 ?_
      refine lv_iload_n hx hb dX6_billOf_169 rfl (lv_at hl 1 rfl) ?_
      have hq_p1 : p1.toNatClampNeg < 40 := vp_lt ((vp_X6_isBill hm c1) : vp_in p1 40)
      refine r_top (v := nI p1.toNatClampNeg) (vp_nI ((vp_X6_isBill hm c1) : vp_in p1 40)) ?_
      refine lv_bipush (v := 11) hx hb dX6_billOf_170 (by decide) ?_
      refine r_callS S hK hP (c_X6_of l G (mP G a u) (gA 8 a) p1.toNatClampNeg 11 trivial trivial ) (r_cs S k_221 k_219 k_220 k_5 q_X6_of ⟨Nat.le_of_ble_eq_true rfl, Nat.le_of_ble_eq_true rfl⟩ rfl rfl) rfl hl.1 rfl (Nat.le_of_ble_eq_true rfl) dX6_billOf_172 ⟨Nat.zero_le _, Nat.zero_le _⟩ hS (fun _ h => h) (fun H locs hP _ _ hS => ?_)
      have hP : mP G a u H := hP
      refine r_top (v := nI (233 + 12 * p1.toNatClampNeg + 11)) rfl ?_
      refine g_aldN S hK hP (i := 1) (by omega) mC1 (k := 233 + 12 * p1.toNatClampNeg + 11) (by omega) (by decide) (v := u 1 (233 + 12 * p1.toNatClampNeg + 11)) (rfl) dX6_billOf_175 ?_
      exact e_int S hr hlk rfl hK hS hP (show v_X6_billOf u p1 p2 = u 1 (233 + 12 * p1.toNatClampNeg + 11) from (if_neg c1).trans ((if_neg c2).trans ((if_neg c3).trans ((if_neg c4).trans ((if_neg c5).trans ((if_neg c6).trans ((if_neg c7).trans ((if_neg c8).trans ((if_neg c9).trans ((if_neg c10).trans ((if_neg c11).trans ((if_neg c12).trans ((if_neg c13).trans ((if_pos c14).trans rfl)))))))))))))).symm dX6_billOf_176
    refine (Classical.em (p2 = 13)).elim (fun c15 => ?_) (fun c15 => ?_)
    · refine lv_tableIn (tgt := 177)  hx hb dX6_billOf_11 (by rw [c15]; decide) (by rw [c15]; decide) (by rw [c15]; rfl) (by decide) ?_
      refine lv_aload_n hx hb dX6_billOf_177 rfl (lv_at hl 0 rfl) ?_
      refine lv_iload_n hx hb dX6_billOf_178 rfl (lv_at hl 1 rfl) ?_
      have hq_p1 : p1.toNatClampNeg < 40 := vp_lt ((vp_X6_isBill hm c1) : vp_in p1 40)
      refine r_top (v := nI p1.toNatClampNeg) (vp_nI ((vp_X6_isBill hm c1) : vp_in p1 40)) ?_
      refine r_callI S hK hP (c_X6_isOverdue l G a hI u p1.toNatClampNeg (by omega) ) (r_cw S k_368 k_365 k_366 k_367 k_5 q_X6_isOverdue ⟨Nat.le_of_ble_eq_true rfl, Nat.le_of_ble_eq_true rfl⟩ rfl rfl) (g_recv hK hP (i := 0) (by omega) mC0 rfl) rfl hl.1 rfl (Nat.le_of_ble_eq_true rfl) dX6_billOf_179 ⟨Nat.zero_le _, Nat.zero_le _⟩ hS (fun _ h => h) (fun H locs hP _ _ hS => ?_)
      have hP : mP G a u H := hP
      refine lv_if_eq (tgt := 189) hx hb dX6_billOf_182 (by decide) (fun c16 => ?_) (fun c16 => ?_)
      · skip
        refine lv_iconst (v := 0) hx hb dX6_billOf_189 (by decide) ?_
        exact e_int S hr hlk rfl hK hS hP (show v_X6_billOf u p1 p2 = (0 : Int32) from (if_neg c1).trans ((if_neg c2).trans ((if_neg c3).trans ((if_neg c4).trans ((if_neg c5).trans ((if_neg c6).trans ((if_neg c7).trans ((if_neg c8).trans ((if_neg c9).trans ((if_neg c10).trans ((if_neg c11).trans ((if_neg c12).trans ((if_neg c13).trans ((if_neg c14).trans ((if_pos c15).trans ((if_pos c16).trans rfl)))))))))))))))).symm dX6_billOf_190
      · skip
        refine lv_iconst (v := 1) hx hb dX6_billOf_185 (by decide) ?_
        refine lv_goto (tgt := 190) hx hb dX6_billOf_186 (by decide) ?_
        exact e_int S hr hlk rfl hK hS hP (show v_X6_billOf u p1 p2 = (1 : Int32) from (if_neg c1).trans ((if_neg c2).trans ((if_neg c3).trans ((if_neg c4).trans ((if_neg c5).trans ((if_neg c6).trans ((if_neg c7).trans ((if_neg c8).trans ((if_neg c9).trans ((if_neg c10).trans ((if_neg c11).trans ((if_neg c12).trans ((if_neg c13).trans ((if_neg c14).trans ((if_pos c15).trans ((if_neg c16).trans rfl)))))))))))))))).symm dX6_billOf_190
    refine lv_tableOut (tgt := 191) hx hb dX6_billOf_11 (by have h0 := lv_neT c2 (a := 0) (by decide); have h1 := lv_neT c3 (a := 1) (by decide); have h2 := lv_neT c4 (a := 2) (by decide); have h3 := lv_neT c5 (a := 3) (by decide); have h4 := lv_neT c6 (a := 4) (by decide); have h5 := lv_neT c7 (a := 5) (by decide); have h6 := lv_neT c8 (a := 6) (by decide); have h7 := lv_neT c9 (a := 7) (by decide); have h8 := lv_neT c10 (a := 8) (by decide); have h9 := lv_neT c11 (a := 9) (by decide); have h10 := lv_neT c12 (a := 10) (by decide); have h11 := lv_neT c13 (a := 11) (by decide); have h12 := lv_neT c14 (a := 12) (by decide); have h13 := lv_neT c15 (a := 13) (by decide); omega) (by decide) ?_
    refine lv_bipush (v := -2) hx hb dX6_billOf_191 (by decide) ?_
    exact e_int S hr hlk rfl hK hS hP (show v_X6_billOf u p1 p2 = (-2 : Int32) from (if_neg c1).trans ((if_neg c2).trans ((if_neg c3).trans ((if_neg c4).trans ((if_neg c5).trans ((if_neg c6).trans ((if_neg c7).trans ((if_neg c8).trans ((if_neg c9).trans ((if_neg c10).trans ((if_neg c11).trans ((if_neg c12).trans ((if_neg c13).trans ((if_neg c14).trans ((if_neg c15).trans rfl))))))))))))))).symm dX6_billOf_193
  · skip
    refine lv_iconst (v := -1) hx hb dX6_billOf_8 (by decide) ?_
    exact e_int S hr hlk rfl hK hS hP (show v_X6_billOf u p1 p2 = (-1 : Int32) from (if_pos c1).trans rfl).symm dX6_billOf_9

def v_X6_customer (u : Nat → Nat → Int32) (p1 : Int32) (p2 : Int32) : Int32 := if v_X6_isCustomer p1 = 0 then (-1 : Int32) else if p2 = 0 then (v_X6_billsOf u p1 (-5 : Int32)) else if p2 = 1 then (v_X6_billsOf u p1 (0 : Int32)) else if p2 = 2 then (v_X6_owedBy u p1 (0 : Int32)) else if p2 = 3 then (u 1 (9 + p1.toNatClampNeg)) else if p2 = 4 then ((u 1 (17 + p1.toNatClampNeg)) - (u 1 (225 + p1.toNatClampNeg))) else if p2 = 5 then (v_X6_owedBy u p1 (2 : Int32)) else if p2 = 6 then (v_X6_oldestOpen u p1) else (-2 : Int32)
theorem q_X6_customer : yX6_customer.cls ≠ "java/lang/invoke/MethodHandle" ∧ yX6_customer.cls ≠ "java/lang/invoke/VarHandle" ∧ (parseMethodDescriptor yX6_customer.desc).map (fun d => d.parameters.length) = some 2 := ⟨by decide, by decide, by decide +kernel⟩
set_option maxHeartbeats 4000000 in
set_option maxRecDepth 100000 in
theorem c_X6_customer (l : Launch) (G : kG) (a : Nat → Nat) (hI : gI 8 a) (u : Nat → Nat → Int32) (p1 : Int32) (p2 : Int32) (hm : SI (u 1)) : Met l yX6_customer (Cond.code yX6_customer cX6_customer 3 (some .int) :: BIG) (rmK 5) (pcG G (mP G a u) [.ref (a 0), .int p1, .int p2]) (qcI G (gA 8 a) (mP G a u) (v_X6_customer u p1 p2)) 0 0 (gA 8 a) := by
  refine m_start (by decide) (Nat.le_of_ble_eq_true rfl) ?_
  intro p e s m args below meth c S hr hlk hnm hP hK ls hl
  have hx := S.1
  have hb := S.2.1
  have hown := S.2.2.2.1
  have hS : va_S (gA 8 a) s.heap s.heap [] := va_S.rf
  have hl : lv_has ls 3 [(0, .ref (a 0)), (1, .int p1), (2, .int p2)] := hl
  refine lv_iload_n hx hb dX6_customer_0 rfl (lv_at hl 1 rfl) ?_
  refine r_callS S hK hP (c_X6_isCustomer l G (mP G a u) (gA 8 a) _ ) (r_cs S k_195 k_193 k_194 k_5 q_X6_isCustomer ⟨Nat.le_of_ble_eq_true rfl, Nat.le_of_ble_eq_true rfl⟩ rfl rfl) rfl hl.1 rfl (Nat.le_of_ble_eq_true rfl) dX6_customer_1 ⟨Nat.zero_le _, Nat.zero_le _⟩ hS (fun _ h => h) (fun H locs hP _ _ hS => ?_)
  have hP : mP G a u H := hP
  refine lv_if_ne (tgt := 9) hx hb dX6_customer_4 (by decide) (fun c1 => ?_) (fun c1 => ?_)
  · skip
    refine lv_iload_n hx hb dX6_customer_9 rfl (lv_at hl 2 rfl) ?_
    refine (Classical.em (p2 = 0)).elim (fun c2 => ?_) (fun c2 => ?_)
    · refine lv_tableIn (tgt := 52)  hx hb dX6_customer_10 (by rw [c2]; decide) (by rw [c2]; decide) (by rw [c2]; rfl) (by decide) ?_
      refine lv_aload_n hx hb dX6_customer_52 rfl (lv_at hl 0 rfl) ?_
      refine lv_iload_n hx hb dX6_customer_53 rfl (lv_at hl 1 rfl) ?_
      refine lv_bipush (v := -5) hx hb dX6_customer_54 (by decide) ?_
      refine r_callI S hK hP (c_X6_billsOf l G a hI u _ _ hm) (r_cw S k_712 k_709 k_710 k_711 k_5 q_X6_billsOf ⟨Nat.le_of_ble_eq_true rfl, Nat.le_of_ble_eq_true rfl⟩ rfl rfl) (g_recv hK hP (i := 0) (by omega) mC0 rfl) rfl hl.1 rfl (Nat.le_of_ble_eq_true rfl) dX6_customer_56 ⟨Nat.zero_le _, Nat.zero_le _⟩ hS (fun _ h => h) (fun H locs hP _ _ hS => ?_)
      have hP : mP G a u H := hP
      exact e_int S hr hlk rfl hK hS hP (show v_X6_customer u p1 p2 = v_X6_billsOf u p1 (-5 : Int32) from (if_neg c1).trans ((if_pos c2).trans rfl)).symm dX6_customer_59
    refine (Classical.em (p2 = 1)).elim (fun c3 => ?_) (fun c3 => ?_)
    · refine lv_tableIn (tgt := 60)  hx hb dX6_customer_10 (by rw [c3]; decide) (by rw [c3]; decide) (by rw [c3]; rfl) (by decide) ?_
      refine lv_aload_n hx hb dX6_customer_60 rfl (lv_at hl 0 rfl) ?_
      refine lv_iload_n hx hb dX6_customer_61 rfl (lv_at hl 1 rfl) ?_
      refine lv_iconst (v := 0) hx hb dX6_customer_62 (by decide) ?_
      refine r_callI S hK hP (c_X6_billsOf l G a hI u _ _ hm) (r_cw S k_712 k_709 k_710 k_711 k_5 q_X6_billsOf ⟨Nat.le_of_ble_eq_true rfl, Nat.le_of_ble_eq_true rfl⟩ rfl rfl) (g_recv hK hP (i := 0) (by omega) mC0 rfl) rfl hl.1 rfl (Nat.le_of_ble_eq_true rfl) dX6_customer_63 ⟨Nat.zero_le _, Nat.zero_le _⟩ hS (fun _ h => h) (fun H locs hP _ _ hS => ?_)
      have hP : mP G a u H := hP
      exact e_int S hr hlk rfl hK hS hP (show v_X6_customer u p1 p2 = v_X6_billsOf u p1 (0 : Int32) from (if_neg c1).trans ((if_neg c2).trans ((if_pos c3).trans rfl))).symm dX6_customer_66
    refine (Classical.em (p2 = 2)).elim (fun c4 => ?_) (fun c4 => ?_)
    · refine lv_tableIn (tgt := 67)  hx hb dX6_customer_10 (by rw [c4]; decide) (by rw [c4]; decide) (by rw [c4]; rfl) (by decide) ?_
      refine lv_aload_n hx hb dX6_customer_67 rfl (lv_at hl 0 rfl) ?_
      refine lv_iload_n hx hb dX6_customer_68 rfl (lv_at hl 1 rfl) ?_
      refine lv_iconst (v := 0) hx hb dX6_customer_69 (by decide) ?_
      refine r_callI S hK hP (c_X6_owedBy l G a hI u _ _ hm) (r_cw S k_716 k_713 k_714 k_715 k_5 q_X6_owedBy ⟨Nat.le_of_ble_eq_true rfl, Nat.le_of_ble_eq_true rfl⟩ rfl rfl) (g_recv hK hP (i := 0) (by omega) mC0 rfl) rfl hl.1 rfl (Nat.le_of_ble_eq_true rfl) dX6_customer_70 ⟨Nat.zero_le _, Nat.zero_le _⟩ hS (fun _ h => h) (fun H locs hP _ _ hS => ?_)
      have hP : mP G a u H := hP
      exact e_int S hr hlk rfl hK hS hP (show v_X6_customer u p1 p2 = v_X6_owedBy u p1 (0 : Int32) from (if_neg c1).trans ((if_neg c2).trans ((if_neg c3).trans ((if_pos c4).trans rfl)))).symm dX6_customer_73
    refine (Classical.em (p2 = 3)).elim (fun c5 => ?_) (fun c5 => ?_)
    · refine lv_tableIn (tgt := 74)  hx hb dX6_customer_10 (by rw [c5]; decide) (by rw [c5]; decide) (by rw [c5]; rfl) (by decide) ?_
      refine lv_aload_n hx hb dX6_customer_74 rfl (lv_at hl 0 rfl) ?_
      refine g_get S hK hP (i := 0) (by omega) mC0 rfl inlX6 0 (by decide) k_67 (v := .ref (a 1)) rfl dX6_customer_75 ?_
      refine lv_bipush (v := 9) hx hb dX6_customer_78 (by decide) ?_
      refine lv_iload_n hx hb dX6_customer_80 rfl (lv_at hl 1 rfl) ?_
      have hq_p1 : p1.toNatClampNeg < 8 := vp_lt ((vp_X6_isCustomer c1 (by decide)) : vp_in p1 8)
      refine r_top (v := nI p1.toNatClampNeg) (vp_nI ((vp_X6_isCustomer c1 (by decide)) : vp_in p1 8)) ?_
      refine lv_iadd hx hb dX6_customer_81 ?_
      refine r_top (v := nI (9 + p1.toNatClampNeg)) (nI_add 9 p1.toNatClampNeg) ?_
      refine g_aldN S hK hP (i := 1) (by omega) mC1 (k := 9 + p1.toNatClampNeg) (by omega) (by decide) (v := u 1 (9 + p1.toNatClampNeg)) (rfl) dX6_customer_82 ?_
      exact e_int S hr hlk rfl hK hS hP (show v_X6_customer u p1 p2 = u 1 (9 + p1.toNatClampNeg) from (if_neg c1).trans ((if_neg c2).trans ((if_neg c3).trans ((if_neg c4).trans ((if_pos c5).trans rfl))))).symm dX6_customer_83
    refine (Classical.em (p2 = 4)).elim (fun c6 => ?_) (fun c6 => ?_)
    · refine lv_tableIn (tgt := 84)  hx hb dX6_customer_10 (by rw [c6]; decide) (by rw [c6]; decide) (by rw [c6]; rfl) (by decide) ?_
      refine lv_aload_n hx hb dX6_customer_84 rfl (lv_at hl 0 rfl) ?_
      refine g_get S hK hP (i := 0) (by omega) mC0 rfl inlX6 0 (by decide) k_67 (v := .ref (a 1)) rfl dX6_customer_85 ?_
      refine lv_bipush (v := 17) hx hb dX6_customer_88 (by decide) ?_
      refine lv_iload_n hx hb dX6_customer_90 rfl (lv_at hl 1 rfl) ?_
      have hq_p1 : p1.toNatClampNeg < 8 := vp_lt ((vp_X6_isCustomer c1 (by decide)) : vp_in p1 8)
      refine r_top (v := nI p1.toNatClampNeg) (vp_nI ((vp_X6_isCustomer c1 (by decide)) : vp_in p1 8)) ?_
      refine lv_iadd hx hb dX6_customer_91 ?_
      refine r_top (v := nI (17 + p1.toNatClampNeg)) (nI_add 17 p1.toNatClampNeg) ?_
      refine g_aldN S hK hP (i := 1) (by omega) mC1 (k := 17 + p1.toNatClampNeg) (by omega) (by decide) (v := u 1 (17 + p1.toNatClampNeg)) (rfl) dX6_customer_92 ?_
      refine lv_aload_n hx hb dX6_customer_93 rfl (lv_at hl 0 rfl) ?_
      refine g_get S hK hP (i := 0) (by omega) mC0 rfl inlX6 0 (by decide) k_67 (v := .ref (a 1)) rfl dX6_customer_94 ?_
      refine lv_sipush (v := 225) hx hb dX6_customer_97 (by decide) ?_
      refine lv_iload_n hx hb dX6_customer_100 rfl (lv_at hl 1 rfl) ?_
      have hq_p1 : p1.toNatClampNeg < 8 := vp_lt ((vp_X6_isCustomer c1 (by decide)) : vp_in p1 8)
      refine r_top (v := nI p1.toNatClampNeg) (vp_nI ((vp_X6_isCustomer c1 (by decide)) : vp_in p1 8)) ?_
      refine lv_iadd hx hb dX6_customer_101 ?_
      refine r_top (v := nI (225 + p1.toNatClampNeg)) (nI_add 225 p1.toNatClampNeg) ?_
      refine g_aldN S hK hP (i := 1) (by omega) mC1 (k := 225 + p1.toNatClampNeg) (by omega) (by decide) (v := u 1 (225 + p1.toNatClampNeg)) (rfl) dX6_customer_102 ?_
      refine lv_isub hx hb dX6_customer_103 ?_
      exact e_int S hr hlk rfl hK hS hP (show v_X6_customer u p1 p2 = (u 1 (17 + p1.toNatClampNeg)) - (u 1 (225 + p1.toNatClampNeg)) from (if_neg c1).trans ((if_neg c2).trans ((if_neg c3).trans ((if_neg c4).trans ((if_neg c5).trans ((if_pos c6).trans rfl)))))).symm dX6_customer_104
    refine (Classical.em (p2 = 5)).elim (fun c7 => ?_) (fun c7 => ?_)
    · refine lv_tableIn (tgt := 105)  hx hb dX6_customer_10 (by rw [c7]; decide) (by rw [c7]; decide) (by rw [c7]; rfl) (by decide) ?_
      refine lv_aload_n hx hb dX6_customer_105 rfl (lv_at hl 0 rfl) ?_
      refine lv_iload_n hx hb dX6_customer_106 rfl (lv_at hl 1 rfl) ?_
      refine lv_iconst (v := 2) hx hb dX6_customer_107 (by decide) ?_
      refine r_callI S hK hP (c_X6_owedBy l G a hI u _ _ hm) (r_cw S k_716 k_713 k_714 k_715 k_5 q_X6_owedBy ⟨Nat.le_of_ble_eq_true rfl, Nat.le_of_ble_eq_true rfl⟩ rfl rfl) (g_recv hK hP (i := 0) (by omega) mC0 rfl) rfl hl.1 rfl (Nat.le_of_ble_eq_true rfl) dX6_customer_108 ⟨Nat.zero_le _, Nat.zero_le _⟩ hS (fun _ h => h) (fun H locs hP _ _ hS => ?_)
      have hP : mP G a u H := hP
      exact e_int S hr hlk rfl hK hS hP (show v_X6_customer u p1 p2 = v_X6_owedBy u p1 (2 : Int32) from (if_neg c1).trans ((if_neg c2).trans ((if_neg c3).trans ((if_neg c4).trans ((if_neg c5).trans ((if_neg c6).trans ((if_pos c7).trans rfl))))))).symm dX6_customer_111
    refine (Classical.em (p2 = 6)).elim (fun c8 => ?_) (fun c8 => ?_)
    · refine lv_tableIn (tgt := 112)  hx hb dX6_customer_10 (by rw [c8]; decide) (by rw [c8]; decide) (by rw [c8]; rfl) (by decide) ?_
      refine lv_aload_n hx hb dX6_customer_112 rfl (lv_at hl 0 rfl) ?_
      refine lv_iload_n hx hb dX6_customer_113 rfl (lv_at hl 1 rfl) ?_
      refine r_callI S hK hP (c_X6_oldestOpen l G a hI u _ hm) (r_cw S k_720 k_717 k_718 k_719 k_5 q_X6_oldestOpen ⟨Nat.le_of_ble_eq_true rfl, Nat.le_of_ble_eq_true rfl⟩ rfl rfl) (g_recv hK hP (i := 0) (by omega) mC0 rfl) rfl hl.1 rfl (Nat.le_of_ble_eq_true rfl) dX6_customer_114 ⟨Nat.zero_le _, Nat.zero_le _⟩ hS (fun _ h => h) (fun H locs hP _ _ hS => ?_)
      have hP : mP G a u H := hP
      exact e_int S hr hlk rfl hK hS hP (show v_X6_customer u p1 p2 = v_X6_oldestOpen u p1 from (if_neg c1).trans ((if_neg c2).trans ((if_neg c3).trans ((if_neg c4).trans ((if_neg c5).trans ((if_neg c6).trans ((if_neg c7).trans ((if_pos c8).trans rfl)))))))).symm dX6_customer_117
    refine lv_tableOut (tgt := 118) hx hb dX6_customer_10 (by have h0 := lv_neT c2 (a := 0) (by decide); have h1 := lv_neT c3 (a := 1) (by decide); have h2 := lv_neT c4 (a := 2) (by decide); have h3 := lv_neT c5 (a := 3) (by decide); have h4 := lv_neT c6 (a := 4) (by decide); have h5 := lv_neT c7 (a := 5) (by decide); have h6 := lv_neT c8 (a := 6) (by decide); omega) (by decide) ?_
    refine lv_bipush (v := -2) hx hb dX6_customer_118 (by decide) ?_
    exact e_int S hr hlk rfl hK hS hP (show v_X6_customer u p1 p2 = (-2 : Int32) from (if_neg c1).trans ((if_neg c2).trans ((if_neg c3).trans ((if_neg c4).trans ((if_neg c5).trans ((if_neg c6).trans ((if_neg c7).trans ((if_neg c8).trans rfl)))))))).symm dX6_customer_120
  · skip
    refine lv_iconst (v := -1) hx hb dX6_customer_7 (by decide) ?_
    exact e_int S hr hlk rfl hK hS hP (show v_X6_customer u p1 p2 = (-1 : Int32) from (if_pos c1).trans rfl).symm dX6_customer_8

def v_X6_tax (u : Nat → Nat → Int32) (p1 : Int32) (p2 : Int32) : Int32 := if v_X6_isYear p1 = 0 then (-1 : Int32) else if v_X6_in p2 (0 : Int32) (2 : Int32) = 0 then (-2 : Int32) else if (2 : Int32) ≤ p2 then (if u 1 8 ≤ p1 then (-5 : Int32) else u 1 (125 + p1.toNatClampNeg)) else v_X6_dueFor u p1.toNatClampNeg p2
theorem q_X6_tax : yX6_tax.cls ≠ "java/lang/invoke/MethodHandle" ∧ yX6_tax.cls ≠ "java/lang/invoke/VarHandle" ∧ (parseMethodDescriptor yX6_tax.desc).map (fun d => d.parameters.length) = some 2 := ⟨by decide, by decide, by decide +kernel⟩
set_option maxHeartbeats 4000000 in
set_option maxRecDepth 100000 in
theorem c_X6_tax (l : Launch) (G : kG) (a : Nat → Nat) (hI : gI 8 a) (u : Nat → Nat → Int32) (p1 : Int32) (p2 : Int32) (hm : SI (u 1)) : Met l yX6_tax (Cond.code yX6_tax cX6_tax 3 (some .int) :: BIG) (rmK 3) (pcG G (mP G a u) [.ref (a 0), .int p1, .int p2]) (qcI G (gA 8 a) (mP G a u) (v_X6_tax u p1 p2)) 0 0 (gA 8 a) := by
  refine m_start (by decide) (Nat.le_of_ble_eq_true rfl) ?_
  intro p e s m args below meth c S hr hlk hnm hP hK ls hl
  have hx := S.1
  have hb := S.2.1
  have hown := S.2.2.2.1
  have hS : va_S (gA 8 a) s.heap s.heap [] := va_S.rf
  have hl : lv_has ls 3 [(0, .ref (a 0)), (1, .int p1), (2, .int p2)] := hl
  refine lv_iload_n hx hb dX6_tax_0 rfl (lv_at hl 1 rfl) ?_
  refine r_callS S hK hP (c_X6_isYear l G (mP G a u) (gA 8 a) _ ) (r_cs S k_465 k_463 k_464 k_5 q_X6_isYear ⟨Nat.le_of_ble_eq_true rfl, Nat.le_of_ble_eq_true rfl⟩ rfl rfl) rfl hl.1 rfl (Nat.le_of_ble_eq_true rfl) dX6_tax_1 ⟨Nat.zero_le _, Nat.zero_le _⟩ hS (fun _ h => h) (fun H locs hP _ _ hS => ?_)
  have hP : mP G a u H := hP
  refine lv_if_ne (tgt := 9) hx hb dX6_tax_4 (by decide) (fun c1 => ?_) (fun c1 => ?_)
  · skip
    refine lv_iload_n hx hb dX6_tax_9 rfl (lv_at hl 2 rfl) ?_
    refine lv_iconst (v := 0) hx hb dX6_tax_10 (by decide) ?_
    refine lv_iconst (v := 2) hx hb dX6_tax_11 (by decide) ?_
    refine r_callS S hK hP (c_X6_in l G (mP G a u) (gA 8 a) _ _ _ ) (r_cs S k_198 k_196 k_197 k_5 q_X6_in ⟨Nat.le_of_ble_eq_true rfl, Nat.le_of_ble_eq_true rfl⟩ rfl rfl) rfl hl.1 rfl (Nat.le_of_ble_eq_true rfl) dX6_tax_12 ⟨Nat.zero_le _, Nat.zero_le _⟩ hS (fun _ h => h) (fun H locs hP _ _ hS => ?_)
    have hP : mP G a u H := hP
    refine lv_if_ne (tgt := 21) hx hb dX6_tax_15 (by decide) (fun c2 => ?_) (fun c2 => ?_)
    · skip
      refine lv_iload_n hx hb dX6_tax_21 rfl (lv_at hl 2 rfl) ?_
      refine lv_iconst (v := 2) hx hb dX6_tax_22 (by decide) ?_
      refine lv_icmp_ge (tgt := 35) hx hb dX6_tax_23 (by decide) (fun c3 => ?_) (fun c3 => ?_)
      · skip
        refine lv_aload_n hx hb dX6_tax_35 rfl (lv_at hl 0 rfl) ?_
        refine g_get S hK hP (i := 0) (by omega) mC0 rfl inlX6 0 (by decide) k_67 (v := .ref (a 1)) rfl dX6_tax_36 ?_
        refine lv_bipush (v := 8) hx hb dX6_tax_39 (by decide) ?_
        refine g_aldN S hK hP (i := 1) (by omega) mC1 (k := 8) (by omega) (by decide) (v := u 1 8) (rfl) dX6_tax_41 ?_
        refine lv_iload_n hx hb dX6_tax_42 rfl (lv_at hl 1 rfl) ?_
        refine lv_icmp_le (tgt := 58) hx hb dX6_tax_43 (by decide) (fun c4 => ?_) (fun c4 => ?_)
        · skip
          refine lv_bipush (v := -5) hx hb dX6_tax_58 (by decide) ?_
          exact e_int S hr hlk rfl hK hS hP (show v_X6_tax u p1 p2 = (-5 : Int32) from (if_neg c1).trans ((if_neg c2).trans ((if_pos c3).trans ((if_pos c4).trans rfl)))).symm dX6_tax_60
        · skip
          refine lv_aload_n hx hb dX6_tax_46 rfl (lv_at hl 0 rfl) ?_
          refine g_get S hK hP (i := 0) (by omega) mC0 rfl inlX6 0 (by decide) k_67 (v := .ref (a 1)) rfl dX6_tax_47 ?_
          refine lv_bipush (v := 125) hx hb dX6_tax_50 (by decide) ?_
          refine lv_iload_n hx hb dX6_tax_52 rfl (lv_at hl 1 rfl) ?_
          have hq_p1 : p1.toNatClampNeg < 100 := vp_lt ((vp_X6_isYear c1 (by decide)) : vp_in p1 100)
          refine r_top (v := nI p1.toNatClampNeg) (vp_nI ((vp_X6_isYear c1 (by decide)) : vp_in p1 100)) ?_
          refine lv_iadd hx hb dX6_tax_53 ?_
          refine r_top (v := nI (125 + p1.toNatClampNeg)) (nI_add 125 p1.toNatClampNeg) ?_
          refine g_aldN S hK hP (i := 1) (by omega) mC1 (k := 125 + p1.toNatClampNeg) (by omega) (by decide) (v := u 1 (125 + p1.toNatClampNeg)) (rfl) dX6_tax_54 ?_
          refine lv_goto (tgt := 60) hx hb dX6_tax_55 (by decide) ?_
          exact e_int S hr hlk rfl hK hS hP (show v_X6_tax u p1 p2 = u 1 (125 + p1.toNatClampNeg) from (if_neg c1).trans ((if_neg c2).trans ((if_pos c3).trans ((if_neg c4).trans rfl)))).symm dX6_tax_60
      · skip
        refine lv_aload_n hx hb dX6_tax_26 rfl (lv_at hl 0 rfl) ?_
        refine lv_iload_n hx hb dX6_tax_27 rfl (lv_at hl 1 rfl) ?_
        have hq_p1 : p1.toNatClampNeg < 100 := vp_lt ((vp_X6_isYear c1 (by decide)) : vp_in p1 100)
        refine r_top (v := nI p1.toNatClampNeg) (vp_nI ((vp_X6_isYear c1 (by decide)) : vp_in p1 100)) ?_
        refine lv_iload_n hx hb dX6_tax_28 rfl (lv_at hl 2 rfl) ?_
        refine r_callI S hK hP (c_X6_dueFor l G a hI u p1.toNatClampNeg (by omega) _ hm) (r_cw S k_469 k_466 k_467 k_468 k_5 q_X6_dueFor ⟨Nat.le_of_ble_eq_true rfl, Nat.le_of_ble_eq_true rfl⟩ rfl rfl) (g_recv hK hP (i := 0) (by omega) mC0 rfl) rfl hl.1 rfl (Nat.le_of_ble_eq_true rfl) dX6_tax_29 ⟨Nat.zero_le _, Nat.zero_le _⟩ hS (fun _ h => h) (fun H locs hP _ _ hS => ?_)
        have hP : mP G a u H := hP
        refine lv_goto (tgt := 60) hx hb dX6_tax_32 (by decide) ?_
        exact e_int S hr hlk rfl hK hS hP (show v_X6_tax u p1 p2 = v_X6_dueFor u p1.toNatClampNeg p2 from (if_neg c1).trans ((if_neg c2).trans ((if_neg c3).trans rfl))).symm dX6_tax_60
    · skip
      refine lv_bipush (v := -2) hx hb dX6_tax_18 (by decide) ?_
      exact e_int S hr hlk rfl hK hS hP (show v_X6_tax u p1 p2 = (-2 : Int32) from (if_neg c1).trans ((if_pos c2).trans rfl)).symm dX6_tax_20
  · skip
    refine lv_iconst (v := -1) hx hb dX6_tax_7 (by decide) ?_
    exact e_int S hr hlk rfl hK hS hP (show v_X6_tax u p1 p2 = (-1 : Int32) from (if_pos c1).trans rfl).symm dX6_tax_8

def v_X6_reason (u : Nat → Nat → Int32) (p1 : Int32) : Int32 := if v_X6_isBill u p1 = 0 then (-1 : Int32) else v_X6_why u p1.toNatClampNeg
theorem q_X6_reason : yX6_reason.cls ≠ "java/lang/invoke/MethodHandle" ∧ yX6_reason.cls ≠ "java/lang/invoke/VarHandle" ∧ (parseMethodDescriptor yX6_reason.desc).map (fun d => d.parameters.length) = some 1 := ⟨by decide, by decide, by decide +kernel⟩
set_option maxHeartbeats 4000000 in
set_option maxRecDepth 100000 in
theorem c_X6_reason (l : Launch) (G : kG) (a : Nat → Nat) (hI : gI 8 a) (u : Nat → Nat → Int32) (p1 : Int32) (hm : SI (u 1)) : Met l yX6_reason (Cond.code yX6_reason cX6_reason 2 (some .int) :: BIG) (rmK 4) (pcG G (mP G a u) [.ref (a 0), .int p1]) (qcI G (gA 8 a) (mP G a u) (v_X6_reason u p1)) 0 0 (gA 8 a) := by
  refine m_start (by decide) (Nat.le_of_ble_eq_true rfl) ?_
  intro p e s m args below meth c S hr hlk hnm hP hK ls hl
  have hx := S.1
  have hb := S.2.1
  have hown := S.2.2.2.1
  have hS : va_S (gA 8 a) s.heap s.heap [] := va_S.rf
  have hl : lv_has ls 2 [(0, .ref (a 0)), (1, .int p1)] := hl
  refine lv_aload_n hx hb dX6_reason_0 rfl (lv_at hl 0 rfl) ?_
  refine lv_iload_n hx hb dX6_reason_1 rfl (lv_at hl 1 rfl) ?_
  refine r_callI S hK hP (c_X6_isBill l G a hI u _ ) (r_cw S k_320 k_317 k_318 k_319 k_5 q_X6_isBill ⟨Nat.le_of_ble_eq_true rfl, Nat.le_of_ble_eq_true rfl⟩ rfl rfl) (g_recv hK hP (i := 0) (by omega) mC0 rfl) rfl hl.1 rfl (Nat.le_of_ble_eq_true rfl) dX6_reason_2 ⟨Nat.zero_le _, Nat.zero_le _⟩ hS (fun _ h => h) (fun H locs hP _ _ hS => ?_)
  have hP : mP G a u H := hP
  refine lv_if_eq (tgt := 16) hx hb dX6_reason_5 (by decide) (fun c1 => ?_) (fun c1 => ?_)
  · skip
    refine lv_iconst (v := -1) hx hb dX6_reason_16 (by decide) ?_
    exact e_int S hr hlk rfl hK hS hP (show v_X6_reason u p1 = (-1 : Int32) from (if_pos c1).trans rfl).symm dX6_reason_17
  · skip
    refine lv_aload_n hx hb dX6_reason_8 rfl (lv_at hl 0 rfl) ?_
    refine lv_iload_n hx hb dX6_reason_9 rfl (lv_at hl 1 rfl) ?_
    have hq_p1 : p1.toNatClampNeg < 40 := vp_lt ((vp_X6_isBill hm c1) : vp_in p1 40)
    refine r_top (v := nI p1.toNatClampNeg) (vp_nI ((vp_X6_isBill hm c1) : vp_in p1 40)) ?_
    refine r_callI S hK hP (c_X6_why l G a hI u p1.toNatClampNeg (by omega) ) (r_cw S k_413 k_410 k_411 k_412 k_5 q_X6_why ⟨Nat.le_of_ble_eq_true rfl, Nat.le_of_ble_eq_true rfl⟩ rfl rfl) (g_recv hK hP (i := 0) (by omega) mC0 rfl) rfl hl.1 rfl (Nat.le_of_ble_eq_true rfl) dX6_reason_10 ⟨Nat.zero_le _, Nat.zero_le _⟩ hS (fun _ h => h) (fun H locs hP _ _ hS => ?_)
    have hP : mP G a u H := hP
    refine lv_goto (tgt := 17) hx hb dX6_reason_13 (by decide) ?_
    exact e_int S hr hlk rfl hK hS hP (show v_X6_reason u p1 = v_X6_why u p1.toNatClampNeg from (if_neg c1).trans rfl).symm dX6_reason_17

def v_X6_ifPaid (u : Nat → Nat → Int32) (p1 : Int32) (p2 : Int32) (p3 : Int32) : Int32 := if v_X6_isCustomer p1 = 0 then (-1 : Int32) else if v_X6_isAmount p2 = 0 then (-2 : Int32) else if v_X6_in p3 (0 : Int32) (3 : Int32) = 0 then (-2 : Int32) else if v_X6_wouldBeTooMuch u p1.toNatClampNeg p2 = 0 then (if p3 = 0 then (v_X6_paysAll (w_X6_putAside (w_X6_wouldBeTooMuch u p1.toNatClampNeg p2)) p1.toNatClampNeg p2) else if p3 = (1 : Int32) then ((v_X6_sum (w_X6_paysAll (w_X6_putAside (w_X6_wouldBeTooMuch u p1.toNatClampNeg p2)) p1.toNatClampNeg p2) 7) - (v_X6_sum (w_X6_putAside (w_X6_wouldBeTooMuch u p1.toNatClampNeg p2)) 7)) else if p3 = (2 : Int32) then ((w_X6_paysAll (w_X6_putAside (w_X6_wouldBeTooMuch u p1.toNatClampNeg p2)) p1.toNatClampNeg p2) 1 (9 + p1.toNatClampNeg)) else v_X6_owedBy (w_X6_paysAll (w_X6_putAside (w_X6_wouldBeTooMuch u p1.toNatClampNeg p2)) p1.toNatClampNeg p2) p1 (0 : Int32)) else (-3 : Int32)
def w_X6_ifPaid (u : Nat → Nat → Int32) (p1 : Int32) (p2 : Int32) (p3 : Int32) : Nat → Nat → Int32 := if v_X6_isCustomer p1 = 0 then u else if v_X6_isAmount p2 = 0 then u else if v_X6_in p3 (0 : Int32) (3 : Int32) = 0 then u else if v_X6_wouldBeTooMuch u p1.toNatClampNeg p2 = 0 then (if p3 = 0 then (w_X6_putBack (w_X6_paysAll (w_X6_putAside (w_X6_wouldBeTooMuch u p1.toNatClampNeg p2)) p1.toNatClampNeg p2)) else if p3 = (1 : Int32) then (w_X6_putBack (w_X6_paysAll (w_X6_putAside (w_X6_wouldBeTooMuch u p1.toNatClampNeg p2)) p1.toNatClampNeg p2)) else if p3 = (2 : Int32) then (w_X6_putBack (w_X6_paysAll (w_X6_putAside (w_X6_wouldBeTooMuch u p1.toNatClampNeg p2)) p1.toNatClampNeg p2)) else w_X6_putBack (w_X6_paysAll (w_X6_putAside (w_X6_wouldBeTooMuch u p1.toNatClampNeg p2)) p1.toNatClampNeg p2)) else w_X6_wouldBeTooMuch u p1.toNatClampNeg p2
theorem q_X6_ifPaid : yX6_ifPaid.cls ≠ "java/lang/invoke/MethodHandle" ∧ yX6_ifPaid.cls ≠ "java/lang/invoke/VarHandle" ∧ (parseMethodDescriptor yX6_ifPaid.desc).map (fun d => d.parameters.length) = some 3 := ⟨by decide, by decide, by decide +kernel⟩
set_option maxHeartbeats 4000000 in
set_option maxRecDepth 100000 in
theorem c_X6_ifPaid (l : Launch) (G : kG) (a : Nat → Nat) (hI : gI 8 a) (u : Nat → Nat → Int32) (p1 : Int32) (p2 : Int32) (p3 : Int32) (hm : SI (u 1)) : Met l yX6_ifPaid (Cond.code yX6_ifPaid cX6_ifPaid 7 (some .int) :: BIG) (rmK 8) (pcG G (mP G a u) [.ref (a 0), .int p1, .int p2, .int p3]) (qcI G (gA 8 a) (mP G a (w_X6_ifPaid u p1 p2 p3)) (v_X6_ifPaid u p1 p2 p3)) 0 0 (gA 8 a) := by
  refine m_start (by decide) (Nat.le_of_ble_eq_true rfl) ?_
  intro p e s m args below meth c S hr hlk hnm hP hK ls hl
  have hx := S.1
  have hb := S.2.1
  have hown := S.2.2.2.1
  have hS : va_S (gA 8 a) s.heap s.heap [] := va_S.rf
  have hl : lv_has ls 7 [(0, .ref (a 0)), (1, .int p1), (2, .int p2), (3, .int p3)] := hl
  refine lv_iload_n hx hb dX6_ifPaid_0 rfl (lv_at hl 1 rfl) ?_
  refine r_callS S hK hP (c_X6_isCustomer l G (mP G a u) (gA 8 a) _ ) (r_cs S k_195 k_193 k_194 k_5 q_X6_isCustomer ⟨Nat.le_of_ble_eq_true rfl, Nat.le_of_ble_eq_true rfl⟩ rfl rfl) rfl hl.1 rfl (Nat.le_of_ble_eq_true rfl) dX6_ifPaid_1 ⟨Nat.zero_le _, Nat.zero_le _⟩ hS (fun _ h => h) (fun H locs hP _ _ hS => ?_)
  have hP : mP G a u H := hP
  refine lv_if_ne (tgt := 9) hx hb dX6_ifPaid_4 (by decide) (fun c1 => ?_) (fun c1 => ?_)
  · skip
    refine lv_iload_n hx hb dX6_ifPaid_9 rfl (lv_at hl 2 rfl) ?_
    refine r_callS S hK hP (c_X6_isAmount l G (mP G a u) (gA 8 a) _ ) (r_cs S k_269 k_267 k_268 k_5 q_X6_isAmount ⟨Nat.le_of_ble_eq_true rfl, Nat.le_of_ble_eq_true rfl⟩ rfl rfl) rfl hl.1 rfl (Nat.le_of_ble_eq_true rfl) dX6_ifPaid_10 ⟨Nat.zero_le _, Nat.zero_le _⟩ hS (fun _ h => h) (fun H locs hP _ _ hS => ?_)
    have hP : mP G a u H := hP
    refine lv_if_eq (tgt := 25) hx hb dX6_ifPaid_13 (by decide) (fun c2 => ?_) (fun c2 => ?_)
    · skip
      refine lv_bipush (v := -2) hx hb dX6_ifPaid_25 (by decide) ?_
      exact e_int S hr hlk rfl hK hS (gP_eq (show w_X6_ifPaid u p1 p2 p3 = u from (if_neg c1).trans ((if_pos c2).trans rfl)) hP) (show v_X6_ifPaid u p1 p2 p3 = (-2 : Int32) from (if_neg c1).trans ((if_pos c2).trans rfl)).symm dX6_ifPaid_27
    · skip
      refine lv_iload_n hx hb dX6_ifPaid_16 rfl (lv_at hl 3 rfl) ?_
      refine lv_iconst (v := 0) hx hb dX6_ifPaid_17 (by decide) ?_
      refine lv_iconst (v := 3) hx hb dX6_ifPaid_18 (by decide) ?_
      refine r_callS S hK hP (c_X6_in l G (mP G a u) (gA 8 a) _ _ _ ) (r_cs S k_198 k_196 k_197 k_5 q_X6_in ⟨Nat.le_of_ble_eq_true rfl, Nat.le_of_ble_eq_true rfl⟩ rfl rfl) rfl hl.1 rfl (Nat.le_of_ble_eq_true rfl) dX6_ifPaid_19 ⟨Nat.zero_le _, Nat.zero_le _⟩ hS (fun _ h => h) (fun H locs hP _ _ hS => ?_)
      have hP : mP G a u H := hP
      refine lv_if_ne (tgt := 28) hx hb dX6_ifPaid_22 (by decide) (fun c3 => ?_) (fun c3 => ?_)
      · skip
        refine lv_aload_n hx hb dX6_ifPaid_28 rfl (lv_at hl 0 rfl) ?_
        refine lv_iload_n hx hb dX6_ifPaid_29 rfl (lv_at hl 1 rfl) ?_
        have hq_p1 : p1.toNatClampNeg < 8 := vp_lt ((vp_X6_isCustomer c1 (by decide)) : vp_in p1 8)
        refine r_top (v := nI p1.toNatClampNeg) (vp_nI ((vp_X6_isCustomer c1 (by decide)) : vp_in p1 8)) ?_
        refine lv_iload_n hx hb dX6_ifPaid_30 rfl (lv_at hl 2 rfl) ?_
        refine r_callI S hK hP (c_X6_wouldBeTooMuch l G a hI u p1.toNatClampNeg (by omega) _ hm) (r_cw S k_274 k_271 k_272 k_273 k_5 q_X6_wouldBeTooMuch ⟨Nat.le_of_ble_eq_true rfl, Nat.le_of_ble_eq_true rfl⟩ rfl rfl) (g_recv hK hP (i := 0) (by omega) mC0 rfl) rfl hl.1 rfl (Nat.le_of_ble_eq_true rfl) dX6_ifPaid_31 ⟨Nat.zero_le _, Nat.zero_le _⟩ hS (fun _ h => h) (fun H locs hP _ _ hS => ?_)
        have hP : mP G a (w_X6_wouldBeTooMuch u p1.toNatClampNeg p2) H := hP
        refine lv_if_eq (tgt := 40) hx hb dX6_ifPaid_34 (by decide) (fun c4 => ?_) (fun c4 => ?_)
        · skip
          refine lv_aload_n hx hb dX6_ifPaid_40 rfl (lv_at hl 0 rfl) ?_
          refine r_callV S hK hP (c_X6_putAside l G a hI (w_X6_wouldBeTooMuch u p1.toNatClampNeg p2) ) (r_cw S k_278 k_275 k_276 k_277 k_5 q_X6_putAside ⟨Nat.le_of_ble_eq_true rfl, Nat.le_of_ble_eq_true rfl⟩ rfl rfl) (g_recv hK hP (i := 0) (by omega) mC0 rfl) rfl hl.1 rfl (Nat.le_of_ble_eq_true rfl) dX6_ifPaid_41 ⟨Nat.zero_le _, Nat.zero_le _⟩ hS (fun _ h => h) (fun H locs hP _ _ hS => ?_)
          have hP : mP G a (w_X6_putAside (w_X6_wouldBeTooMuch u p1.toNatClampNeg p2)) H := hP
          refine lv_aload_n hx hb dX6_ifPaid_44 rfl (lv_at hl 0 rfl) ?_
          refine lv_bipush (v := 7) hx hb dX6_ifPaid_45 (by decide) ?_
          refine r_callI S hK hP (c_X6_sum l G a hI (w_X6_putAside (w_X6_wouldBeTooMuch u p1.toNatClampNeg p2)) 7 (by omega) (aside_SI (would_SI hm (by omega)))) (r_cw S k_762 k_759 k_760 k_761 k_5 q_X6_sum ⟨Nat.le_of_ble_eq_true rfl, Nat.le_of_ble_eq_true rfl⟩ rfl rfl) (g_recv hK hP (i := 0) (by omega) mC0 rfl) rfl hl.1 rfl (Nat.le_of_ble_eq_true rfl) dX6_ifPaid_47 ⟨Nat.zero_le _, Nat.zero_le _⟩ hS (fun _ h => h) (fun H locs hP _ _ hS => ?_)
          have hP : mP G a (w_X6_putAside (w_X6_wouldBeTooMuch u p1.toNatClampNeg p2)) H := hP
          refine lv_istore (lv' := [(4, .int (v_X6_sum (w_X6_putAside (w_X6_wouldBeTooMuch u p1.toNatClampNeg p2)) 7)), (0, .ref (a 0)), (1, .int p1), (2, .int p2), (3, .int p3)]) hx hb dX6_ifPaid_50 hl (by decide) rfl (fun ls hl => ?_)
          refine lv_aload_n hx hb dX6_ifPaid_52 rfl (lv_at hl 1 rfl) ?_
          refine lv_iload_n hx hb dX6_ifPaid_53 rfl (lv_at hl 2 rfl) ?_
          have hq_p1 : p1.toNatClampNeg < 8 := vp_lt ((vp_X6_isCustomer c1 (by decide)) : vp_in p1 8)
          refine r_top (v := nI p1.toNatClampNeg) (vp_nI ((vp_X6_isCustomer c1 (by decide)) : vp_in p1 8)) ?_
          refine lv_iload_n hx hb dX6_ifPaid_54 rfl (lv_at hl 3 rfl) ?_
          refine r_callI S hK hP (c_X6_paysAll l G a hI (w_X6_putAside (w_X6_wouldBeTooMuch u p1.toNatClampNeg p2)) p1.toNatClampNeg (by omega) _ (aside_SI (would_SI hm (by omega)))) (r_cw S k_282 k_279 k_280 k_281 k_5 q_X6_paysAll ⟨Nat.le_of_ble_eq_true rfl, Nat.le_of_ble_eq_true rfl⟩ rfl rfl) (g_recv hK hP (i := 0) (by omega) mC0 rfl) rfl hl.1 rfl (Nat.le_of_ble_eq_true rfl) dX6_ifPaid_55 ⟨Nat.zero_le _, Nat.zero_le _⟩ hS (fun _ h => h) (fun H locs hP _ _ hS => ?_)
          have hP : mP G a (w_X6_paysAll (w_X6_putAside (w_X6_wouldBeTooMuch u p1.toNatClampNeg p2)) p1.toNatClampNeg p2) H := hP
          refine lv_istore (lv' := [(5, .int (v_X6_paysAll (w_X6_putAside (w_X6_wouldBeTooMuch u p1.toNatClampNeg p2)) p1.toNatClampNeg p2)), (4, .int (v_X6_sum (w_X6_putAside (w_X6_wouldBeTooMuch u p1.toNatClampNeg p2)) 7)), (0, .ref (a 0)), (1, .int p1), (2, .int p2), (3, .int p3)]) hx hb dX6_ifPaid_58 hl (by decide) rfl (fun ls hl => ?_)
          refine lv_iload_n hx hb dX6_ifPaid_60 rfl (lv_at hl 5 rfl) ?_
          refine lv_if_ne (tgt := 69) hx hb dX6_ifPaid_61 (by decide) (fun c5 => ?_) (fun c5 => ?_)
          · skip
            refine lv_iload_n hx hb dX6_ifPaid_69 rfl (lv_at hl 5 rfl) ?_
            refine lv_iconst (v := 1) hx hb dX6_ifPaid_70 (by decide) ?_
            refine lv_icmp_ne (tgt := 86) hx hb dX6_ifPaid_71 (by decide) (fun c6 => ?_) (fun c6 => ?_)
            · skip
              refine lv_iload_n hx hb dX6_ifPaid_86 rfl (lv_at hl 5 rfl) ?_
              refine lv_iconst (v := 2) hx hb dX6_ifPaid_87 (by decide) ?_
              refine lv_icmp_ne (tgt := 103) hx hb dX6_ifPaid_88 (by decide) (fun c7 => ?_) (fun c7 => ?_)
              · skip
                refine lv_aload_n hx hb dX6_ifPaid_103 rfl (lv_at hl 2 rfl) ?_
                refine lv_iload_n hx hb dX6_ifPaid_104 rfl (lv_at hl 3 rfl) ?_
                refine lv_iconst (v := 0) hx hb dX6_ifPaid_105 (by decide) ?_
                refine r_callI S hK hP (c_X6_owedBy l G a hI (w_X6_paysAll (w_X6_putAside (w_X6_wouldBeTooMuch u p1.toNatClampNeg p2)) p1.toNatClampNeg p2) _ _ (paysAll_PR (aside_SI (would_SI hm (by omega))) (by omega)).1) (r_cw S k_716 k_713 k_714 k_715 k_5 q_X6_owedBy ⟨Nat.le_of_ble_eq_true rfl, Nat.le_of_ble_eq_true rfl⟩ rfl rfl) (g_recv hK hP (i := 0) (by omega) mC0 rfl) rfl hl.1 rfl (Nat.le_of_ble_eq_true rfl) dX6_ifPaid_106 ⟨Nat.zero_le _, Nat.zero_le _⟩ hS (fun _ h => h) (fun H locs hP _ _ hS => ?_)
                have hP : mP G a (w_X6_paysAll (w_X6_putAside (w_X6_wouldBeTooMuch u p1.toNatClampNeg p2)) p1.toNatClampNeg p2) H := hP
                refine lv_istore (lv' := [(6, .int (v_X6_owedBy (w_X6_paysAll (w_X6_putAside (w_X6_wouldBeTooMuch u p1.toNatClampNeg p2)) p1.toNatClampNeg p2) p1 (0 : Int32))), (5, .int (v_X6_paysAll (w_X6_putAside (w_X6_wouldBeTooMuch u p1.toNatClampNeg p2)) p1.toNatClampNeg p2)), (4, .int (v_X6_sum (w_X6_putAside (w_X6_wouldBeTooMuch u p1.toNatClampNeg p2)) 7)), (0, .ref (a 0)), (1, .int p1), (2, .int p2), (3, .int p3)]) hx hb dX6_ifPaid_109 hl (by decide) rfl (fun ls hl => ?_)
                refine lv_aload_n hx hb dX6_ifPaid_111 rfl (lv_at hl 3 rfl) ?_
                refine r_callV S hK hP (c_X6_putBack l G a hI (w_X6_paysAll (w_X6_putAside (w_X6_wouldBeTooMuch u p1.toNatClampNeg p2)) p1.toNatClampNeg p2) ) (r_cw S k_299 k_296 k_297 k_298 k_5 q_X6_putBack ⟨Nat.le_of_ble_eq_true rfl, Nat.le_of_ble_eq_true rfl⟩ rfl rfl) (g_recv hK hP (i := 0) (by omega) mC0 rfl) rfl hl.1 rfl (Nat.le_of_ble_eq_true rfl) dX6_ifPaid_112 ⟨Nat.zero_le _, Nat.zero_le _⟩ hS (fun _ h => h) (fun H locs hP _ _ hS => ?_)
                have hP : mP G a (w_X6_putBack (w_X6_paysAll (w_X6_putAside (w_X6_wouldBeTooMuch u p1.toNatClampNeg p2)) p1.toNatClampNeg p2)) H := hP
                refine lv_iload hx hb dX6_ifPaid_115 (lv_at hl 0 rfl) ?_
                exact e_int S hr hlk rfl hK hS (gP_eq (show w_X6_ifPaid u p1 p2 p3 = w_X6_putBack (w_X6_paysAll (w_X6_putAside (w_X6_wouldBeTooMuch u p1.toNatClampNeg p2)) p1.toNatClampNeg p2) from (if_neg c1).trans ((if_neg c2).trans ((if_neg c3).trans ((if_pos c4).trans ((if_neg c5).trans ((if_neg c6).trans ((if_neg c7).trans rfl))))))) hP) (show v_X6_ifPaid u p1 p2 p3 = v_X6_owedBy (w_X6_paysAll (w_X6_putAside (w_X6_wouldBeTooMuch u p1.toNatClampNeg p2)) p1.toNatClampNeg p2) p1 (0 : Int32) from (if_neg c1).trans ((if_neg c2).trans ((if_neg c3).trans ((if_pos c4).trans ((if_neg c5).trans ((if_neg c6).trans ((if_neg c7).trans rfl))))))).symm dX6_ifPaid_117
              · skip
                refine lv_aload_n hx hb dX6_ifPaid_91 rfl (lv_at hl 2 rfl) ?_
                refine g_get S hK hP (i := 0) (by omega) mC0 rfl inlX6 0 (by decide) k_67 (v := .ref (a 1)) rfl dX6_ifPaid_92 ?_
                refine lv_bipush (v := 9) hx hb dX6_ifPaid_95 (by decide) ?_
                refine lv_iload_n hx hb dX6_ifPaid_97 rfl (lv_at hl 3 rfl) ?_
                have hq_p1 : p1.toNatClampNeg < 8 := vp_lt ((vp_X6_isCustomer c1 (by decide)) : vp_in p1 8)
                refine r_top (v := nI p1.toNatClampNeg) (vp_nI ((vp_X6_isCustomer c1 (by decide)) : vp_in p1 8)) ?_
                refine lv_iadd hx hb dX6_ifPaid_98 ?_
                refine r_top (v := nI (9 + p1.toNatClampNeg)) (nI_add 9 p1.toNatClampNeg) ?_
                refine g_aldN S hK hP (i := 1) (by omega) mC1 (k := 9 + p1.toNatClampNeg) (by omega) (by decide) (v := (w_X6_paysAll (w_X6_putAside (w_X6_wouldBeTooMuch u p1.toNatClampNeg p2)) p1.toNatClampNeg p2) 1 (9 + p1.toNatClampNeg)) (rfl) dX6_ifPaid_99 ?_
                refine lv_goto (tgt := 109) hx hb dX6_ifPaid_100 (by decide) ?_
                refine lv_istore (lv' := [(6, .int ((w_X6_paysAll (w_X6_putAside (w_X6_wouldBeTooMuch u p1.toNatClampNeg p2)) p1.toNatClampNeg p2) 1 (9 + p1.toNatClampNeg))), (5, .int (v_X6_paysAll (w_X6_putAside (w_X6_wouldBeTooMuch u p1.toNatClampNeg p2)) p1.toNatClampNeg p2)), (4, .int (v_X6_sum (w_X6_putAside (w_X6_wouldBeTooMuch u p1.toNatClampNeg p2)) 7)), (0, .ref (a 0)), (1, .int p1), (2, .int p2), (3, .int p3)]) hx hb dX6_ifPaid_109 hl (by decide) rfl (fun ls hl => ?_)
                refine lv_aload_n hx hb dX6_ifPaid_111 rfl (lv_at hl 3 rfl) ?_
                refine r_callV S hK hP (c_X6_putBack l G a hI (w_X6_paysAll (w_X6_putAside (w_X6_wouldBeTooMuch u p1.toNatClampNeg p2)) p1.toNatClampNeg p2) ) (r_cw S k_299 k_296 k_297 k_298 k_5 q_X6_putBack ⟨Nat.le_of_ble_eq_true rfl, Nat.le_of_ble_eq_true rfl⟩ rfl rfl) (g_recv hK hP (i := 0) (by omega) mC0 rfl) rfl hl.1 rfl (Nat.le_of_ble_eq_true rfl) dX6_ifPaid_112 ⟨Nat.zero_le _, Nat.zero_le _⟩ hS (fun _ h => h) (fun H locs hP _ _ hS => ?_)
                have hP : mP G a (w_X6_putBack (w_X6_paysAll (w_X6_putAside (w_X6_wouldBeTooMuch u p1.toNatClampNeg p2)) p1.toNatClampNeg p2)) H := hP
                refine lv_iload hx hb dX6_ifPaid_115 (lv_at hl 0 rfl) ?_
                exact e_int S hr hlk rfl hK hS (gP_eq (show w_X6_ifPaid u p1 p2 p3 = w_X6_putBack (w_X6_paysAll (w_X6_putAside (w_X6_wouldBeTooMuch u p1.toNatClampNeg p2)) p1.toNatClampNeg p2) from (if_neg c1).trans ((if_neg c2).trans ((if_neg c3).trans ((if_pos c4).trans ((if_neg c5).trans ((if_neg c6).trans ((if_pos c7).trans rfl))))))) hP) (show v_X6_ifPaid u p1 p2 p3 = (w_X6_paysAll (w_X6_putAside (w_X6_wouldBeTooMuch u p1.toNatClampNeg p2)) p1.toNatClampNeg p2) 1 (9 + p1.toNatClampNeg) from (if_neg c1).trans ((if_neg c2).trans ((if_neg c3).trans ((if_pos c4).trans ((if_neg c5).trans ((if_neg c6).trans ((if_pos c7).trans rfl))))))).symm dX6_ifPaid_117
            · skip
              refine lv_aload_n hx hb dX6_ifPaid_74 rfl (lv_at hl 2 rfl) ?_
              refine lv_bipush (v := 7) hx hb dX6_ifPaid_75 (by decide) ?_
              refine r_callI S hK hP (c_X6_sum l G a hI (w_X6_paysAll (w_X6_putAside (w_X6_wouldBeTooMuch u p1.toNatClampNeg p2)) p1.toNatClampNeg p2) 7 (by omega) (paysAll_PR (aside_SI (would_SI hm (by omega))) (by omega)).1) (r_cw S k_762 k_759 k_760 k_761 k_5 q_X6_sum ⟨Nat.le_of_ble_eq_true rfl, Nat.le_of_ble_eq_true rfl⟩ rfl rfl) (g_recv hK hP (i := 0) (by omega) mC0 rfl) rfl hl.1 rfl (Nat.le_of_ble_eq_true rfl) dX6_ifPaid_77 ⟨Nat.zero_le _, Nat.zero_le _⟩ hS (fun _ h => h) (fun H locs hP _ _ hS => ?_)
              have hP : mP G a (w_X6_paysAll (w_X6_putAside (w_X6_wouldBeTooMuch u p1.toNatClampNeg p2)) p1.toNatClampNeg p2) H := hP
              refine lv_iload hx hb dX6_ifPaid_80 (lv_at hl 1 rfl) ?_
              refine lv_isub hx hb dX6_ifPaid_82 ?_
              refine lv_goto (tgt := 109) hx hb dX6_ifPaid_83 (by decide) ?_
              refine lv_istore (lv' := [(6, .int ((v_X6_sum (w_X6_paysAll (w_X6_putAside (w_X6_wouldBeTooMuch u p1.toNatClampNeg p2)) p1.toNatClampNeg p2) 7) - (v_X6_sum (w_X6_putAside (w_X6_wouldBeTooMuch u p1.toNatClampNeg p2)) 7))), (5, .int (v_X6_paysAll (w_X6_putAside (w_X6_wouldBeTooMuch u p1.toNatClampNeg p2)) p1.toNatClampNeg p2)), (4, .int (v_X6_sum (w_X6_putAside (w_X6_wouldBeTooMuch u p1.toNatClampNeg p2)) 7)), (0, .ref (a 0)), (1, .int p1), (2, .int p2), (3, .int p3)]) hx hb dX6_ifPaid_109 hl (by decide) rfl (fun ls hl => ?_)
              refine lv_aload_n hx hb dX6_ifPaid_111 rfl (lv_at hl 3 rfl) ?_
              refine r_callV S hK hP (c_X6_putBack l G a hI (w_X6_paysAll (w_X6_putAside (w_X6_wouldBeTooMuch u p1.toNatClampNeg p2)) p1.toNatClampNeg p2) ) (r_cw S k_299 k_296 k_297 k_298 k_5 q_X6_putBack ⟨Nat.le_of_ble_eq_true rfl, Nat.le_of_ble_eq_true rfl⟩ rfl rfl) (g_recv hK hP (i := 0) (by omega) mC0 rfl) rfl hl.1 rfl (Nat.le_of_ble_eq_true rfl) dX6_ifPaid_112 ⟨Nat.zero_le _, Nat.zero_le _⟩ hS (fun _ h => h) (fun H locs hP _ _ hS => ?_)
              have hP : mP G a (w_X6_putBack (w_X6_paysAll (w_X6_putAside (w_X6_wouldBeTooMuch u p1.toNatClampNeg p2)) p1.toNatClampNeg p2)) H := hP
              refine lv_iload hx hb dX6_ifPaid_115 (lv_at hl 0 rfl) ?_
              exact e_int S hr hlk rfl hK hS (gP_eq (show w_X6_ifPaid u p1 p2 p3 = w_X6_putBack (w_X6_paysAll (w_X6_putAside (w_X6_wouldBeTooMuch u p1.toNatClampNeg p2)) p1.toNatClampNeg p2) from (if_neg c1).trans ((if_neg c2).trans ((if_neg c3).trans ((if_pos c4).trans ((if_neg c5).trans ((if_pos c6).trans rfl)))))) hP) (show v_X6_ifPaid u p1 p2 p3 = (v_X6_sum (w_X6_paysAll (w_X6_putAside (w_X6_wouldBeTooMuch u p1.toNatClampNeg p2)) p1.toNatClampNeg p2) 7) - (v_X6_sum (w_X6_putAside (w_X6_wouldBeTooMuch u p1.toNatClampNeg p2)) 7) from (if_neg c1).trans ((if_neg c2).trans ((if_neg c3).trans ((if_pos c4).trans ((if_neg c5).trans ((if_pos c6).trans rfl)))))).symm dX6_ifPaid_117
          · skip
            refine lv_iload hx hb dX6_ifPaid_64 (lv_at hl 0 rfl) ?_
            refine lv_goto (tgt := 109) hx hb dX6_ifPaid_66 (by decide) ?_
            refine lv_istore (lv' := [(6, .int (v_X6_paysAll (w_X6_putAside (w_X6_wouldBeTooMuch u p1.toNatClampNeg p2)) p1.toNatClampNeg p2)), (5, .int (v_X6_paysAll (w_X6_putAside (w_X6_wouldBeTooMuch u p1.toNatClampNeg p2)) p1.toNatClampNeg p2)), (4, .int (v_X6_sum (w_X6_putAside (w_X6_wouldBeTooMuch u p1.toNatClampNeg p2)) 7)), (0, .ref (a 0)), (1, .int p1), (2, .int p2), (3, .int p3)]) hx hb dX6_ifPaid_109 hl (by decide) rfl (fun ls hl => ?_)
            refine lv_aload_n hx hb dX6_ifPaid_111 rfl (lv_at hl 3 rfl) ?_
            refine r_callV S hK hP (c_X6_putBack l G a hI (w_X6_paysAll (w_X6_putAside (w_X6_wouldBeTooMuch u p1.toNatClampNeg p2)) p1.toNatClampNeg p2) ) (r_cw S k_299 k_296 k_297 k_298 k_5 q_X6_putBack ⟨Nat.le_of_ble_eq_true rfl, Nat.le_of_ble_eq_true rfl⟩ rfl rfl) (g_recv hK hP (i := 0) (by omega) mC0 rfl) rfl hl.1 rfl (Nat.le_of_ble_eq_true rfl) dX6_ifPaid_112 ⟨Nat.zero_le _, Nat.zero_le _⟩ hS (fun _ h => h) (fun H locs hP _ _ hS => ?_)
            have hP : mP G a (w_X6_putBack (w_X6_paysAll (w_X6_putAside (w_X6_wouldBeTooMuch u p1.toNatClampNeg p2)) p1.toNatClampNeg p2)) H := hP
            refine lv_iload hx hb dX6_ifPaid_115 (lv_at hl 0 rfl) ?_
            exact e_int S hr hlk rfl hK hS (gP_eq (show w_X6_ifPaid u p1 p2 p3 = w_X6_putBack (w_X6_paysAll (w_X6_putAside (w_X6_wouldBeTooMuch u p1.toNatClampNeg p2)) p1.toNatClampNeg p2) from (if_neg c1).trans ((if_neg c2).trans ((if_neg c3).trans ((if_pos c4).trans ((if_pos c5).trans rfl))))) hP) (show v_X6_ifPaid u p1 p2 p3 = v_X6_paysAll (w_X6_putAside (w_X6_wouldBeTooMuch u p1.toNatClampNeg p2)) p1.toNatClampNeg p2 from (if_neg c1).trans ((if_neg c2).trans ((if_neg c3).trans ((if_pos c4).trans ((if_pos c5).trans rfl))))).symm dX6_ifPaid_117
        · skip
          refine lv_bipush (v := -3) hx hb dX6_ifPaid_37 (by decide) ?_
          exact e_int S hr hlk rfl hK hS (gP_eq (show w_X6_ifPaid u p1 p2 p3 = w_X6_wouldBeTooMuch u p1.toNatClampNeg p2 from (if_neg c1).trans ((if_neg c2).trans ((if_neg c3).trans ((if_neg c4).trans rfl)))) hP) (show v_X6_ifPaid u p1 p2 p3 = (-3 : Int32) from (if_neg c1).trans ((if_neg c2).trans ((if_neg c3).trans ((if_neg c4).trans rfl)))).symm dX6_ifPaid_39
      · skip
        refine lv_bipush (v := -2) hx hb dX6_ifPaid_25 (by decide) ?_
        exact e_int S hr hlk rfl hK hS (gP_eq (show w_X6_ifPaid u p1 p2 p3 = u from (if_neg c1).trans ((if_neg c2).trans ((if_pos c3).trans rfl))) hP) (show v_X6_ifPaid u p1 p2 p3 = (-2 : Int32) from (if_neg c1).trans ((if_neg c2).trans ((if_pos c3).trans rfl))).symm dX6_ifPaid_27
  · skip
    refine lv_iconst (v := -1) hx hb dX6_ifPaid_7 (by decide) ?_
    exact e_int S hr hlk rfl hK hS (gP_eq (show w_X6_ifPaid u p1 p2 p3 = u from (if_pos c1).trans rfl) hP) (show v_X6_ifPaid u p1 p2 p3 = (-1 : Int32) from (if_pos c1).trans rfl).symm dX6_ifPaid_8

def v_X6_nextReminder (u : Nat → Nat → Int32) (p1 : Int32) : Int32 := if v_X6_isBill u p1 = 0 then (-1 : Int32) else if u 1 0 ≤ (v_X6_countedFrom u p1.toNatClampNeg) + (u 1 3) then (if v_X6_is u p1.toNatClampNeg (0 : Int32) = 0 then (-5 : Int32) else if u 1 (233 + 12 * p1.toNatClampNeg + 9) = (3 : Int32) then (-5 : Int32) else if (v_X6_countedFrom u p1.toNatClampNeg) + (u 1 3) ≤ (9999 : Int32) then ((v_X6_countedFrom u p1.toNatClampNeg) + (u 1 3)) else (-5 : Int32)) else if v_X6_is u p1.toNatClampNeg (0 : Int32) = 0 then (-5 : Int32) else if u 1 (233 + 12 * p1.toNatClampNeg + 9) = (3 : Int32) then (-5 : Int32) else if u 1 0 ≤ (9999 : Int32) then (u 1 0) else (-5 : Int32)
theorem q_X6_nextReminder : yX6_nextReminder.cls ≠ "java/lang/invoke/MethodHandle" ∧ yX6_nextReminder.cls ≠ "java/lang/invoke/VarHandle" ∧ (parseMethodDescriptor yX6_nextReminder.desc).map (fun d => d.parameters.length) = some 1 := ⟨by decide, by decide, by decide +kernel⟩
set_option maxHeartbeats 4000000 in
set_option maxRecDepth 100000 in
theorem c_X6_nextReminder (l : Launch) (G : kG) (a : Nat → Nat) (hI : gI 8 a) (u : Nat → Nat → Int32) (p1 : Int32) (hm : SI (u 1)) : Met l yX6_nextReminder (Cond.code yX6_nextReminder cX6_nextReminder 3 (some .int) :: BIG) (rmK 3) (pcG G (mP G a u) [.ref (a 0), .int p1]) (qcI G (gA 8 a) (mP G a u) (v_X6_nextReminder u p1)) 0 0 (gA 8 a) := by
  refine m_start (by decide) (Nat.le_of_ble_eq_true rfl) ?_
  intro p e s m args below meth c S hr hlk hnm hP hK ls hl
  have hx := S.1
  have hb := S.2.1
  have hown := S.2.2.2.1
  have hS : va_S (gA 8 a) s.heap s.heap [] := va_S.rf
  have hl : lv_has ls 3 [(0, .ref (a 0)), (1, .int p1)] := hl
  refine lv_aload_n hx hb dX6_nextReminder_0 rfl (lv_at hl 0 rfl) ?_
  refine lv_iload_n hx hb dX6_nextReminder_1 rfl (lv_at hl 1 rfl) ?_
  refine r_callI S hK hP (c_X6_isBill l G a hI u _ ) (r_cw S k_320 k_317 k_318 k_319 k_5 q_X6_isBill ⟨Nat.le_of_ble_eq_true rfl, Nat.le_of_ble_eq_true rfl⟩ rfl rfl) (g_recv hK hP (i := 0) (by omega) mC0 rfl) rfl hl.1 rfl (Nat.le_of_ble_eq_true rfl) dX6_nextReminder_2 ⟨Nat.zero_le _, Nat.zero_le _⟩ hS (fun _ h => h) (fun H locs hP _ _ hS => ?_)
  have hP : mP G a u H := hP
  refine lv_if_ne (tgt := 10) hx hb dX6_nextReminder_5 (by decide) (fun c1 => ?_) (fun c1 => ?_)
  · skip
    refine lv_aload_n hx hb dX6_nextReminder_10 rfl (lv_at hl 0 rfl) ?_
    refine lv_iload_n hx hb dX6_nextReminder_11 rfl (lv_at hl 1 rfl) ?_
    have hq_p1 : p1.toNatClampNeg < 40 := vp_lt ((vp_X6_isBill hm c1) : vp_in p1 40)
    refine r_top (v := nI p1.toNatClampNeg) (vp_nI ((vp_X6_isBill hm c1) : vp_in p1 40)) ?_
    refine r_callI S hK hP (c_X6_countedFrom l G a hI u p1.toNatClampNeg (by omega) ) (r_cw S k_417 k_414 k_415 k_416 k_5 q_X6_countedFrom ⟨Nat.le_of_ble_eq_true rfl, Nat.le_of_ble_eq_true rfl⟩ rfl rfl) (g_recv hK hP (i := 0) (by omega) mC0 rfl) rfl hl.1 rfl (Nat.le_of_ble_eq_true rfl) dX6_nextReminder_12 ⟨Nat.zero_le _, Nat.zero_le _⟩ hS (fun _ h => h) (fun H locs hP _ _ hS => ?_)
    have hP : mP G a u H := hP
    refine lv_aload_n hx hb dX6_nextReminder_15 rfl (lv_at hl 0 rfl) ?_
    refine g_get S hK hP (i := 0) (by omega) mC0 rfl inlX6 0 (by decide) k_67 (v := .ref (a 1)) rfl dX6_nextReminder_16 ?_
    refine lv_iconst (v := 3) hx hb dX6_nextReminder_19 (by decide) ?_
    refine g_aldN S hK hP (i := 1) (by omega) mC1 (k := 3) (by omega) (by decide) (v := u 1 3) (rfl) dX6_nextReminder_20 ?_
    refine lv_iadd hx hb dX6_nextReminder_21 ?_
    refine lv_istore_n (lv' := [(2, .int ((v_X6_countedFrom u p1.toNatClampNeg) + (u 1 3))), (0, .ref (a 0)), (1, .int p1)]) hx hb dX6_nextReminder_22 rfl hl (by decide) rfl (fun ls hl => ?_)
    refine lv_iload_n hx hb dX6_nextReminder_23 rfl (lv_at hl 0 rfl) ?_
    refine lv_aload_n hx hb dX6_nextReminder_24 rfl (lv_at hl 1 rfl) ?_
    refine g_get S hK hP (i := 0) (by omega) mC0 rfl inlX6 0 (by decide) k_67 (v := .ref (a 1)) rfl dX6_nextReminder_25 ?_
    refine lv_iconst (v := 0) hx hb dX6_nextReminder_28 (by decide) ?_
    refine g_aldN S hK hP (i := 1) (by omega) mC1 (k := 0) (by omega) (by decide) (v := u 1 0) (rfl) dX6_nextReminder_29 ?_
    refine lv_icmp_ge (tgt := 42) hx hb dX6_nextReminder_30 (by decide) (fun c2 => ?_) (fun c2 => ?_)
    · skip
      refine lv_iload_n hx hb dX6_nextReminder_42 rfl (lv_at hl 0 rfl) ?_
      refine lv_istore_n (lv' := [(2, .int ((v_X6_countedFrom u p1.toNatClampNeg) + (u 1 3))), (0, .ref (a 0)), (1, .int p1)]) hx hb dX6_nextReminder_43 rfl hl (by decide) rfl (fun ls hl => ?_)
      refine lv_aload_n hx hb dX6_nextReminder_44 rfl (lv_at hl 1 rfl) ?_
      refine lv_iload_n hx hb dX6_nextReminder_45 rfl (lv_at hl 2 rfl) ?_
      have hq_p1 : p1.toNatClampNeg < 40 := vp_lt ((vp_X6_isBill hm c1) : vp_in p1 40)
      refine r_top (v := nI p1.toNatClampNeg) (vp_nI ((vp_X6_isBill hm c1) : vp_in p1 40)) ?_
      refine lv_iconst (v := 0) hx hb dX6_nextReminder_46 (by decide) ?_
      refine r_callI S hK hP (c_X6_is l G a hI u p1.toNatClampNeg (by omega) _ ) (r_cw S k_290 k_287 k_288 k_289 k_5 q_X6_is ⟨Nat.le_of_ble_eq_true rfl, Nat.le_of_ble_eq_true rfl⟩ rfl rfl) (g_recv hK hP (i := 0) (by omega) mC0 rfl) rfl hl.1 rfl (Nat.le_of_ble_eq_true rfl) dX6_nextReminder_47 ⟨Nat.zero_le _, Nat.zero_le _⟩ hS (fun _ h => h) (fun H locs hP _ _ hS => ?_)
      have hP : mP G a u H := hP
      refine lv_if_eq (tgt := 75) hx hb dX6_nextReminder_50 (by decide) (fun c3 => ?_) (fun c3 => ?_)
      · skip
        refine lv_bipush (v := -5) hx hb dX6_nextReminder_75 (by decide) ?_
        refine lv_goto (tgt := 81) hx hb dX6_nextReminder_77 (by decide) ?_
        exact e_int S hr hlk rfl hK hS hP (show v_X6_nextReminder u p1 = (-5 : Int32) from (if_neg c1).trans ((if_pos c2).trans ((if_pos c3).trans rfl))).symm dX6_nextReminder_81
      · skip
        refine lv_aload_n hx hb dX6_nextReminder_53 rfl (lv_at hl 1 rfl) ?_
        refine g_get S hK hP (i := 0) (by omega) mC0 rfl inlX6 0 (by decide) k_67 (v := .ref (a 1)) rfl dX6_nextReminder_54 ?_
        refine lv_iload_n hx hb dX6_nextReminder_57 rfl (lv_at hl 2 rfl) ?_
        have hq_p1 : p1.toNatClampNeg < 40 := vp_lt ((vp_X6_isBill hm c1) : vp_in p1 40)
        refine r_top (v := nI p1.toNatClampNeg) (vp_nI ((vp_X6_isBill hm c1) : vp_in p1 40)) ?_
        refine lv_bipush (v := 9) hx hb dX6_nextReminder_58 (by decide) ?_
        refine r_callS S hK hP (c_X6_of l G (mP G a u) (gA 8 a) p1.toNatClampNeg 9 trivial trivial ) (r_cs S k_221 k_219 k_220 k_5 q_X6_of ⟨Nat.le_of_ble_eq_true rfl, Nat.le_of_ble_eq_true rfl⟩ rfl rfl) rfl hl.1 rfl (Nat.le_of_ble_eq_true rfl) dX6_nextReminder_60 ⟨Nat.zero_le _, Nat.zero_le _⟩ hS (fun _ h => h) (fun H locs hP _ _ hS => ?_)
        have hP : mP G a u H := hP
        refine r_top (v := nI (233 + 12 * p1.toNatClampNeg + 9)) rfl ?_
        refine g_aldN S hK hP (i := 1) (by omega) mC1 (k := 233 + 12 * p1.toNatClampNeg + 9) (by omega) (by decide) (v := u 1 (233 + 12 * p1.toNatClampNeg + 9)) (rfl) dX6_nextReminder_63 ?_
        refine lv_iconst (v := 3) hx hb dX6_nextReminder_64 (by decide) ?_
        refine lv_icmp_eq (tgt := 75) hx hb dX6_nextReminder_65 (by decide) (fun c4 => ?_) (fun c4 => ?_)
        · skip
          refine lv_bipush (v := -5) hx hb dX6_nextReminder_75 (by decide) ?_
          refine lv_goto (tgt := 81) hx hb dX6_nextReminder_77 (by decide) ?_
          exact e_int S hr hlk rfl hK hS hP (show v_X6_nextReminder u p1 = (-5 : Int32) from (if_neg c1).trans ((if_pos c2).trans ((if_neg c3).trans ((if_pos c4).trans rfl)))).symm dX6_nextReminder_81
        · skip
          refine lv_iload_n hx hb dX6_nextReminder_68 rfl (lv_at hl 0 rfl) ?_
          refine lv_sipush (v := 9999) hx hb dX6_nextReminder_69 (by decide) ?_
          refine lv_icmp_le (tgt := 80) hx hb dX6_nextReminder_72 (by decide) (fun c5 => ?_) (fun c5 => ?_)
          · skip
            refine lv_iload_n hx hb dX6_nextReminder_80 rfl (lv_at hl 0 rfl) ?_
            exact e_int S hr hlk rfl hK hS hP (show v_X6_nextReminder u p1 = (v_X6_countedFrom u p1.toNatClampNeg) + (u 1 3) from (if_neg c1).trans ((if_pos c2).trans ((if_neg c3).trans ((if_neg c4).trans ((if_pos c5).trans rfl))))).symm dX6_nextReminder_81
          · skip
            refine lv_bipush (v := -5) hx hb dX6_nextReminder_75 (by decide) ?_
            refine lv_goto (tgt := 81) hx hb dX6_nextReminder_77 (by decide) ?_
            exact e_int S hr hlk rfl hK hS hP (show v_X6_nextReminder u p1 = (-5 : Int32) from (if_neg c1).trans ((if_pos c2).trans ((if_neg c3).trans ((if_neg c4).trans ((if_neg c5).trans rfl))))).symm dX6_nextReminder_81
    · skip
      refine lv_aload_n hx hb dX6_nextReminder_33 rfl (lv_at hl 1 rfl) ?_
      refine g_get S hK hP (i := 0) (by omega) mC0 rfl inlX6 0 (by decide) k_67 (v := .ref (a 1)) rfl dX6_nextReminder_34 ?_
      refine lv_iconst (v := 0) hx hb dX6_nextReminder_37 (by decide) ?_
      refine g_aldN S hK hP (i := 1) (by omega) mC1 (k := 0) (by omega) (by decide) (v := u 1 0) (rfl) dX6_nextReminder_38 ?_
      refine lv_goto (tgt := 43) hx hb dX6_nextReminder_39 (by decide) ?_
      refine lv_istore_n (lv' := [(2, .int (u 1 0)), (0, .ref (a 0)), (1, .int p1)]) hx hb dX6_nextReminder_43 rfl hl (by decide) rfl (fun ls hl => ?_)
      refine lv_aload_n hx hb dX6_nextReminder_44 rfl (lv_at hl 1 rfl) ?_
      refine lv_iload_n hx hb dX6_nextReminder_45 rfl (lv_at hl 2 rfl) ?_
      have hq_p1 : p1.toNatClampNeg < 40 := vp_lt ((vp_X6_isBill hm c1) : vp_in p1 40)
      refine r_top (v := nI p1.toNatClampNeg) (vp_nI ((vp_X6_isBill hm c1) : vp_in p1 40)) ?_
      refine lv_iconst (v := 0) hx hb dX6_nextReminder_46 (by decide) ?_
      refine r_callI S hK hP (c_X6_is l G a hI u p1.toNatClampNeg (by omega) _ ) (r_cw S k_290 k_287 k_288 k_289 k_5 q_X6_is ⟨Nat.le_of_ble_eq_true rfl, Nat.le_of_ble_eq_true rfl⟩ rfl rfl) (g_recv hK hP (i := 0) (by omega) mC0 rfl) rfl hl.1 rfl (Nat.le_of_ble_eq_true rfl) dX6_nextReminder_47 ⟨Nat.zero_le _, Nat.zero_le _⟩ hS (fun _ h => h) (fun H locs hP _ _ hS => ?_)
      have hP : mP G a u H := hP
      refine lv_if_eq (tgt := 75) hx hb dX6_nextReminder_50 (by decide) (fun c6 => ?_) (fun c6 => ?_)
      · skip
        refine lv_bipush (v := -5) hx hb dX6_nextReminder_75 (by decide) ?_
        refine lv_goto (tgt := 81) hx hb dX6_nextReminder_77 (by decide) ?_
        exact e_int S hr hlk rfl hK hS hP (show v_X6_nextReminder u p1 = (-5 : Int32) from (if_neg c1).trans ((if_neg c2).trans ((if_pos c6).trans rfl))).symm dX6_nextReminder_81
      · skip
        refine lv_aload_n hx hb dX6_nextReminder_53 rfl (lv_at hl 1 rfl) ?_
        refine g_get S hK hP (i := 0) (by omega) mC0 rfl inlX6 0 (by decide) k_67 (v := .ref (a 1)) rfl dX6_nextReminder_54 ?_
        refine lv_iload_n hx hb dX6_nextReminder_57 rfl (lv_at hl 2 rfl) ?_
        have hq_p1 : p1.toNatClampNeg < 40 := vp_lt ((vp_X6_isBill hm c1) : vp_in p1 40)
        refine r_top (v := nI p1.toNatClampNeg) (vp_nI ((vp_X6_isBill hm c1) : vp_in p1 40)) ?_
        refine lv_bipush (v := 9) hx hb dX6_nextReminder_58 (by decide) ?_
        refine r_callS S hK hP (c_X6_of l G (mP G a u) (gA 8 a) p1.toNatClampNeg 9 trivial trivial ) (r_cs S k_221 k_219 k_220 k_5 q_X6_of ⟨Nat.le_of_ble_eq_true rfl, Nat.le_of_ble_eq_true rfl⟩ rfl rfl) rfl hl.1 rfl (Nat.le_of_ble_eq_true rfl) dX6_nextReminder_60 ⟨Nat.zero_le _, Nat.zero_le _⟩ hS (fun _ h => h) (fun H locs hP _ _ hS => ?_)
        have hP : mP G a u H := hP
        refine r_top (v := nI (233 + 12 * p1.toNatClampNeg + 9)) rfl ?_
        refine g_aldN S hK hP (i := 1) (by omega) mC1 (k := 233 + 12 * p1.toNatClampNeg + 9) (by omega) (by decide) (v := u 1 (233 + 12 * p1.toNatClampNeg + 9)) (rfl) dX6_nextReminder_63 ?_
        refine lv_iconst (v := 3) hx hb dX6_nextReminder_64 (by decide) ?_
        refine lv_icmp_eq (tgt := 75) hx hb dX6_nextReminder_65 (by decide) (fun c7 => ?_) (fun c7 => ?_)
        · skip
          refine lv_bipush (v := -5) hx hb dX6_nextReminder_75 (by decide) ?_
          refine lv_goto (tgt := 81) hx hb dX6_nextReminder_77 (by decide) ?_
          exact e_int S hr hlk rfl hK hS hP (show v_X6_nextReminder u p1 = (-5 : Int32) from (if_neg c1).trans ((if_neg c2).trans ((if_neg c6).trans ((if_pos c7).trans rfl)))).symm dX6_nextReminder_81
        · skip
          refine lv_iload_n hx hb dX6_nextReminder_68 rfl (lv_at hl 0 rfl) ?_
          refine lv_sipush (v := 9999) hx hb dX6_nextReminder_69 (by decide) ?_
          refine lv_icmp_le (tgt := 80) hx hb dX6_nextReminder_72 (by decide) (fun c8 => ?_) (fun c8 => ?_)
          · skip
            refine lv_iload_n hx hb dX6_nextReminder_80 rfl (lv_at hl 0 rfl) ?_
            exact e_int S hr hlk rfl hK hS hP (show v_X6_nextReminder u p1 = u 1 0 from (if_neg c1).trans ((if_neg c2).trans ((if_neg c6).trans ((if_neg c7).trans ((if_pos c8).trans rfl))))).symm dX6_nextReminder_81
          · skip
            refine lv_bipush (v := -5) hx hb dX6_nextReminder_75 (by decide) ?_
            refine lv_goto (tgt := 81) hx hb dX6_nextReminder_77 (by decide) ?_
            exact e_int S hr hlk rfl hK hS hP (show v_X6_nextReminder u p1 = (-5 : Int32) from (if_neg c1).trans ((if_neg c2).trans ((if_neg c6).trans ((if_neg c7).trans ((if_neg c8).trans rfl))))).symm dX6_nextReminder_81
  · skip
    refine lv_iconst (v := -1) hx hb dX6_nextReminder_8 (by decide) ?_
    exact e_int S hr hlk rfl hK hS hP (show v_X6_nextReminder u p1 = (-1 : Int32) from (if_pos c1).trans rfl).symm dX6_nextReminder_9


def v_X6_type (u : Nat → Nat → Int32) (p1 : Int32) : Int32 := if u 0 8 = (60 : Int32) then (-3 : Int32) else (u 0 8) + (1 : Int32)
def w_X6_type (u : Nat → Nat → Int32) (p1 : Int32) : Nat → Nat → Int32 := if u 0 8 = (60 : Int32) then u else up (up u 6 (sN (u 0) 8) p1) 0 8 ((u 0 8) + (1 : Int32))
theorem q_X6_type : yX6_type.cls ≠ "java/lang/invoke/MethodHandle" ∧ yX6_type.cls ≠ "java/lang/invoke/VarHandle" ∧ (parseMethodDescriptor yX6_type.desc).map (fun d => d.parameters.length) = some 1 := ⟨by decide, by decide, by decide +kernel⟩
set_option maxHeartbeats 4000000 in
set_option maxRecDepth 100000 in
theorem c_X6_type (l : Launch) (G : kG) (a : Nat → Nat) (hI : gI 8 a) (u : Nat → Nat → Int32) (p1 : Int32) (hLI : LI (u 0)) : Met l yX6_type (Cond.code yX6_type cX6_type 2 (some .int) :: BIG) (rmK 0) (pcG G (mP G a u) [.ref (a 0), .int p1]) (qcI G (gA 8 a) (mP G a (w_X6_type u p1)) (v_X6_type u p1)) 0 0 (gA 8 a) := by
  refine m_start (by decide) (Nat.le_of_ble_eq_true rfl) ?_
  intro p e s m args below meth c S hr hlk hnm hP hK ls hl
  have hx := S.1
  have hb := S.2.1
  have hown := S.2.2.2.1
  have hS : va_S (gA 8 a) s.heap s.heap [] := va_S.rf
  have hl : lv_has ls 2 [(0, .ref (a 0)), (1, .int p1)] := hl
  refine lv_aload_n hx hb dX6_type_0 rfl (lv_at hl 0 rfl) ?_
  refine g_get S hK hP (i := 0) (by omega) mC0 rfl inlX6 8 (by decide) k_502 (v := .int (u 0 8)) rfl dX6_type_1 ?_
  refine lv_bipush (v := 60) hx hb dX6_type_4 (by decide) ?_
  refine lv_icmp_ne (tgt := 12) hx hb dX6_type_6 (by decide) (fun c1 => ?_) (fun c1 => ?_)
  · skip
    refine lv_aload_n hx hb dX6_type_12 rfl (lv_at hl 0 rfl) ?_
    refine g_get S hK hP (i := 0) (by omega) mC0 rfl inlX6 7 (by decide) k_72 (v := .ref (a 6)) rfl dX6_type_13 ?_
    refine lv_aload_n hx hb dX6_type_16 rfl (lv_at hl 0 rfl) ?_
    refine g_get S hK hP (i := 0) (by omega) mC0 rfl inlX6 8 (by decide) k_502 (v := .int (u 0 8)) rfl dX6_type_17 ?_
    have hln : sN (u 0) 8 < 60 := LI_lt hLI c1
    refine r_top (v := nI (sN (u 0) 8)) (LI_n hLI) ?_
    refine lv_iload_n hx hb dX6_type_20 rfl (lv_at hl 1 rfl) ?_
    refine g_astN S hK hP hI hS (i := 6) (by omega) mC6 (k := sN (u 0) 8) (by omega) (by decide) dX6_type_21 (fun H locs hP hS => ?_)
    have hP : mP G a (up u 6 (sN (u 0) 8) p1) H := hP
    refine lv_aload_n hx hb dX6_type_22 rfl (lv_at hl 0 rfl) ?_
    refine lv_dup hx hb dX6_type_23 rfl ?_
    refine g_get S hK hP (i := 0) (by omega) mC0 rfl inlX6 8 (by decide) k_502 (v := .int (u 0 8)) (congrArg Value.int ((up_ni (by omega)).trans rfl)) dX6_type_24 ?_
    refine lv_iconst (v := 1) hx hb dX6_type_27 (by decide) ?_
    refine lv_iadd hx hb dX6_type_28 ?_
    refine g_put S hK hP hI hS (i := 0) (by omega) mC0 rfl inlX6 tyX6 tyX6_ok nmX6 mF_n 8 (by decide) k_502 rfl pI rfl rfl (fun _ => rfl) dX6_type_29 (fun H locs hP hS => ?_)
    have hP : mP G a (up (up u 6 (sN (u 0) 8) p1) 0 8 ((u 0 8) + (1 : Int32))) H := hP
    refine lv_aload_n hx hb dX6_type_32 rfl (lv_at hl 0 rfl) ?_
    refine g_get S hK hP (i := 0) (by omega) mC0 rfl inlX6 8 (by decide) k_502 (v := .int ((u 0 8) + (1 : Int32))) (congrArg Value.int (up_same)) dX6_type_33 ?_
    exact e_int S hr hlk rfl hK hS (gP_eq (show w_X6_type u p1 = up (up u 6 (sN (u 0) 8) p1) 0 8 ((u 0 8) + (1 : Int32)) from (if_neg c1).trans rfl) hP) (show v_X6_type u p1 = (u 0 8) + (1 : Int32) from (if_neg c1).trans rfl).symm dX6_type_36
  · skip
    refine lv_bipush (v := -3) hx hb dX6_type_9 (by decide) ?_
    exact e_int S hr hlk rfl hK hS (gP_eq (show w_X6_type u p1 = u from (if_pos c1).trans rfl) hP) (show v_X6_type u p1 = (-3 : Int32) from (if_pos c1).trans rfl).symm dX6_type_11

def v_X6_clearText (u : Nat → Nat → Int32) : Int32 := u 0 8
def w_X6_clearText (u : Nat → Nat → Int32) : Nat → Nat → Int32 := up u 0 8 (0 : Int32)
theorem q_X6_clearText : yX6_clearText.cls ≠ "java/lang/invoke/MethodHandle" ∧ yX6_clearText.cls ≠ "java/lang/invoke/VarHandle" ∧ (parseMethodDescriptor yX6_clearText.desc).map (fun d => d.parameters.length) = some 0 := ⟨by decide, by decide, by decide +kernel⟩
set_option maxHeartbeats 4000000 in
set_option maxRecDepth 100000 in
theorem c_X6_clearText (l : Launch) (G : kG) (a : Nat → Nat) (hI : gI 8 a) (u : Nat → Nat → Int32) : Met l yX6_clearText (Cond.code yX6_clearText cX6_clearText 2 (some .int) :: BIG) (rmK 0) (pcG G (mP G a u) [.ref (a 0)]) (qcI G (gA 8 a) (mP G a (w_X6_clearText u)) (v_X6_clearText u)) 0 0 (gA 8 a) := by
  refine m_start (by decide) (Nat.le_of_ble_eq_true rfl) ?_
  intro p e s m args below meth c S hr hlk hnm hP hK ls hl
  have hx := S.1
  have hb := S.2.1
  have hown := S.2.2.2.1
  have hS : va_S (gA 8 a) s.heap s.heap [] := va_S.rf
  have hl : lv_has ls 2 [(0, .ref (a 0))] := hl
  refine lv_aload_n hx hb dX6_clearText_0 rfl (lv_at hl 0 rfl) ?_
  refine g_get S hK hP (i := 0) (by omega) mC0 rfl inlX6 8 (by decide) k_502 (v := .int (u 0 8)) rfl dX6_clearText_1 ?_
  refine lv_istore_n (lv' := [(1, .int (u 0 8)), (0, .ref (a 0))]) hx hb dX6_clearText_4 rfl hl (by decide) rfl (fun ls hl => ?_)
  refine lv_aload_n hx hb dX6_clearText_5 rfl (lv_at hl 1 rfl) ?_
  refine lv_iconst (v := 0) hx hb dX6_clearText_6 (by decide) ?_
  refine g_put S hK hP hI hS (i := 0) (by omega) mC0 rfl inlX6 tyX6 tyX6_ok nmX6 mF_n 8 (by decide) k_502 rfl pI rfl rfl (fun _ => rfl) dX6_clearText_7 (fun H locs hP hS => ?_)
  have hP : mP G a (up u 0 8 (0 : Int32)) H := hP
  refine lv_iload_n hx hb dX6_clearText_10 rfl (lv_at hl 0 rfl) ?_
  exact e_int S hr hlk rfl hK hS (gP_eq (show w_X6_clearText u  = up u 0 8 (0 : Int32) from rfl) hP) (show v_X6_clearText u  = u 0 8 from rfl).symm dX6_clearText_11

def v_X6_count (u : Nat → Nat → Int32) (p1 : Int32) : Int32 := if v_X6_in p1 (15 : Int32) (19 : Int32) = 0 then (if p1 = 0 then (u 1 0) else if p1 = 1 then (u 1 6) else if p1 = 2 then (v_X6_billsOf u (-5 : Int32) (p1 - (2 : Int32))) else if p1 = 3 then (v_X6_billsOf u (-5 : Int32) (p1 - (2 : Int32))) else if p1 = 4 then (v_X6_billsOf u (-5 : Int32) (p1 - (2 : Int32))) else if p1 = 5 then (v_X6_overdue u) else if p1 = 6 then (v_X6_owedBy u (-5 : Int32) (0 : Int32)) else if p1 = 7 then (v_X6_owedBy u (-5 : Int32) (2 : Int32)) else if p1 = 8 then (v_X6_sumOfCustomers u 9) else if p1 = 9 then (v_X6_sumOfCustomers u 17) else if p1 = 10 then (u 1 7) else if p1 = 11 then (v_X6_sum u 7) else if p1 = 12 then (v_X6_sum u 8) else if p1 = 13 then (v_X6_sum u 9) else if p1 = 14 then (u 1 8) else if p1 = 15 then (-2 : Int32) else if p1 = 16 then (-2 : Int32) else if p1 = 17 then (-2 : Int32) else if p1 = 18 then (-2 : Int32) else if p1 = 19 then (-2 : Int32) else if p1 = 20 then (u 0 6) else if p1 = 21 then (u 0 8) else (-2 : Int32)) else u 1 ((((1 : Int32) + p1) - (15 : Int32)).toNatClampNeg)
theorem q_X6_count : yX6_count.cls ≠ "java/lang/invoke/MethodHandle" ∧ yX6_count.cls ≠ "java/lang/invoke/VarHandle" ∧ (parseMethodDescriptor yX6_count.desc).map (fun d => d.parameters.length) = some 1 := ⟨by decide, by decide, by decide +kernel⟩
set_option maxHeartbeats 4000000 in
set_option maxRecDepth 100000 in
theorem c_X6_count (l : Launch) (G : kG) (a : Nat → Nat) (hI : gI 8 a) (u : Nat → Nat → Int32) (p1 : Int32) (hm : SI (u 1)) : Met l yX6_count (Cond.code yX6_count cX6_count 2 (some .int) :: BIG) (rmK 5) (pcG G (mP G a u) [.ref (a 0), .int p1]) (qcI G (gA 8 a) (mP G a u) (v_X6_count u p1)) 0 0 (gA 8 a) := by
  refine m_start (by decide) (Nat.le_of_ble_eq_true rfl) ?_
  intro p e s m args below meth c S hr hlk hnm hP hK ls hl
  have hx := S.1
  have hb := S.2.1
  have hown := S.2.2.2.1
  have hS : va_S (gA 8 a) s.heap s.heap [] := va_S.rf
  have hl : lv_has ls 2 [(0, .ref (a 0)), (1, .int p1)] := hl
  refine lv_iload_n hx hb dX6_count_0 rfl (lv_at hl 1 rfl) ?_
  refine lv_bipush (v := 15) hx hb dX6_count_1 (by decide) ?_
  refine lv_bipush (v := 19) hx hb dX6_count_3 (by decide) ?_
  refine r_callS S hK hP (c_X6_in l G (mP G a u) (gA 8 a) _ _ _ ) (r_cs S k_198 k_196 k_197 k_5 q_X6_in ⟨Nat.le_of_ble_eq_true rfl, Nat.le_of_ble_eq_true rfl⟩ rfl rfl) rfl hl.1 rfl (Nat.le_of_ble_eq_true rfl) dX6_count_5 ⟨Nat.zero_le _, Nat.zero_le _⟩ hS (fun _ h => h) (fun H locs hP _ _ hS => ?_)
  have hP : mP G a u H := hP
  refine lv_if_eq (tgt := 23) hx hb dX6_count_8 (by decide) (fun c1 => ?_) (fun c1 => ?_)
  · skip
    refine lv_iload_n hx hb dX6_count_23 rfl (lv_at hl 1 rfl) ?_
    refine (Classical.em (p1 = 0)).elim (fun c2 => ?_) (fun c2 => ?_)
    · refine lv_tableIn (tgt := 128)  hx hb dX6_count_24 (by rw [c2]; decide) (by rw [c2]; decide) (by rw [c2]; rfl) (by decide) ?_
      refine lv_aload_n hx hb dX6_count_128 rfl (lv_at hl 0 rfl) ?_
      refine g_get S hK hP (i := 0) (by omega) mC0 rfl inlX6 0 (by decide) k_67 (v := .ref (a 1)) rfl dX6_count_129 ?_
      refine lv_iconst (v := 0) hx hb dX6_count_132 (by decide) ?_
      refine g_aldN S hK hP (i := 1) (by omega) mC1 (k := 0) (by omega) (by decide) (v := u 1 0) (rfl) dX6_count_133 ?_
      exact e_int S hr hlk rfl hK hS hP (show v_X6_count u p1 = u 1 0 from (if_pos c1).trans ((if_pos c2).trans rfl)).symm dX6_count_134
    refine (Classical.em (p1 = 1)).elim (fun c3 => ?_) (fun c3 => ?_)
    · refine lv_tableIn (tgt := 135)  hx hb dX6_count_24 (by rw [c3]; decide) (by rw [c3]; decide) (by rw [c3]; rfl) (by decide) ?_
      refine lv_aload_n hx hb dX6_count_135 rfl (lv_at hl 0 rfl) ?_
      refine g_get S hK hP (i := 0) (by omega) mC0 rfl inlX6 0 (by decide) k_67 (v := .ref (a 1)) rfl dX6_count_136 ?_
      refine lv_bipush (v := 6) hx hb dX6_count_139 (by decide) ?_
      refine g_aldN S hK hP (i := 1) (by omega) mC1 (k := 6) (by omega) (by decide) (v := u 1 6) (rfl) dX6_count_141 ?_
      exact e_int S hr hlk rfl hK hS hP (show v_X6_count u p1 = u 1 6 from (if_pos c1).trans ((if_neg c2).trans ((if_pos c3).trans rfl))).symm dX6_count_142
    refine (Classical.em (p1 = 2)).elim (fun c4 => ?_) (fun c4 => ?_)
    · refine lv_tableIn (tgt := 143)  hx hb dX6_count_24 (by rw [c4]; decide) (by rw [c4]; decide) (by rw [c4]; rfl) (by decide) ?_
      refine lv_aload_n hx hb dX6_count_143 rfl (lv_at hl 0 rfl) ?_
      refine lv_bipush (v := -5) hx hb dX6_count_144 (by decide) ?_
      refine lv_iload_n hx hb dX6_count_146 rfl (lv_at hl 1 rfl) ?_
      refine lv_iconst (v := 2) hx hb dX6_count_147 (by decide) ?_
      refine lv_isub hx hb dX6_count_148 ?_
      refine r_callI S hK hP (c_X6_billsOf l G a hI u _ _ hm) (r_cw S k_712 k_709 k_710 k_711 k_5 q_X6_billsOf ⟨Nat.le_of_ble_eq_true rfl, Nat.le_of_ble_eq_true rfl⟩ rfl rfl) (g_recv hK hP (i := 0) (by omega) mC0 rfl) rfl hl.1 rfl (Nat.le_of_ble_eq_true rfl) dX6_count_149 ⟨Nat.zero_le _, Nat.zero_le _⟩ hS (fun _ h => h) (fun H locs hP _ _ hS => ?_)
      have hP : mP G a u H := hP
      exact e_int S hr hlk rfl hK hS hP (show v_X6_count u p1 = v_X6_billsOf u (-5 : Int32) (p1 - (2 : Int32)) from (if_pos c1).trans ((if_neg c2).trans ((if_neg c3).trans ((if_pos c4).trans rfl)))).symm dX6_count_152
    refine (Classical.em (p1 = 3)).elim (fun c5 => ?_) (fun c5 => ?_)
    · refine lv_tableIn (tgt := 143)  hx hb dX6_count_24 (by rw [c5]; decide) (by rw [c5]; decide) (by rw [c5]; rfl) (by decide) ?_
      refine lv_aload_n hx hb dX6_count_143 rfl (lv_at hl 0 rfl) ?_
      refine lv_bipush (v := -5) hx hb dX6_count_144 (by decide) ?_
      refine lv_iload_n hx hb dX6_count_146 rfl (lv_at hl 1 rfl) ?_
      refine lv_iconst (v := 2) hx hb dX6_count_147 (by decide) ?_
      refine lv_isub hx hb dX6_count_148 ?_
      refine r_callI S hK hP (c_X6_billsOf l G a hI u _ _ hm) (r_cw S k_712 k_709 k_710 k_711 k_5 q_X6_billsOf ⟨Nat.le_of_ble_eq_true rfl, Nat.le_of_ble_eq_true rfl⟩ rfl rfl) (g_recv hK hP (i := 0) (by omega) mC0 rfl) rfl hl.1 rfl (Nat.le_of_ble_eq_true rfl) dX6_count_149 ⟨Nat.zero_le _, Nat.zero_le _⟩ hS (fun _ h => h) (fun H locs hP _ _ hS => ?_)
      have hP : mP G a u H := hP
      exact e_int S hr hlk rfl hK hS hP (show v_X6_count u p1 = v_X6_billsOf u (-5 : Int32) (p1 - (2 : Int32)) from (if_pos c1).trans ((if_neg c2).trans ((if_neg c3).trans ((if_neg c4).trans ((if_pos c5).trans rfl))))).symm dX6_count_152
    refine (Classical.em (p1 = 4)).elim (fun c6 => ?_) (fun c6 => ?_)
    · refine lv_tableIn (tgt := 143)  hx hb dX6_count_24 (by rw [c6]; decide) (by rw [c6]; decide) (by rw [c6]; rfl) (by decide) ?_
      refine lv_aload_n hx hb dX6_count_143 rfl (lv_at hl 0 rfl) ?_
      refine lv_bipush (v := -5) hx hb dX6_count_144 (by decide) ?_
      refine lv_iload_n hx hb dX6_count_146 rfl (lv_at hl 1 rfl) ?_
      refine lv_iconst (v := 2) hx hb dX6_count_147 (by decide) ?_
      refine lv_isub hx hb dX6_count_148 ?_
      refine r_callI S hK hP (c_X6_billsOf l G a hI u _ _ hm) (r_cw S k_712 k_709 k_710 k_711 k_5 q_X6_billsOf ⟨Nat.le_of_ble_eq_true rfl, Nat.le_of_ble_eq_true rfl⟩ rfl rfl) (g_recv hK hP (i := 0) (by omega) mC0 rfl) rfl hl.1 rfl (Nat.le_of_ble_eq_true rfl) dX6_count_149 ⟨Nat.zero_le _, Nat.zero_le _⟩ hS (fun _ h => h) (fun H locs hP _ _ hS => ?_)
      have hP : mP G a u H := hP
      exact e_int S hr hlk rfl hK hS hP (show v_X6_count u p1 = v_X6_billsOf u (-5 : Int32) (p1 - (2 : Int32)) from (if_pos c1).trans ((if_neg c2).trans ((if_neg c3).trans ((if_neg c4).trans ((if_neg c5).trans ((if_pos c6).trans rfl)))))).symm dX6_count_152
    refine (Classical.em (p1 = 5)).elim (fun c7 => ?_) (fun c7 => ?_)
    · refine lv_tableIn (tgt := 153)  hx hb dX6_count_24 (by rw [c7]; decide) (by rw [c7]; decide) (by rw [c7]; rfl) (by decide) ?_
      refine lv_aload_n hx hb dX6_count_153 rfl (lv_at hl 0 rfl) ?_
      refine r_callI S hK hP (c_X6_overdue l G a hI u hm) (r_cw S k_364 k_361 k_362 k_363 k_5 q_X6_overdue ⟨Nat.le_of_ble_eq_true rfl, Nat.le_of_ble_eq_true rfl⟩ rfl rfl) (g_recv hK hP (i := 0) (by omega) mC0 rfl) rfl hl.1 rfl (Nat.le_of_ble_eq_true rfl) dX6_count_154 ⟨Nat.zero_le _, Nat.zero_le _⟩ hS (fun _ h => h) (fun H locs hP _ _ hS => ?_)
      have hP : mP G a u H := hP
      exact e_int S hr hlk rfl hK hS hP (show v_X6_count u p1 = v_X6_overdue u from (if_pos c1).trans ((if_neg c2).trans ((if_neg c3).trans ((if_neg c4).trans ((if_neg c5).trans ((if_neg c6).trans ((if_pos c7).trans rfl))))))).symm dX6_count_157
    refine (Classical.em (p1 = 6)).elim (fun c8 => ?_) (fun c8 => ?_)
    · refine lv_tableIn (tgt := 158)  hx hb dX6_count_24 (by rw [c8]; decide) (by rw [c8]; decide) (by rw [c8]; rfl) (by decide) ?_
      refine lv_aload_n hx hb dX6_count_158 rfl (lv_at hl 0 rfl) ?_
      refine lv_bipush (v := -5) hx hb dX6_count_159 (by decide) ?_
      refine lv_iconst (v := 0) hx hb dX6_count_161 (by decide) ?_
      refine r_callI S hK hP (c_X6_owedBy l G a hI u _ _ hm) (r_cw S k_716 k_713 k_714 k_715 k_5 q_X6_owedBy ⟨Nat.le_of_ble_eq_true rfl, Nat.le_of_ble_eq_true rfl⟩ rfl rfl) (g_recv hK hP (i := 0) (by omega) mC0 rfl) rfl hl.1 rfl (Nat.le_of_ble_eq_true rfl) dX6_count_162 ⟨Nat.zero_le _, Nat.zero_le _⟩ hS (fun _ h => h) (fun H locs hP _ _ hS => ?_)
      have hP : mP G a u H := hP
      exact e_int S hr hlk rfl hK hS hP (show v_X6_count u p1 = v_X6_owedBy u (-5 : Int32) (0 : Int32) from (if_pos c1).trans ((if_neg c2).trans ((if_neg c3).trans ((if_neg c4).trans ((if_neg c5).trans ((if_neg c6).trans ((if_neg c7).trans ((if_pos c8).trans rfl)))))))).symm dX6_count_165
    refine (Classical.em (p1 = 7)).elim (fun c9 => ?_) (fun c9 => ?_)
    · refine lv_tableIn (tgt := 166)  hx hb dX6_count_24 (by rw [c9]; decide) (by rw [c9]; decide) (by rw [c9]; rfl) (by decide) ?_
      refine lv_aload_n hx hb dX6_count_166 rfl (lv_at hl 0 rfl) ?_
      refine lv_bipush (v := -5) hx hb dX6_count_167 (by decide) ?_
      refine lv_iconst (v := 2) hx hb dX6_count_169 (by decide) ?_
      refine r_callI S hK hP (c_X6_owedBy l G a hI u _ _ hm) (r_cw S k_716 k_713 k_714 k_715 k_5 q_X6_owedBy ⟨Nat.le_of_ble_eq_true rfl, Nat.le_of_ble_eq_true rfl⟩ rfl rfl) (g_recv hK hP (i := 0) (by omega) mC0 rfl) rfl hl.1 rfl (Nat.le_of_ble_eq_true rfl) dX6_count_170 ⟨Nat.zero_le _, Nat.zero_le _⟩ hS (fun _ h => h) (fun H locs hP _ _ hS => ?_)
      have hP : mP G a u H := hP
      exact e_int S hr hlk rfl hK hS hP (show v_X6_count u p1 = v_X6_owedBy u (-5 : Int32) (2 : Int32) from (if_pos c1).trans ((if_neg c2).trans ((if_neg c3).trans ((if_neg c4).trans ((if_neg c5).trans ((if_neg c6).trans ((if_neg c7).trans ((if_neg c8).trans ((if_pos c9).trans rfl))))))))).symm dX6_count_173
    refine (Classical.em (p1 = 8)).elim (fun c10 => ?_) (fun c10 => ?_)
    · refine lv_tableIn (tgt := 174)  hx hb dX6_count_24 (by rw [c10]; decide) (by rw [c10]; decide) (by rw [c10]; rfl) (by decide) ?_
      refine lv_aload_n hx hb dX6_count_174 rfl (lv_at hl 0 rfl) ?_
      refine lv_bipush (v := 9) hx hb dX6_count_175 (by decide) ?_
      refine r_callI S hK hP (c_X6_sumOfCustomers l G a hI u 9 (by omega) ) (r_cw S k_830 k_827 k_828 k_829 k_5 q_X6_sumOfCustomers ⟨Nat.le_of_ble_eq_true rfl, Nat.le_of_ble_eq_true rfl⟩ rfl rfl) (g_recv hK hP (i := 0) (by omega) mC0 rfl) rfl hl.1 rfl (Nat.le_of_ble_eq_true rfl) dX6_count_177 ⟨Nat.zero_le _, Nat.zero_le _⟩ hS (fun _ h => h) (fun H locs hP _ _ hS => ?_)
      have hP : mP G a u H := hP
      exact e_int S hr hlk rfl hK hS hP (show v_X6_count u p1 = v_X6_sumOfCustomers u 9 from (if_pos c1).trans ((if_neg c2).trans ((if_neg c3).trans ((if_neg c4).trans ((if_neg c5).trans ((if_neg c6).trans ((if_neg c7).trans ((if_neg c8).trans ((if_neg c9).trans ((if_pos c10).trans rfl)))))))))).symm dX6_count_180
    refine (Classical.em (p1 = 9)).elim (fun c11 => ?_) (fun c11 => ?_)
    · refine lv_tableIn (tgt := 181)  hx hb dX6_count_24 (by rw [c11]; decide) (by rw [c11]; decide) (by rw [c11]; rfl) (by decide) ?_
      refine lv_aload_n hx hb dX6_count_181 rfl (lv_at hl 0 rfl) ?_
      refine lv_bipush (v := 17) hx hb dX6_count_182 (by decide) ?_
      refine r_callI S hK hP (c_X6_sumOfCustomers l G a hI u 17 (by omega) ) (r_cw S k_830 k_827 k_828 k_829 k_5 q_X6_sumOfCustomers ⟨Nat.le_of_ble_eq_true rfl, Nat.le_of_ble_eq_true rfl⟩ rfl rfl) (g_recv hK hP (i := 0) (by omega) mC0 rfl) rfl hl.1 rfl (Nat.le_of_ble_eq_true rfl) dX6_count_184 ⟨Nat.zero_le _, Nat.zero_le _⟩ hS (fun _ h => h) (fun H locs hP _ _ hS => ?_)
      have hP : mP G a u H := hP
      exact e_int S hr hlk rfl hK hS hP (show v_X6_count u p1 = v_X6_sumOfCustomers u 17 from (if_pos c1).trans ((if_neg c2).trans ((if_neg c3).trans ((if_neg c4).trans ((if_neg c5).trans ((if_neg c6).trans ((if_neg c7).trans ((if_neg c8).trans ((if_neg c9).trans ((if_neg c10).trans ((if_pos c11).trans rfl))))))))))).symm dX6_count_187
    refine (Classical.em (p1 = 10)).elim (fun c12 => ?_) (fun c12 => ?_)
    · refine lv_tableIn (tgt := 188)  hx hb dX6_count_24 (by rw [c12]; decide) (by rw [c12]; decide) (by rw [c12]; rfl) (by decide) ?_
      refine lv_aload_n hx hb dX6_count_188 rfl (lv_at hl 0 rfl) ?_
      refine g_get S hK hP (i := 0) (by omega) mC0 rfl inlX6 0 (by decide) k_67 (v := .ref (a 1)) rfl dX6_count_189 ?_
      refine lv_bipush (v := 7) hx hb dX6_count_192 (by decide) ?_
      refine g_aldN S hK hP (i := 1) (by omega) mC1 (k := 7) (by omega) (by decide) (v := u 1 7) (rfl) dX6_count_194 ?_
      exact e_int S hr hlk rfl hK hS hP (show v_X6_count u p1 = u 1 7 from (if_pos c1).trans ((if_neg c2).trans ((if_neg c3).trans ((if_neg c4).trans ((if_neg c5).trans ((if_neg c6).trans ((if_neg c7).trans ((if_neg c8).trans ((if_neg c9).trans ((if_neg c10).trans ((if_neg c11).trans ((if_pos c12).trans rfl)))))))))))).symm dX6_count_195
    refine (Classical.em (p1 = 11)).elim (fun c13 => ?_) (fun c13 => ?_)
    · refine lv_tableIn (tgt := 196)  hx hb dX6_count_24 (by rw [c13]; decide) (by rw [c13]; decide) (by rw [c13]; rfl) (by decide) ?_
      refine lv_aload_n hx hb dX6_count_196 rfl (lv_at hl 0 rfl) ?_
      refine lv_bipush (v := 7) hx hb dX6_count_197 (by decide) ?_
      refine r_callI S hK hP (c_X6_sum l G a hI u 7 (by omega) hm) (r_cw S k_762 k_759 k_760 k_761 k_5 q_X6_sum ⟨Nat.le_of_ble_eq_true rfl, Nat.le_of_ble_eq_true rfl⟩ rfl rfl) (g_recv hK hP (i := 0) (by omega) mC0 rfl) rfl hl.1 rfl (Nat.le_of_ble_eq_true rfl) dX6_count_199 ⟨Nat.zero_le _, Nat.zero_le _⟩ hS (fun _ h => h) (fun H locs hP _ _ hS => ?_)
      have hP : mP G a u H := hP
      exact e_int S hr hlk rfl hK hS hP (show v_X6_count u p1 = v_X6_sum u 7 from (if_pos c1).trans ((if_neg c2).trans ((if_neg c3).trans ((if_neg c4).trans ((if_neg c5).trans ((if_neg c6).trans ((if_neg c7).trans ((if_neg c8).trans ((if_neg c9).trans ((if_neg c10).trans ((if_neg c11).trans ((if_neg c12).trans ((if_pos c13).trans rfl))))))))))))).symm dX6_count_202
    refine (Classical.em (p1 = 12)).elim (fun c14 => ?_) (fun c14 => ?_)
    · refine lv_tableIn (tgt := 203)  hx hb dX6_count_24 (by rw [c14]; decide) (by rw [c14]; decide) (by rw [c14]; rfl) (by decide) ?_
      refine lv_aload_n hx hb dX6_count_203 rfl (lv_at hl 0 rfl) ?_
      refine lv_bipush (v := 8) hx hb dX6_count_204 (by decide) ?_
      refine r_callI S hK hP (c_X6_sum l G a hI u 8 (by omega) hm) (r_cw S k_762 k_759 k_760 k_761 k_5 q_X6_sum ⟨Nat.le_of_ble_eq_true rfl, Nat.le_of_ble_eq_true rfl⟩ rfl rfl) (g_recv hK hP (i := 0) (by omega) mC0 rfl) rfl hl.1 rfl (Nat.le_of_ble_eq_true rfl) dX6_count_206 ⟨Nat.zero_le _, Nat.zero_le _⟩ hS (fun _ h => h) (fun H locs hP _ _ hS => ?_)
      have hP : mP G a u H := hP
      exact e_int S hr hlk rfl hK hS hP (show v_X6_count u p1 = v_X6_sum u 8 from (if_pos c1).trans ((if_neg c2).trans ((if_neg c3).trans ((if_neg c4).trans ((if_neg c5).trans ((if_neg c6).trans ((if_neg c7).trans ((if_neg c8).trans ((if_neg c9).trans ((if_neg c10).trans ((if_neg c11).trans ((if_neg c12).trans ((if_neg c13).trans ((if_pos c14).trans rfl)))))))))))))).symm dX6_count_209
    refine (Classical.em (p1 = 13)).elim (fun c15 => ?_) (fun c15 => ?_)
    · refine lv_tableIn (tgt := 210)  hx hb dX6_count_24 (by rw [c15]; decide) (by rw [c15]; decide) (by rw [c15]; rfl) (by decide) ?_
      refine lv_aload_n hx hb dX6_count_210 rfl (lv_at hl 0 rfl) ?_
      refine lv_bipush (v := 9) hx hb dX6_count_211 (by decide) ?_
      refine r_callI S hK hP (c_X6_sum l G a hI u 9 (by omega) hm) (r_cw S k_762 k_759 k_760 k_761 k_5 q_X6_sum ⟨Nat.le_of_ble_eq_true rfl, Nat.le_of_ble_eq_true rfl⟩ rfl rfl) (g_recv hK hP (i := 0) (by omega) mC0 rfl) rfl hl.1 rfl (Nat.le_of_ble_eq_true rfl) dX6_count_213 ⟨Nat.zero_le _, Nat.zero_le _⟩ hS (fun _ h => h) (fun H locs hP _ _ hS => ?_)
      have hP : mP G a u H := hP
      exact e_int S hr hlk rfl hK hS hP (show v_X6_count u p1 = v_X6_sum u 9 from (if_pos c1).trans ((if_neg c2).trans ((if_neg c3).trans ((if_neg c4).trans ((if_neg c5).trans ((if_neg c6).trans ((if_neg c7).trans ((if_neg c8).trans ((if_neg c9).trans ((if_neg c10).trans ((if_neg c11).trans ((if_neg c12).trans ((if_neg c13).trans ((if_neg c14).trans ((if_pos c15).trans rfl))))))))))))))).symm dX6_count_216
    refine (Classical.em (p1 = 14)).elim (fun c16 => ?_) (fun c16 => ?_)
    · refine lv_tableIn (tgt := 217)  hx hb dX6_count_24 (by rw [c16]; decide) (by rw [c16]; decide) (by rw [c16]; rfl) (by decide) ?_
      refine lv_aload_n hx hb dX6_count_217 rfl (lv_at hl 0 rfl) ?_
      refine g_get S hK hP (i := 0) (by omega) mC0 rfl inlX6 0 (by decide) k_67 (v := .ref (a 1)) rfl dX6_count_218 ?_
      refine lv_bipush (v := 8) hx hb dX6_count_221 (by decide) ?_
      refine g_aldN S hK hP (i := 1) (by omega) mC1 (k := 8) (by omega) (by decide) (v := u 1 8) (rfl) dX6_count_223 ?_
      exact e_int S hr hlk rfl hK hS hP (show v_X6_count u p1 = u 1 8 from (if_pos c1).trans ((if_neg c2).trans ((if_neg c3).trans ((if_neg c4).trans ((if_neg c5).trans ((if_neg c6).trans ((if_neg c7).trans ((if_neg c8).trans ((if_neg c9).trans ((if_neg c10).trans ((if_neg c11).trans ((if_neg c12).trans ((if_neg c13).trans ((if_neg c14).trans ((if_neg c15).trans ((if_pos c16).trans rfl)))))))))))))))).symm dX6_count_224
    refine (Classical.em (p1 = 15)).elim (fun c17 => ?_) (fun c17 => ?_)
    · refine lv_tableIn (tgt := 235)  hx hb dX6_count_24 (by rw [c17]; decide) (by rw [c17]; decide) (by rw [c17]; rfl) (by decide) ?_
      refine lv_bipush (v := -2) hx hb dX6_count_235 (by decide) ?_
      exact e_int S hr hlk rfl hK hS hP (show v_X6_count u p1 = (-2 : Int32) from (if_pos c1).trans ((if_neg c2).trans ((if_neg c3).trans ((if_neg c4).trans ((if_neg c5).trans ((if_neg c6).trans ((if_neg c7).trans ((if_neg c8).trans ((if_neg c9).trans ((if_neg c10).trans ((if_neg c11).trans ((if_neg c12).trans ((if_neg c13).trans ((if_neg c14).trans ((if_neg c15).trans ((if_neg c16).trans ((if_pos c17).trans rfl))))))))))))))))).symm dX6_count_237
    refine (Classical.em (p1 = 16)).elim (fun c18 => ?_) (fun c18 => ?_)
    · refine lv_tableIn (tgt := 235)  hx hb dX6_count_24 (by rw [c18]; decide) (by rw [c18]; decide) (by rw [c18]; rfl) (by decide) ?_
      refine lv_bipush (v := -2) hx hb dX6_count_235 (by decide) ?_
      exact e_int S hr hlk rfl hK hS hP (show v_X6_count u p1 = (-2 : Int32) from (if_pos c1).trans ((if_neg c2).trans ((if_neg c3).trans ((if_neg c4).trans ((if_neg c5).trans ((if_neg c6).trans ((if_neg c7).trans ((if_neg c8).trans ((if_neg c9).trans ((if_neg c10).trans ((if_neg c11).trans ((if_neg c12).trans ((if_neg c13).trans ((if_neg c14).trans ((if_neg c15).trans ((if_neg c16).trans ((if_neg c17).trans ((if_pos c18).trans rfl)))))))))))))))))).symm dX6_count_237
    refine (Classical.em (p1 = 17)).elim (fun c19 => ?_) (fun c19 => ?_)
    · refine lv_tableIn (tgt := 235)  hx hb dX6_count_24 (by rw [c19]; decide) (by rw [c19]; decide) (by rw [c19]; rfl) (by decide) ?_
      refine lv_bipush (v := -2) hx hb dX6_count_235 (by decide) ?_
      exact e_int S hr hlk rfl hK hS hP (show v_X6_count u p1 = (-2 : Int32) from (if_pos c1).trans ((if_neg c2).trans ((if_neg c3).trans ((if_neg c4).trans ((if_neg c5).trans ((if_neg c6).trans ((if_neg c7).trans ((if_neg c8).trans ((if_neg c9).trans ((if_neg c10).trans ((if_neg c11).trans ((if_neg c12).trans ((if_neg c13).trans ((if_neg c14).trans ((if_neg c15).trans ((if_neg c16).trans ((if_neg c17).trans ((if_neg c18).trans ((if_pos c19).trans rfl))))))))))))))))))).symm dX6_count_237
    refine (Classical.em (p1 = 18)).elim (fun c20 => ?_) (fun c20 => ?_)
    · refine lv_tableIn (tgt := 235)  hx hb dX6_count_24 (by rw [c20]; decide) (by rw [c20]; decide) (by rw [c20]; rfl) (by decide) ?_
      refine lv_bipush (v := -2) hx hb dX6_count_235 (by decide) ?_
      exact e_int S hr hlk rfl hK hS hP (show v_X6_count u p1 = (-2 : Int32) from (if_pos c1).trans ((if_neg c2).trans ((if_neg c3).trans ((if_neg c4).trans ((if_neg c5).trans ((if_neg c6).trans ((if_neg c7).trans ((if_neg c8).trans ((if_neg c9).trans ((if_neg c10).trans ((if_neg c11).trans ((if_neg c12).trans ((if_neg c13).trans ((if_neg c14).trans ((if_neg c15).trans ((if_neg c16).trans ((if_neg c17).trans ((if_neg c18).trans ((if_neg c19).trans ((if_pos c20).trans rfl)))))))))))))))))))).symm dX6_count_237
    refine (Classical.em (p1 = 19)).elim (fun c21 => ?_) (fun c21 => ?_)
    · refine lv_tableIn (tgt := 235)  hx hb dX6_count_24 (by rw [c21]; decide) (by rw [c21]; decide) (by rw [c21]; rfl) (by decide) ?_
      refine lv_bipush (v := -2) hx hb dX6_count_235 (by decide) ?_
      exact e_int S hr hlk rfl hK hS hP (show v_X6_count u p1 = (-2 : Int32) from (if_pos c1).trans ((if_neg c2).trans ((if_neg c3).trans ((if_neg c4).trans ((if_neg c5).trans ((if_neg c6).trans ((if_neg c7).trans ((if_neg c8).trans ((if_neg c9).trans ((if_neg c10).trans ((if_neg c11).trans ((if_neg c12).trans ((if_neg c13).trans ((if_neg c14).trans ((if_neg c15).trans ((if_neg c16).trans ((if_neg c17).trans ((if_neg c18).trans ((if_neg c19).trans ((if_neg c20).trans ((if_pos c21).trans rfl))))))))))))))))))))).symm dX6_count_237
    refine (Classical.em (p1 = 20)).elim (fun c22 => ?_) (fun c22 => ?_)
    · refine lv_tableIn (tgt := 225)  hx hb dX6_count_24 (by rw [c22]; decide) (by rw [c22]; decide) (by rw [c22]; rfl) (by decide) ?_
      refine lv_aload_n hx hb dX6_count_225 rfl (lv_at hl 0 rfl) ?_
      refine g_get S hK hP (i := 0) (by omega) mC0 rfl inlX6 6 (by decide) k_214 (v := .int (u 0 6)) rfl dX6_count_226 ?_
      exact e_int S hr hlk rfl hK hS hP (show v_X6_count u p1 = u 0 6 from (if_pos c1).trans ((if_neg c2).trans ((if_neg c3).trans ((if_neg c4).trans ((if_neg c5).trans ((if_neg c6).trans ((if_neg c7).trans ((if_neg c8).trans ((if_neg c9).trans ((if_neg c10).trans ((if_neg c11).trans ((if_neg c12).trans ((if_neg c13).trans ((if_neg c14).trans ((if_neg c15).trans ((if_neg c16).trans ((if_neg c17).trans ((if_neg c18).trans ((if_neg c19).trans ((if_neg c20).trans ((if_neg c21).trans ((if_pos c22).trans rfl)))))))))))))))))))))).symm dX6_count_229
    refine (Classical.em (p1 = 21)).elim (fun c23 => ?_) (fun c23 => ?_)
    · refine lv_tableIn (tgt := 230)  hx hb dX6_count_24 (by rw [c23]; decide) (by rw [c23]; decide) (by rw [c23]; rfl) (by decide) ?_
      refine lv_aload_n hx hb dX6_count_230 rfl (lv_at hl 0 rfl) ?_
      refine g_get S hK hP (i := 0) (by omega) mC0 rfl inlX6 8 (by decide) k_502 (v := .int (u 0 8)) rfl dX6_count_231 ?_
      exact e_int S hr hlk rfl hK hS hP (show v_X6_count u p1 = u 0 8 from (if_pos c1).trans ((if_neg c2).trans ((if_neg c3).trans ((if_neg c4).trans ((if_neg c5).trans ((if_neg c6).trans ((if_neg c7).trans ((if_neg c8).trans ((if_neg c9).trans ((if_neg c10).trans ((if_neg c11).trans ((if_neg c12).trans ((if_neg c13).trans ((if_neg c14).trans ((if_neg c15).trans ((if_neg c16).trans ((if_neg c17).trans ((if_neg c18).trans ((if_neg c19).trans ((if_neg c20).trans ((if_neg c21).trans ((if_neg c22).trans ((if_pos c23).trans rfl))))))))))))))))))))))).symm dX6_count_234
    refine lv_tableOut (tgt := 235) hx hb dX6_count_24 (by have h0 := lv_neT c2 (a := 0) (by decide); have h1 := lv_neT c3 (a := 1) (by decide); have h2 := lv_neT c4 (a := 2) (by decide); have h3 := lv_neT c5 (a := 3) (by decide); have h4 := lv_neT c6 (a := 4) (by decide); have h5 := lv_neT c7 (a := 5) (by decide); have h6 := lv_neT c8 (a := 6) (by decide); have h7 := lv_neT c9 (a := 7) (by decide); have h8 := lv_neT c10 (a := 8) (by decide); have h9 := lv_neT c11 (a := 9) (by decide); have h10 := lv_neT c12 (a := 10) (by decide); have h11 := lv_neT c13 (a := 11) (by decide); have h12 := lv_neT c14 (a := 12) (by decide); have h13 := lv_neT c15 (a := 13) (by decide); have h14 := lv_neT c16 (a := 14) (by decide); have h15 := lv_neT c17 (a := 15) (by decide); have h16 := lv_neT c18 (a := 16) (by decide); have h17 := lv_neT c19 (a := 17) (by decide); have h18 := lv_neT c20 (a := 18) (by decide); have h19 := lv_neT c21 (a := 19) (by decide); have h20 := lv_neT c22 (a := 20) (by decide); have h21 := lv_neT c23 (a := 21) (by decide); omega) (by decide) ?_
    refine lv_bipush (v := -2) hx hb dX6_count_235 (by decide) ?_
    exact e_int S hr hlk rfl hK hS hP (show v_X6_count u p1 = (-2 : Int32) from (if_pos c1).trans ((if_neg c2).trans ((if_neg c3).trans ((if_neg c4).trans ((if_neg c5).trans ((if_neg c6).trans ((if_neg c7).trans ((if_neg c8).trans ((if_neg c9).trans ((if_neg c10).trans ((if_neg c11).trans ((if_neg c12).trans ((if_neg c13).trans ((if_neg c14).trans ((if_neg c15).trans ((if_neg c16).trans ((if_neg c17).trans ((if_neg c18).trans ((if_neg c19).trans ((if_neg c20).trans ((if_neg c21).trans ((if_neg c22).trans ((if_neg c23).trans rfl))))))))))))))))))))))).symm dX6_count_237
  · skip
    refine lv_aload_n hx hb dX6_count_11 rfl (lv_at hl 0 rfl) ?_
    refine g_get S hK hP (i := 0) (by omega) mC0 rfl inlX6 0 (by decide) k_67 (v := .ref (a 1)) rfl dX6_count_12 ?_
    refine lv_iconst (v := 1) hx hb dX6_count_15 (by decide) ?_
    refine lv_iload_n hx hb dX6_count_16 rfl (lv_at hl 1 rfl) ?_
    refine lv_iadd hx hb dX6_count_17 ?_
    refine lv_bipush (v := 15) hx hb dX6_count_18 (by decide) ?_
    refine lv_isub hx hb dX6_count_20 ?_
    refine g_ald S hK hP (i := 1) (by omega) mC1 (count_in c1) (v := u 1 ((((1 : Int32) + p1) - (15 : Int32)).toNatClampNeg)) (rfl) dX6_count_21 ?_
    exact e_int S hr hlk rfl hK hS hP (show v_X6_count u p1 = u 1 ((((1 : Int32) + p1) - (15 : Int32)).toNatClampNeg) from (if_neg c1).trans rfl).symm dX6_count_22
