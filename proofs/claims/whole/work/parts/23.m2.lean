def w_X6_records_loop2 : Nat → Nat → (Nat → Nat → Int32) → (Nat → Nat → Int32)
  | 0, k, u2 => up u2 0 6 ((u2 0 6) + (1 : Int32))
  | n + 1, k, u2 => w_X6_records_loop2 n (k + 1) (up u2 5 (713 * (sN (u2 0) 6) + k) (u2 3 k))
def w_X6_records_loop1 : Nat → Nat → (Nat → Nat → Int32) → (Nat → Nat → Int32)
  | 0, k, u1 => w_X6_records_loop2 713 0 (up u1 0 6 ((u1 0 6) - (1 : Int32)))
  | n + 1, k, u1 => w_X6_records_loop1 n (k + 1) (up u1 5 k (u1 5 (713 + k)))
def w_X6_records (u : Nat → Nat → Int32) : Nat → Nat → Int32 := if u 0 6 = (4 : Int32) then (w_X6_records_loop1 2139 0 u) else w_X6_records_loop2 713 0 u
theorem q_X6_records : yX6_records.cls ≠ "java/lang/invoke/MethodHandle" ∧ yX6_records.cls ≠ "java/lang/invoke/VarHandle" ∧ (parseMethodDescriptor yX6_records.desc).map (fun d => d.parameters.length) = some 0 := ⟨by decide, by decide, by decide +kernel⟩
set_option maxHeartbeats 4000000 in
set_option maxRecDepth 100000 in
theorem c_X6_records (l : Launch) (G : kG) (a : Nat → Nat) (hI : gI 8 a) (u : Nat → Nat → Int32) (hk6 : KI (u 0)) : Met l yX6_records (Cond.code yX6_records cX6_records 2 none :: BIG) (rmK 0) (pcG G (mP G a u) [.ref (a 0)]) (qcV G (gA 8 a) (mP G a (w_X6_records u))) 0 0 (gA 8 a) := by
  refine m_start (by decide) (Nat.le_of_ble_eq_true rfl) ?_
  intro p e s m args below meth c S hr hlk hnm hP hK ls hl
  have hx := S.1
  have hb := S.2.1
  have hown := S.2.2.2.1
  have hS : va_S (gA 8 a) s.heap s.heap [] := va_S.rf
  have hl : lv_has ls 2 [(0, .ref (a 0))] := hl
  refine lv_aload_n hx hb dX6_records_0 rfl (lv_at hl 0 rfl) ?_
  refine g_get S hK hP (i := 0) (by omega) mC0 rfl inlX6 6 (by decide) k_214 (v := .int (u 0 6)) rfl dX6_records_1 ?_
  refine lv_iconst (v := 4) hx hb dX6_records_4 (by decide) ?_
  refine lv_icmp_ne (tgt := 49) hx hb dX6_records_5 (by decide) (fun c1 => ?_) (fun c1 => ?_)
  · skip
    refine lv_iconst (v := 0) hx hb dX6_records_49 (by decide) ?_
    refine lv_istore_n (lv' := [(1, .int (0 : Int32)), (0, .ref (a 0))]) hx hb dX6_records_50 rfl hl (by decide) rfl (fun ls hl => ?_)
    have LP_loop2 : ∀ (n : Nat) (k : Nat), k + n = 713 → ∀ (u2 : Nat → Nat → Int32) (H : Heap) (locs : List Loc), mP G a u2 H → va_S (gA 8 a) s.heap H locs → KJ (u2 0) → ∀ ls : Array Slot, lv_has ls 2 [(1, .int (nI k)), (0, .ref (a 0))] → W p l e (rmK 0) s m args below meth c H locs 0 0 (MQ below (qcV G (gA 8 a) (mP G a (w_X6_records_loop2 n k u2))) args s 0 0 (gA 8 a)) (F0 m 51 ls []) := by
      intro n
      induction n with
      | zero =>
        intro k hk_LP_loop2 u2 H locs hP hS hkn ls hl
        have hkn2 := hkn.2
        refine lv_iload_n hx hb dX6_records_51 rfl (lv_at hl 0 rfl) ?_
        refine lv_sipush (v := 713) hx hb dX6_records_52 (by decide) ?_
        refine lv_icmp_ge (tgt := 85) hx hb dX6_records_55 (by decide) (fun _ => ?_) (fun c => absurd ((nI_leI (a := 713) (b := k) (by omega) (by omega)).mpr (by omega)) c)
        refine lv_aload_n hx hb dX6_records_85 rfl (lv_at hl 1 rfl) ?_
        refine lv_dup hx hb dX6_records_86 rfl ?_
        refine g_get S hK hP (i := 0) (by omega) mC0 rfl inlX6 6 (by decide) k_214 (v := .int (u2 0 6)) rfl dX6_records_87 ?_
        refine lv_iconst (v := 1) hx hb dX6_records_90 (by decide) ?_
        refine lv_iadd hx hb dX6_records_91 ?_
        refine g_put S hK hP hI hS (i := 0) (by omega) mC0 rfl inlX6 tyX6 tyX6_ok nmX6 mF_n 6 (by decide) k_214 rfl pI rfl rfl (fun _ => rfl) dX6_records_92 (fun H locs hP hS => ?_)
        have hP : mP G a (up u2 0 6 ((u2 0 6) + (1 : Int32))) H := hP
        exact e_void S hr hlk hK hS (gP_eq (show w_X6_records_loop2 0 k u2 = up u2 0 6 ((u2 0 6) + (1 : Int32)) from rfl) hP) dX6_records_95
      | succ n ih_LP_loop2 =>
        intro k hk_LP_loop2 u2 H locs hP hS hkn ls hl
        have hkn2 := hkn.2
        refine lv_iload_n hx hb dX6_records_51 rfl (lv_at hl 0 rfl) ?_
        refine lv_sipush (v := 713) hx hb dX6_records_52 (by decide) ?_
        refine lv_icmp_ge (tgt := 85) hx hb dX6_records_55 (by decide) (fun c => absurd c (fun z => absurd ((nI_leI (a := 713) (b := k) (by omega) (by omega)).mp z) (by omega))) (fun _ => ?_)
        refine lv_aload_n hx hb dX6_records_58 rfl (lv_at hl 1 rfl) ?_
        refine g_get S hK hP (i := 0) (by omega) mC0 rfl inlX6 5 (by decide) k_71 (v := .ref (a 5)) rfl dX6_records_59 ?_
        refine lv_sipush (v := 713) hx hb dX6_records_62 (by decide) ?_
        refine lv_aload_n hx hb dX6_records_65 rfl (lv_at hl 1 rfl) ?_
        refine g_get S hK hP (i := 0) (by omega) mC0 rfl inlX6 6 (by decide) k_214 (v := .int (u2 0 6)) rfl dX6_records_66 ?_
        refine r_top (v := nI (sN (u2 0) 6)) hkn.1 ?_
        refine lv_imul hx hb dX6_records_69 ?_
        refine r_top (v := nI (713 * (sN (u2 0) 6))) (pk_mul 713 (sN (u2 0) 6)) ?_
        refine lv_iload_n hx hb dX6_records_70 rfl (lv_at hl 0 rfl) ?_
        refine lv_iadd hx hb dX6_records_71 ?_
        refine r_top (v := nI (713 * (sN (u2 0) 6) + k)) (nI_add (713 * (sN (u2 0) 6)) k) ?_
        refine lv_aload_n hx hb dX6_records_72 rfl (lv_at hl 1 rfl) ?_
        refine g_get S hK hP (i := 0) (by omega) mC0 rfl inlX6 2 (by decide) k_69 (v := .ref (a 3)) rfl dX6_records_73 ?_
        refine lv_iload_n hx hb dX6_records_76 rfl (lv_at hl 0 rfl) ?_
        refine g_aldN S hK hP (i := 3) (by omega) mC3 (k := k) (by omega) (by decide) (v := u2 3 k) (rfl) dX6_records_77 ?_
        refine g_astN S hK hP hI hS (i := 5) (by omega) mC5 (k := 713 * (sN (u2 0) 6) + k) (by omega) (by decide) dX6_records_78 (fun H locs hP hS => ?_)
        have hP : mP G a (up u2 5 (713 * (sN (u2 0) 6) + k) (u2 3 k)) H := hP
        refine lv_iinc (v := nI (k + 1)) (lv' := [(1, .int (nI (k + 1))), (0, .ref (a 0))]) hx hb dX6_records_79 hl (k := 0) rfl (nI_1 _) (by decide) rfl (fun ls hl => ?_)
        refine lv_goto (tgt := 51) hx hb dX6_records_82 (by decide) ?_
        refine q_eqV (show w_X6_records_loop2 (n + 1) k u2 = w_X6_records_loop2 n (k + 1) (up u2 5 (713 * (sN (u2 0) 6) + k) (u2 3 k)) from rfl) ?_
        exact ih_LP_loop2 (k + 1) (by omega) _ _ _ hP hS (KJ_up hkn) ls (lv_sub hl [0, 1] rfl)
    refine q_eqV (show w_X6_records u  = w_X6_records_loop2 713 0 u from (if_neg c1).trans rfl) ?_
    exact LP_loop2 713 0 (by omega) _ _ _ hP hS (KJ_of hk6 c1) ls (lv_sub hl [0, 1] rfl)
  · skip
    refine lv_iconst (v := 0) hx hb dX6_records_8 (by decide) ?_
    refine lv_istore_n (lv' := [(1, .int (0 : Int32)), (0, .ref (a 0))]) hx hb dX6_records_9 rfl hl (by decide) rfl (fun ls hl => ?_)
    have LP_loop1 : ∀ (n : Nat) (k : Nat), k + n = 2139 → ∀ (u1 : Nat → Nat → Int32) (H : Heap) (locs : List Loc), mP G a u1 H → va_S (gA 8 a) s.heap H locs → u1 0 6 = (4 : Int32) → ∀ ls : Array Slot, lv_has ls 2 [(1, .int (nI k)), (0, .ref (a 0))] → W p l e (rmK 0) s m args below meth c H locs 0 0 (MQ below (qcV G (gA 8 a) (mP G a (w_X6_records_loop1 n k u1))) args s 0 0 (gA 8 a)) (F0 m 10 ls []) := by
      intro n
      induction n with
      | zero =>
        intro k hk_LP_loop1 u1 H locs hP hS h4 ls hl
        refine lv_iload_n hx hb dX6_records_10 rfl (lv_at hl 0 rfl) ?_
        refine lv_sipush (v := 2139) hx hb dX6_records_11 (by decide) ?_
        refine lv_icmp_ge (tgt := 39) hx hb dX6_records_14 (by decide) (fun _ => ?_) (fun c => absurd ((nI_leI (a := 2139) (b := k) (by omega) (by omega)).mpr (by omega)) c)
        refine lv_aload_n hx hb dX6_records_39 rfl (lv_at hl 1 rfl) ?_
        refine lv_dup hx hb dX6_records_40 rfl ?_
        refine g_get S hK hP (i := 0) (by omega) mC0 rfl inlX6 6 (by decide) k_214 (v := .int (u1 0 6)) rfl dX6_records_41 ?_
        refine lv_iconst (v := 1) hx hb dX6_records_44 (by decide) ?_
        refine lv_isub hx hb dX6_records_45 ?_
        refine g_put S hK hP hI hS (i := 0) (by omega) mC0 rfl inlX6 tyX6 tyX6_ok nmX6 mF_n 6 (by decide) k_214 rfl pI rfl rfl (fun _ => rfl) dX6_records_46 (fun H locs hP hS => ?_)
        have hP : mP G a (up u1 0 6 ((u1 0 6) - (1 : Int32))) H := hP
        refine lv_iconst (v := 0) hx hb dX6_records_49 (by decide) ?_
        refine lv_istore_n (lv' := [(1, .int (0 : Int32)), (0, .ref (a 0))]) hx hb dX6_records_50 rfl hl (by decide) rfl (fun ls hl => ?_)
        have LP_loop2 : ∀ (n : Nat) (k : Nat), k + n = 713 → ∀ (u2 : Nat → Nat → Int32) (H : Heap) (locs : List Loc), mP G a u2 H → va_S (gA 8 a) s.heap H locs → KJ (u2 0) → ∀ ls : Array Slot, lv_has ls 2 [(1, .int (nI k)), (0, .ref (a 0))] → W p l e (rmK 0) s m args below meth c H locs 0 0 (MQ below (qcV G (gA 8 a) (mP G a (w_X6_records_loop2 n k u2))) args s 0 0 (gA 8 a)) (F0 m 51 ls []) := by
          intro n
          induction n with
          | zero =>
            intro k hk_LP_loop2 u2 H locs hP hS hkn ls hl
            have hkn2 := hkn.2
            refine lv_iload_n hx hb dX6_records_51 rfl (lv_at hl 0 rfl) ?_
            refine lv_sipush (v := 713) hx hb dX6_records_52 (by decide) ?_
            refine lv_icmp_ge (tgt := 85) hx hb dX6_records_55 (by decide) (fun _ => ?_) (fun c => absurd ((nI_leI (a := 713) (b := k) (by omega) (by omega)).mpr (by omega)) c)
            refine lv_aload_n hx hb dX6_records_85 rfl (lv_at hl 1 rfl) ?_
            refine lv_dup hx hb dX6_records_86 rfl ?_
            refine g_get S hK hP (i := 0) (by omega) mC0 rfl inlX6 6 (by decide) k_214 (v := .int (u2 0 6)) rfl dX6_records_87 ?_
            refine lv_iconst (v := 1) hx hb dX6_records_90 (by decide) ?_
            refine lv_iadd hx hb dX6_records_91 ?_
            refine g_put S hK hP hI hS (i := 0) (by omega) mC0 rfl inlX6 tyX6 tyX6_ok nmX6 mF_n 6 (by decide) k_214 rfl pI rfl rfl (fun _ => rfl) dX6_records_92 (fun H locs hP hS => ?_)
            have hP : mP G a (up u2 0 6 ((u2 0 6) + (1 : Int32))) H := hP
            exact e_void S hr hlk hK hS (gP_eq (show w_X6_records_loop2 0 k u2 = up u2 0 6 ((u2 0 6) + (1 : Int32)) from rfl) hP) dX6_records_95
          | succ n ih_LP_loop2 =>
            intro k hk_LP_loop2 u2 H locs hP hS hkn ls hl
            have hkn2 := hkn.2
            refine lv_iload_n hx hb dX6_records_51 rfl (lv_at hl 0 rfl) ?_
            refine lv_sipush (v := 713) hx hb dX6_records_52 (by decide) ?_
            refine lv_icmp_ge (tgt := 85) hx hb dX6_records_55 (by decide) (fun c => absurd c (fun z => absurd ((nI_leI (a := 713) (b := k) (by omega) (by omega)).mp z) (by omega))) (fun _ => ?_)
            refine lv_aload_n hx hb dX6_records_58 rfl (lv_at hl 1 rfl) ?_
            refine g_get S hK hP (i := 0) (by omega) mC0 rfl inlX6 5 (by decide) k_71 (v := .ref (a 5)) rfl dX6_records_59 ?_
            refine lv_sipush (v := 713) hx hb dX6_records_62 (by decide) ?_
            refine lv_aload_n hx hb dX6_records_65 rfl (lv_at hl 1 rfl) ?_
            refine g_get S hK hP (i := 0) (by omega) mC0 rfl inlX6 6 (by decide) k_214 (v := .int (u2 0 6)) rfl dX6_records_66 ?_
            refine r_top (v := nI (sN (u2 0) 6)) hkn.1 ?_
            refine lv_imul hx hb dX6_records_69 ?_
            refine r_top (v := nI (713 * (sN (u2 0) 6))) (pk_mul 713 (sN (u2 0) 6)) ?_
            refine lv_iload_n hx hb dX6_records_70 rfl (lv_at hl 0 rfl) ?_
            refine lv_iadd hx hb dX6_records_71 ?_
            refine r_top (v := nI (713 * (sN (u2 0) 6) + k)) (nI_add (713 * (sN (u2 0) 6)) k) ?_
            refine lv_aload_n hx hb dX6_records_72 rfl (lv_at hl 1 rfl) ?_
            refine g_get S hK hP (i := 0) (by omega) mC0 rfl inlX6 2 (by decide) k_69 (v := .ref (a 3)) rfl dX6_records_73 ?_
            refine lv_iload_n hx hb dX6_records_76 rfl (lv_at hl 0 rfl) ?_
            refine g_aldN S hK hP (i := 3) (by omega) mC3 (k := k) (by omega) (by decide) (v := u2 3 k) (rfl) dX6_records_77 ?_
            refine g_astN S hK hP hI hS (i := 5) (by omega) mC5 (k := 713 * (sN (u2 0) 6) + k) (by omega) (by decide) dX6_records_78 (fun H locs hP hS => ?_)
            have hP : mP G a (up u2 5 (713 * (sN (u2 0) 6) + k) (u2 3 k)) H := hP
            refine lv_iinc (v := nI (k + 1)) (lv' := [(1, .int (nI (k + 1))), (0, .ref (a 0))]) hx hb dX6_records_79 hl (k := 0) rfl (nI_1 _) (by decide) rfl (fun ls hl => ?_)
            refine lv_goto (tgt := 51) hx hb dX6_records_82 (by decide) ?_
            refine q_eqV (show w_X6_records_loop2 (n + 1) k u2 = w_X6_records_loop2 n (k + 1) (up u2 5 (713 * (sN (u2 0) 6) + k) (u2 3 k)) from rfl) ?_
            exact ih_LP_loop2 (k + 1) (by omega) _ _ _ hP hS (KJ_up hkn) ls (lv_sub hl [0, 1] rfl)
        refine q_eqV (show w_X6_records_loop1 0 k u1 = w_X6_records_loop2 713 0 (up u1 0 6 ((u1 0 6) - (1 : Int32))) from rfl) ?_
        exact LP_loop2 713 0 (by omega) _ _ _ hP hS (KJ_dec h4) ls (lv_sub hl [0, 1] rfl)
      | succ n ih_LP_loop1 =>
        intro k hk_LP_loop1 u1 H locs hP hS h4 ls hl
        refine lv_iload_n hx hb dX6_records_10 rfl (lv_at hl 0 rfl) ?_
        refine lv_sipush (v := 2139) hx hb dX6_records_11 (by decide) ?_
        refine lv_icmp_ge (tgt := 39) hx hb dX6_records_14 (by decide) (fun c => absurd c (fun z => absurd ((nI_leI (a := 2139) (b := k) (by omega) (by omega)).mp z) (by omega))) (fun _ => ?_)
        refine lv_aload_n hx hb dX6_records_17 rfl (lv_at hl 1 rfl) ?_
        refine g_get S hK hP (i := 0) (by omega) mC0 rfl inlX6 5 (by decide) k_71 (v := .ref (a 5)) rfl dX6_records_18 ?_
        refine lv_iload_n hx hb dX6_records_21 rfl (lv_at hl 0 rfl) ?_
        refine lv_aload_n hx hb dX6_records_22 rfl (lv_at hl 1 rfl) ?_
        refine g_get S hK hP (i := 0) (by omega) mC0 rfl inlX6 5 (by decide) k_71 (v := .ref (a 5)) rfl dX6_records_23 ?_
        refine lv_sipush (v := 713) hx hb dX6_records_26 (by decide) ?_
        refine lv_iload_n hx hb dX6_records_29 rfl (lv_at hl 0 rfl) ?_
        refine lv_iadd hx hb dX6_records_30 ?_
        refine r_top (v := nI (713 + k)) (nI_add 713 k) ?_
        refine g_aldN S hK hP (i := 5) (by omega) mC5 (k := 713 + k) (by omega) (by decide) (v := u1 5 (713 + k)) (rfl) dX6_records_31 ?_
        refine g_astN S hK hP hI hS (i := 5) (by omega) mC5 (k := k) (by omega) (by decide) dX6_records_32 (fun H locs hP hS => ?_)
        have hP : mP G a (up u1 5 k (u1 5 (713 + k))) H := hP
        refine lv_iinc (v := nI (k + 1)) (lv' := [(1, .int (nI (k + 1))), (0, .ref (a 0))]) hx hb dX6_records_33 hl (k := 0) rfl (nI_1 _) (by decide) rfl (fun ls hl => ?_)
        refine lv_goto (tgt := 10) hx hb dX6_records_36 (by decide) ?_
        refine q_eqV (show w_X6_records_loop1 (n + 1) k u1 = w_X6_records_loop1 n (k + 1) (up u1 5 k (u1 5 (713 + k))) from rfl) ?_
        exact ih_LP_loop1 (k + 1) (by omega) _ _ _ hP hS (up5_0.trans h4) ls (lv_sub hl [0, 1] rfl)
    refine q_eqV (show w_X6_records u  = w_X6_records_loop1 2139 0 u from (if_pos c1).trans rfl) ?_
    exact LP_loop1 2139 0 (by omega) _ _ _ hP hS c1 ls (lv_sub hl [0, 1] rfl)

theorem looks_lp : ∀ (n k : Nat) (u : Nat → Nat → Int32), k + n = 713 → w_X6_looks_loop n k u = fun i q => if i = 3 ∧ k ≤ q ∧ q < 713 then u 1 q else u i q := by
  intro n
  induction n with
  | zero =>
    intro k u hk
    funext i q
    show u i q = _
    rw [if_neg (by omega)]
  | succ n ih =>
    intro k u hk
    show w_X6_looks_loop n (k + 1) (up u 3 k (u 1 k)) = _
    rw [ih (k + 1) _ (by omega)]
    funext i q
    show (if i = 3 ∧ k + 1 ≤ q ∧ q < 713 then up u 3 k (u 1 k) 1 q else up u 3 k (u 1 k) i q) = (if i = 3 ∧ k ≤ q ∧ q < 713 then u 1 q else u i q)
    by_cases h : i = 3 ∧ k ≤ q ∧ q < 713
    · obtain ⟨rfl, h1, h2⟩ := h
      rw [if_pos (show 3 = 3 ∧ k ≤ q ∧ q < 713 from ⟨rfl, h1, h2⟩)]
      by_cases h3 : q = k
      · subst h3
        rw [if_neg (by omega)]
        exact up_same
      · rw [if_pos ⟨rfl, by omega, h2⟩]
        exact up_ni (by decide)
    · rw [if_neg h, if_neg (by omega)]
      exact if_neg (by omega)
theorem looks_eq (u : Nat → Nat → Int32) : w_X6_looks u = fun i q => if i = 3 ∧ q < 713 then u 1 q else u i q := by
  show w_X6_looks_loop 713 0 u = _
  rw [looks_lp 713 0 u rfl]
  funext i q
  simp
theorem looks_o {u : Nat → Nat → Int32} {i : Nat} (h : i ≠ 3) : w_X6_looks u i = u i := by
  rw [looks_eq]
  funext q
  exact if_neg (fun z => h z.1)
theorem looks_KI {u : Nat → Nat → Int32} (h : KI (u 0)) : KI (w_X6_looks u 0) := by
  rw [looks_o (by decide)]; exact h

def w_X6_know (u : Nat → Nat → Int32) : Nat → Nat → Int32 := w_X6_records (w_X6_looks u)
theorem q_X6_know : yX6_know.cls ≠ "java/lang/invoke/MethodHandle" ∧ yX6_know.cls ≠ "java/lang/invoke/VarHandle" ∧ (parseMethodDescriptor yX6_know.desc).map (fun d => d.parameters.length) = some 0 := ⟨by decide, by decide, by decide +kernel⟩
set_option maxHeartbeats 4000000 in
set_option maxRecDepth 100000 in
theorem c_X6_know (l : Launch) (G : kG) (a : Nat → Nat) (hI : gI 8 a) (u : Nat → Nat → Int32) (hk6 : KI (u 0)) : Met l yX6_know (Cond.code yX6_know cX6_know 1 none :: BIG) (rmK 1) (pcG G (mP G a u) [.ref (a 0)]) (qcV G (gA 8 a) (mP G a (w_X6_know u))) 0 0 (gA 8 a) := by
  refine m_start (by decide) (Nat.le_of_ble_eq_true rfl) ?_
  intro p e s m args below meth c S hr hlk hnm hP hK ls hl
  have hx := S.1
  have hb := S.2.1
  have hown := S.2.2.2.1
  have hS : va_S (gA 8 a) s.heap s.heap [] := va_S.rf
  have hl : lv_has ls 1 [(0, .ref (a 0))] := hl
  refine lv_aload_n hx hb dX6_know_0 rfl (lv_at hl 0 rfl) ?_
  refine r_callV S hK hP (c_X6_looks l G a hI u ) (r_cw S k_209 k_206 k_207 k_208 k_5 q_X6_looks ⟨Nat.le_of_ble_eq_true rfl, Nat.le_of_ble_eq_true rfl⟩ rfl rfl) (g_recv hK hP (i := 0) (by omega) mC0 rfl) rfl hl.1 rfl (Nat.le_of_ble_eq_true rfl) dX6_know_1 ⟨Nat.zero_le _, Nat.zero_le _⟩ hS (fun _ h => h) (fun H locs hP _ _ hS => ?_)
  have hP : mP G a (w_X6_looks u) H := hP
  refine lv_aload_n hx hb dX6_know_4 rfl (lv_at hl 0 rfl) ?_
  refine r_callV S hK hP (c_X6_records l G a hI (w_X6_looks u) (looks_KI hk6)) (r_cw S k_213 k_210 k_211 k_212 k_5 q_X6_records ⟨Nat.le_of_ble_eq_true rfl, Nat.le_of_ble_eq_true rfl⟩ rfl rfl) (g_recv hK hP (i := 0) (by omega) mC0 rfl) rfl hl.1 rfl (Nat.le_of_ble_eq_true rfl) dX6_know_5 ⟨Nat.zero_le _, Nat.zero_le _⟩ hS (fun _ h => h) (fun H locs hP _ _ hS => ?_)
  have hP : mP G a (w_X6_records (w_X6_looks u)) H := hP
  exact e_void S hr hlk hK hS (gP_eq (show w_X6_know u  = w_X6_records (w_X6_looks u) from rfl) hP) dX6_know_8

def v_X6_takesOf (u : Nat → Nat → Int32) (j : Nat) (p2 : Int32) : Int32 := if p2 + (v_X6_discountOf u j) < v_X6_owedOn u j then (if (v_X6_owedOn u j) - (0 : Int32) ≤ p2 then (if v_X6_owedOn (up (up (up (up u 1 (233 + 12 * j + 6) ((u 1 (233 + 12 * j + 6)) + ((v_X6_owedOn u j) - (0 : Int32)))) 1 (233 + 12 * j + 7) ((u 1 (233 + 12 * j + 7)) + (0 : Int32))) 1 (233 + 12 * j + 11) (u 1 0)) 1 (25 + sN (u 1) 0 / 100) ((u 1 (25 + sN (u 1) 0 / 100)) + ((((v_X6_owedOn u j) - (0 : Int32)) * (u 1 (233 + 12 * j + 2))) / ((100 : Int32) + (u 1 (233 + 12 * j + 2)))))) j = 0 then ((v_X6_owedOn u j) - (0 : Int32)) else (v_X6_owedOn u j) - (0 : Int32)) else if v_X6_owedOn (up (up (up (up u 1 (233 + 12 * j + 6) ((u 1 (233 + 12 * j + 6)) + p2)) 1 (233 + 12 * j + 7) ((u 1 (233 + 12 * j + 7)) + (0 : Int32))) 1 (233 + 12 * j + 11) (u 1 0)) 1 (25 + sN (u 1) 0 / 100) ((u 1 (25 + sN (u 1) 0 / 100)) + ((p2 * (u 1 (233 + 12 * j + 2))) / ((100 : Int32) + (u 1 (233 + 12 * j + 2)))))) j = 0 then p2 else p2) else if (v_X6_owedOn u j) - (v_X6_discountOf u j) ≤ p2 then (if v_X6_owedOn (up (up (up (up u 1 (233 + 12 * j + 6) ((u 1 (233 + 12 * j + 6)) + ((v_X6_owedOn u j) - (v_X6_discountOf u j)))) 1 (233 + 12 * j + 7) ((u 1 (233 + 12 * j + 7)) + (v_X6_discountOf u j))) 1 (233 + 12 * j + 11) (u 1 0)) 1 (25 + sN (u 1) 0 / 100) ((u 1 (25 + sN (u 1) 0 / 100)) + ((((v_X6_owedOn u j) - (v_X6_discountOf u j)) * (u 1 (233 + 12 * j + 2))) / ((100 : Int32) + (u 1 (233 + 12 * j + 2)))))) j = 0 then ((v_X6_owedOn u j) - (v_X6_discountOf u j)) else (v_X6_owedOn u j) - (v_X6_discountOf u j)) else if v_X6_owedOn (up (up (up (up u 1 (233 + 12 * j + 6) ((u 1 (233 + 12 * j + 6)) + p2)) 1 (233 + 12 * j + 7) ((u 1 (233 + 12 * j + 7)) + (v_X6_discountOf u j))) 1 (233 + 12 * j + 11) (u 1 0)) 1 (25 + sN (u 1) 0 / 100) ((u 1 (25 + sN (u 1) 0 / 100)) + ((p2 * (u 1 (233 + 12 * j + 2))) / ((100 : Int32) + (u 1 (233 + 12 * j + 2)))))) j = 0 then p2 else p2
def w_X6_takesOf (u : Nat → Nat → Int32) (j : Nat) (p2 : Int32) : Nat → Nat → Int32 := if p2 + (v_X6_discountOf u j) < v_X6_owedOn u j then (if (v_X6_owedOn u j) - (0 : Int32) ≤ p2 then (if v_X6_owedOn (up (up (up (up u 1 (233 + 12 * j + 6) ((u 1 (233 + 12 * j + 6)) + ((v_X6_owedOn u j) - (0 : Int32)))) 1 (233 + 12 * j + 7) ((u 1 (233 + 12 * j + 7)) + (0 : Int32))) 1 (233 + 12 * j + 11) (u 1 0)) 1 (25 + sN (u 1) 0 / 100) ((u 1 (25 + sN (u 1) 0 / 100)) + ((((v_X6_owedOn u j) - (0 : Int32)) * (u 1 (233 + 12 * j + 2))) / ((100 : Int32) + (u 1 (233 + 12 * j + 2)))))) j = 0 then (up (up (up (up (up u 1 (233 + 12 * j + 6) ((u 1 (233 + 12 * j + 6)) + ((v_X6_owedOn u j) - (0 : Int32)))) 1 (233 + 12 * j + 7) ((u 1 (233 + 12 * j + 7)) + (0 : Int32))) 1 (233 + 12 * j + 11) (u 1 0)) 1 (25 + sN (u 1) 0 / 100) ((u 1 (25 + sN (u 1) 0 / 100)) + ((((v_X6_owedOn u j) - (0 : Int32)) * (u 1 (233 + 12 * j + 2))) / ((100 : Int32) + (u 1 (233 + 12 * j + 2)))))) 1 (233 + 12 * j + 5) (1 : Int32)) else up (up (up (up (up u 1 (233 + 12 * j + 6) ((u 1 (233 + 12 * j + 6)) + ((v_X6_owedOn u j) - (0 : Int32)))) 1 (233 + 12 * j + 7) ((u 1 (233 + 12 * j + 7)) + (0 : Int32))) 1 (233 + 12 * j + 11) (u 1 0)) 1 (25 + sN (u 1) 0 / 100) ((u 1 (25 + sN (u 1) 0 / 100)) + ((((v_X6_owedOn u j) - (0 : Int32)) * (u 1 (233 + 12 * j + 2))) / ((100 : Int32) + (u 1 (233 + 12 * j + 2)))))) 1 (233 + 12 * j + 5) (u 1 (233 + 12 * j + 5))) else if v_X6_owedOn (up (up (up (up u 1 (233 + 12 * j + 6) ((u 1 (233 + 12 * j + 6)) + p2)) 1 (233 + 12 * j + 7) ((u 1 (233 + 12 * j + 7)) + (0 : Int32))) 1 (233 + 12 * j + 11) (u 1 0)) 1 (25 + sN (u 1) 0 / 100) ((u 1 (25 + sN (u 1) 0 / 100)) + ((p2 * (u 1 (233 + 12 * j + 2))) / ((100 : Int32) + (u 1 (233 + 12 * j + 2)))))) j = 0 then (up (up (up (up (up u 1 (233 + 12 * j + 6) ((u 1 (233 + 12 * j + 6)) + p2)) 1 (233 + 12 * j + 7) ((u 1 (233 + 12 * j + 7)) + (0 : Int32))) 1 (233 + 12 * j + 11) (u 1 0)) 1 (25 + sN (u 1) 0 / 100) ((u 1 (25 + sN (u 1) 0 / 100)) + ((p2 * (u 1 (233 + 12 * j + 2))) / ((100 : Int32) + (u 1 (233 + 12 * j + 2)))))) 1 (233 + 12 * j + 5) (1 : Int32)) else up (up (up (up (up u 1 (233 + 12 * j + 6) ((u 1 (233 + 12 * j + 6)) + p2)) 1 (233 + 12 * j + 7) ((u 1 (233 + 12 * j + 7)) + (0 : Int32))) 1 (233 + 12 * j + 11) (u 1 0)) 1 (25 + sN (u 1) 0 / 100) ((u 1 (25 + sN (u 1) 0 / 100)) + ((p2 * (u 1 (233 + 12 * j + 2))) / ((100 : Int32) + (u 1 (233 + 12 * j + 2)))))) 1 (233 + 12 * j + 5) (u 1 (233 + 12 * j + 5))) else if (v_X6_owedOn u j) - (v_X6_discountOf u j) ≤ p2 then (if v_X6_owedOn (up (up (up (up u 1 (233 + 12 * j + 6) ((u 1 (233 + 12 * j + 6)) + ((v_X6_owedOn u j) - (v_X6_discountOf u j)))) 1 (233 + 12 * j + 7) ((u 1 (233 + 12 * j + 7)) + (v_X6_discountOf u j))) 1 (233 + 12 * j + 11) (u 1 0)) 1 (25 + sN (u 1) 0 / 100) ((u 1 (25 + sN (u 1) 0 / 100)) + ((((v_X6_owedOn u j) - (v_X6_discountOf u j)) * (u 1 (233 + 12 * j + 2))) / ((100 : Int32) + (u 1 (233 + 12 * j + 2)))))) j = 0 then (up (up (up (up (up u 1 (233 + 12 * j + 6) ((u 1 (233 + 12 * j + 6)) + ((v_X6_owedOn u j) - (v_X6_discountOf u j)))) 1 (233 + 12 * j + 7) ((u 1 (233 + 12 * j + 7)) + (v_X6_discountOf u j))) 1 (233 + 12 * j + 11) (u 1 0)) 1 (25 + sN (u 1) 0 / 100) ((u 1 (25 + sN (u 1) 0 / 100)) + ((((v_X6_owedOn u j) - (v_X6_discountOf u j)) * (u 1 (233 + 12 * j + 2))) / ((100 : Int32) + (u 1 (233 + 12 * j + 2)))))) 1 (233 + 12 * j + 5) (1 : Int32)) else up (up (up (up (up u 1 (233 + 12 * j + 6) ((u 1 (233 + 12 * j + 6)) + ((v_X6_owedOn u j) - (v_X6_discountOf u j)))) 1 (233 + 12 * j + 7) ((u 1 (233 + 12 * j + 7)) + (v_X6_discountOf u j))) 1 (233 + 12 * j + 11) (u 1 0)) 1 (25 + sN (u 1) 0 / 100) ((u 1 (25 + sN (u 1) 0 / 100)) + ((((v_X6_owedOn u j) - (v_X6_discountOf u j)) * (u 1 (233 + 12 * j + 2))) / ((100 : Int32) + (u 1 (233 + 12 * j + 2)))))) 1 (233 + 12 * j + 5) (u 1 (233 + 12 * j + 5))) else if v_X6_owedOn (up (up (up (up u 1 (233 + 12 * j + 6) ((u 1 (233 + 12 * j + 6)) + p2)) 1 (233 + 12 * j + 7) ((u 1 (233 + 12 * j + 7)) + (v_X6_discountOf u j))) 1 (233 + 12 * j + 11) (u 1 0)) 1 (25 + sN (u 1) 0 / 100) ((u 1 (25 + sN (u 1) 0 / 100)) + ((p2 * (u 1 (233 + 12 * j + 2))) / ((100 : Int32) + (u 1 (233 + 12 * j + 2)))))) j = 0 then (up (up (up (up (up u 1 (233 + 12 * j + 6) ((u 1 (233 + 12 * j + 6)) + p2)) 1 (233 + 12 * j + 7) ((u 1 (233 + 12 * j + 7)) + (v_X6_discountOf u j))) 1 (233 + 12 * j + 11) (u 1 0)) 1 (25 + sN (u 1) 0 / 100) ((u 1 (25 + sN (u 1) 0 / 100)) + ((p2 * (u 1 (233 + 12 * j + 2))) / ((100 : Int32) + (u 1 (233 + 12 * j + 2)))))) 1 (233 + 12 * j + 5) (1 : Int32)) else up (up (up (up (up u 1 (233 + 12 * j + 6) ((u 1 (233 + 12 * j + 6)) + p2)) 1 (233 + 12 * j + 7) ((u 1 (233 + 12 * j + 7)) + (v_X6_discountOf u j))) 1 (233 + 12 * j + 11) (u 1 0)) 1 (25 + sN (u 1) 0 / 100) ((u 1 (25 + sN (u 1) 0 / 100)) + ((p2 * (u 1 (233 + 12 * j + 2))) / ((100 : Int32) + (u 1 (233 + 12 * j + 2)))))) 1 (233 + 12 * j + 5) (u 1 (233 + 12 * j + 5))
theorem q_X6_takesOf : yX6_takesOf.cls ≠ "java/lang/invoke/MethodHandle" ∧ yX6_takesOf.cls ≠ "java/lang/invoke/VarHandle" ∧ (parseMethodDescriptor yX6_takesOf.desc).map (fun d => d.parameters.length) = some 2 := ⟨by decide, by decide, by decide +kernel⟩
set_option maxHeartbeats 4000000 in
set_option maxRecDepth 100000 in
theorem c_X6_takesOf (l : Launch) (G : kG) (a : Nat → Nat) (hI : gI 8 a) (u : Nat → Nat → Int32) (j : Nat) (hj : j < 40) (p2 : Int32) (hm : SI (u 1)) : Met l yX6_takesOf (Cond.code yX6_takesOf cX6_takesOf 6 (some .int) :: BIG) (rmK 5) (pcG G (mP G a u) [.ref (a 0), .int (nI j), .int p2]) (qcI G (gA 8 a) (mP G a (w_X6_takesOf u j p2)) (v_X6_takesOf u j p2)) 0 0 (gA 8 a) := by
  refine m_start (by decide) (Nat.le_of_ble_eq_true rfl) ?_
  have hdy := SI_day2 hm
  intro p e s m args below meth c S hr hlk hnm hP hK ls hl
  have hx := S.1
  have hb := S.2.1
  have hown := S.2.2.2.1
  have hS : va_S (gA 8 a) s.heap s.heap [] := va_S.rf
  have hl : lv_has ls 6 [(0, .ref (a 0)), (1, .int (nI j)), (2, .int p2)] := hl
  refine lv_aload_n hx hb dX6_takesOf_0 rfl (lv_at hl 0 rfl) ?_
  refine lv_iload_n hx hb dX6_takesOf_1 rfl (lv_at hl 1 rfl) ?_
  refine r_callI S hK hP (c_X6_discountOf l G a hI u j (by omega) ) (r_cw S k_229 k_226 k_227 k_228 k_5 q_X6_discountOf ⟨Nat.le_of_ble_eq_true rfl, Nat.le_of_ble_eq_true rfl⟩ rfl rfl) (g_recv hK hP (i := 0) (by omega) mC0 rfl) rfl hl.1 rfl (Nat.le_of_ble_eq_true rfl) dX6_takesOf_2 ⟨Nat.zero_le _, Nat.zero_le _⟩ hS (fun _ h => h) (fun H locs hP _ _ hS => ?_)
  have hP : mP G a u H := hP
  refine lv_istore_n (lv' := [(3, .int (v_X6_discountOf u j)), (0, .ref (a 0)), (1, .int (nI j)), (2, .int p2)]) hx hb dX6_takesOf_5 rfl hl (by decide) rfl (fun ls hl => ?_)
  refine lv_iload_n hx hb dX6_takesOf_6 rfl (lv_at hl 3 rfl) ?_
  refine lv_iload_n hx hb dX6_takesOf_7 rfl (lv_at hl 0 rfl) ?_
  refine lv_iadd hx hb dX6_takesOf_8 ?_
  refine lv_aload_n hx hb dX6_takesOf_9 rfl (lv_at hl 1 rfl) ?_
  refine lv_iload_n hx hb dX6_takesOf_10 rfl (lv_at hl 2 rfl) ?_
  refine r_callI S hK hP (c_X6_owedOn l G a hI u j (by omega) ) (r_cw S k_245 k_242 k_243 k_244 k_5 q_X6_owedOn ⟨Nat.le_of_ble_eq_true rfl, Nat.le_of_ble_eq_true rfl⟩ rfl rfl) (g_recv hK hP (i := 0) (by omega) mC0 rfl) rfl hl.1 rfl (Nat.le_of_ble_eq_true rfl) dX6_takesOf_11 ⟨Nat.zero_le _, Nat.zero_le _⟩ hS (fun _ h => h) (fun H locs hP _ _ hS => ?_)
  have hP : mP G a u H := hP
  refine lv_icmp_lt (tgt := 21) hx hb dX6_takesOf_14 (by decide) (fun c1 => ?_) (fun c1 => ?_)
  · skip
    refine lv_iconst (v := 0) hx hb dX6_takesOf_21 (by decide) ?_
    refine lv_istore_n (lv' := [(3, .int (0 : Int32)), (0, .ref (a 0)), (1, .int (nI j)), (2, .int p2)]) hx hb dX6_takesOf_22 rfl hl (by decide) rfl (fun ls hl => ?_)
    refine lv_aload_n hx hb dX6_takesOf_23 rfl (lv_at hl 1 rfl) ?_
    refine lv_iload_n hx hb dX6_takesOf_24 rfl (lv_at hl 2 rfl) ?_
    refine r_callI S hK hP (c_X6_owedOn l G a hI u j (by omega) ) (r_cw S k_245 k_242 k_243 k_244 k_5 q_X6_owedOn ⟨Nat.le_of_ble_eq_true rfl, Nat.le_of_ble_eq_true rfl⟩ rfl rfl) (g_recv hK hP (i := 0) (by omega) mC0 rfl) rfl hl.1 rfl (Nat.le_of_ble_eq_true rfl) dX6_takesOf_25 ⟨Nat.zero_le _, Nat.zero_le _⟩ hS (fun _ h => h) (fun H locs hP _ _ hS => ?_)
    have hP : mP G a u H := hP
    refine lv_iload_n hx hb dX6_takesOf_28 rfl (lv_at hl 0 rfl) ?_
    refine lv_isub hx hb dX6_takesOf_29 ?_
    refine lv_istore (lv' := [(4, .int ((v_X6_owedOn u j) - (0 : Int32))), (3, .int (0 : Int32)), (0, .ref (a 0)), (1, .int (nI j)), (2, .int p2)]) hx hb dX6_takesOf_30 hl (by decide) rfl (fun ls hl => ?_)
    refine lv_iload_n hx hb dX6_takesOf_32 rfl (lv_at hl 4 rfl) ?_
    refine lv_iload hx hb dX6_takesOf_33 (lv_at hl 0 rfl) ?_
    refine lv_icmp_ge (tgt := 42) hx hb dX6_takesOf_35 (by decide) (fun c2 => ?_) (fun c2 => ?_)
    · skip
      refine lv_iload hx hb dX6_takesOf_42 (lv_at hl 0 rfl) ?_
      refine lv_istore (lv' := [(5, .int ((v_X6_owedOn u j) - (0 : Int32))), (4, .int ((v_X6_owedOn u j) - (0 : Int32))), (3, .int (0 : Int32)), (0, .ref (a 0)), (1, .int (nI j)), (2, .int p2)]) hx hb dX6_takesOf_44 hl (by decide) rfl (fun ls hl => ?_)
      refine lv_aload_n hx hb dX6_takesOf_46 rfl (lv_at hl 3 rfl) ?_
      refine g_get S hK hP (i := 0) (by omega) mC0 rfl inlX6 0 (by decide) k_67 (v := .ref (a 1)) rfl dX6_takesOf_47 ?_
      refine lv_iload_n hx hb dX6_takesOf_50 rfl (lv_at hl 4 rfl) ?_
      refine lv_bipush (v := 6) hx hb dX6_takesOf_51 (by decide) ?_
      refine r_callS S hK hP (c_X6_of l G (mP G a u) (gA 8 a) j 6 trivial trivial ) (r_cs S k_221 k_219 k_220 k_5 q_X6_of ⟨Nat.le_of_ble_eq_true rfl, Nat.le_of_ble_eq_true rfl⟩ rfl rfl) rfl hl.1 rfl (Nat.le_of_ble_eq_true rfl) dX6_takesOf_53 ⟨Nat.zero_le _, Nat.zero_le _⟩ hS (fun _ h => h) (fun H locs hP _ _ hS => ?_)
      have hP : mP G a u H := hP
      refine r_top (v := nI (233 + 12 * j + 6)) rfl ?_
      refine lv_dup2_11 hx hb dX6_takesOf_56 rfl rfl ?_
      refine g_aldN S hK hP (i := 1) (by omega) mC1 (k := 233 + 12 * j + 6) (by omega) (by decide) (v := u 1 (233 + 12 * j + 6)) (rfl) dX6_takesOf_57 ?_
      refine lv_iload hx hb dX6_takesOf_58 (lv_at hl 0 rfl) ?_
      refine lv_iadd hx hb dX6_takesOf_60 ?_
      refine g_astN S hK hP hI hS (i := 1) (by omega) mC1 (k := 233 + 12 * j + 6) (by omega) (by decide) dX6_takesOf_61 (fun H locs hP hS => ?_)
      have hP : mP G a (up u 1 (233 + 12 * j + 6) ((u 1 (233 + 12 * j + 6)) + ((v_X6_owedOn u j) - (0 : Int32)))) H := hP
      refine lv_aload_n hx hb dX6_takesOf_62 rfl (lv_at hl 3 rfl) ?_
      refine g_get S hK hP (i := 0) (by omega) mC0 rfl inlX6 0 (by decide) k_67 (v := .ref (a 1)) rfl dX6_takesOf_63 ?_
      refine lv_iload_n hx hb dX6_takesOf_66 rfl (lv_at hl 4 rfl) ?_
      refine lv_bipush (v := 7) hx hb dX6_takesOf_67 (by decide) ?_
      refine r_callS S hK hP (c_X6_of l G (mP G a (up u 1 (233 + 12 * j + 6) ((u 1 (233 + 12 * j + 6)) + ((v_X6_owedOn u j) - (0 : Int32))))) (gA 8 a) j 7 trivial trivial ) (r_cs S k_221 k_219 k_220 k_5 q_X6_of ⟨Nat.le_of_ble_eq_true rfl, Nat.le_of_ble_eq_true rfl⟩ rfl rfl) rfl hl.1 rfl (Nat.le_of_ble_eq_true rfl) dX6_takesOf_69 ⟨Nat.zero_le _, Nat.zero_le _⟩ hS (fun _ h => h) (fun H locs hP _ _ hS => ?_)
      have hP : mP G a (up u 1 (233 + 12 * j + 6) ((u 1 (233 + 12 * j + 6)) + ((v_X6_owedOn u j) - (0 : Int32)))) H := hP
      refine r_top (v := nI (233 + 12 * j + 7)) rfl ?_
      refine lv_dup2_11 hx hb dX6_takesOf_72 rfl rfl ?_
      refine g_aldN S hK hP (i := 1) (by omega) mC1 (k := 233 + 12 * j + 7) (by omega) (by decide) (v := u 1 (233 + 12 * j + 7)) ((up_nk (by omega)).trans rfl) dX6_takesOf_73 ?_
      refine lv_iload_n hx hb dX6_takesOf_74 rfl (lv_at hl 2 rfl) ?_
      refine lv_iadd hx hb dX6_takesOf_75 ?_
      refine g_astN S hK hP hI hS (i := 1) (by omega) mC1 (k := 233 + 12 * j + 7) (by omega) (by decide) dX6_takesOf_76 (fun H locs hP hS => ?_)
      have hP : mP G a (up (up u 1 (233 + 12 * j + 6) ((u 1 (233 + 12 * j + 6)) + ((v_X6_owedOn u j) - (0 : Int32)))) 1 (233 + 12 * j + 7) ((u 1 (233 + 12 * j + 7)) + (0 : Int32))) H := hP
      refine lv_aload_n hx hb dX6_takesOf_77 rfl (lv_at hl 3 rfl) ?_
      refine g_get S hK hP (i := 0) (by omega) mC0 rfl inlX6 0 (by decide) k_67 (v := .ref (a 1)) rfl dX6_takesOf_78 ?_
      refine lv_iload_n hx hb dX6_takesOf_81 rfl (lv_at hl 4 rfl) ?_
      refine lv_bipush (v := 11) hx hb dX6_takesOf_82 (by decide) ?_
      refine r_callS S hK hP (c_X6_of l G (mP G a (up (up u 1 (233 + 12 * j + 6) ((u 1 (233 + 12 * j + 6)) + ((v_X6_owedOn u j) - (0 : Int32)))) 1 (233 + 12 * j + 7) ((u 1 (233 + 12 * j + 7)) + (0 : Int32)))) (gA 8 a) j 11 trivial trivial ) (r_cs S k_221 k_219 k_220 k_5 q_X6_of ⟨Nat.le_of_ble_eq_true rfl, Nat.le_of_ble_eq_true rfl⟩ rfl rfl) rfl hl.1 rfl (Nat.le_of_ble_eq_true rfl) dX6_takesOf_84 ⟨Nat.zero_le _, Nat.zero_le _⟩ hS (fun _ h => h) (fun H locs hP _ _ hS => ?_)
      have hP : mP G a (up (up u 1 (233 + 12 * j + 6) ((u 1 (233 + 12 * j + 6)) + ((v_X6_owedOn u j) - (0 : Int32)))) 1 (233 + 12 * j + 7) ((u 1 (233 + 12 * j + 7)) + (0 : Int32))) H := hP
      refine r_top (v := nI (233 + 12 * j + 11)) rfl ?_
      refine lv_aload_n hx hb dX6_takesOf_87 rfl (lv_at hl 3 rfl) ?_
      refine g_get S hK hP (i := 0) (by omega) mC0 rfl inlX6 0 (by decide) k_67 (v := .ref (a 1)) rfl dX6_takesOf_88 ?_
      refine lv_iconst (v := 0) hx hb dX6_takesOf_91 (by decide) ?_
      refine g_aldN S hK hP (i := 1) (by omega) mC1 (k := 0) (by omega) (by decide) (v := u 1 0) ((up_nk (by omega)).trans ((up_nk (by omega)).trans rfl)) dX6_takesOf_92 ?_
      refine g_astN S hK hP hI hS (i := 1) (by omega) mC1 (k := 233 + 12 * j + 11) (by omega) (by decide) dX6_takesOf_93 (fun H locs hP hS => ?_)
      have hP : mP G a (up (up (up u 1 (233 + 12 * j + 6) ((u 1 (233 + 12 * j + 6)) + ((v_X6_owedOn u j) - (0 : Int32)))) 1 (233 + 12 * j + 7) ((u 1 (233 + 12 * j + 7)) + (0 : Int32))) 1 (233 + 12 * j + 11) (u 1 0)) H := hP
      refine lv_aload_n hx hb dX6_takesOf_94 rfl (lv_at hl 3 rfl) ?_
      refine g_get S hK hP (i := 0) (by omega) mC0 rfl inlX6 0 (by decide) k_67 (v := .ref (a 1)) rfl dX6_takesOf_95 ?_
      refine lv_bipush (v := 25) hx hb dX6_takesOf_98 (by decide) ?_
      refine lv_aload_n hx hb dX6_takesOf_100 rfl (lv_at hl 3 rfl) ?_
      refine g_get S hK hP (i := 0) (by omega) mC0 rfl inlX6 0 (by decide) k_67 (v := .ref (a 1)) rfl dX6_takesOf_101 ?_
      refine lv_iconst (v := 0) hx hb dX6_takesOf_104 (by decide) ?_
      refine g_aldN S hK hP (i := 1) (by omega) mC1 (k := 0) (by omega) (by decide) (v := u 1 0) ((up_nk (by omega)).trans ((up_nk (by omega)).trans ((up_nk (by omega)).trans rfl))) dX6_takesOf_105 ?_
      refine r_top (v := nI (sN (u 1) 0)) (SI_day hm) ?_
      refine lv_bipush (v := 100) hx hb dX6_takesOf_106 (by decide) ?_
      refine lv_idiv hx hb dX6_takesOf_108 (by decide) ?_
      refine r_top (v := nI (sN (u 1) 0 / 100)) (pk_div (by omega) (by decide) (by decide)) ?_
      refine lv_iadd hx hb dX6_takesOf_109 ?_
      refine r_top (v := nI (25 + sN (u 1) 0 / 100)) (nI_add 25 (sN (u 1) 0 / 100)) ?_
      refine lv_dup2_11 hx hb dX6_takesOf_110 rfl rfl ?_
      refine g_aldN S hK hP (i := 1) (by omega) mC1 (k := 25 + sN (u 1) 0 / 100) (by omega) (by decide) (v := u 1 (25 + sN (u 1) 0 / 100)) ((up_nk (by omega)).trans ((up_nk (by omega)).trans ((up_nk (by omega)).trans rfl))) dX6_takesOf_111 ?_
      refine lv_iload hx hb dX6_takesOf_112 (lv_at hl 0 rfl) ?_
      refine lv_aload_n hx hb dX6_takesOf_114 rfl (lv_at hl 3 rfl) ?_
      refine g_get S hK hP (i := 0) (by omega) mC0 rfl inlX6 0 (by decide) k_67 (v := .ref (a 1)) rfl dX6_takesOf_115 ?_
      refine lv_iload_n hx hb dX6_takesOf_118 rfl (lv_at hl 4 rfl) ?_
      refine lv_iconst (v := 2) hx hb dX6_takesOf_119 (by decide) ?_
      refine r_callS S hK hP (c_X6_of l G (mP G a (up (up (up u 1 (233 + 12 * j + 6) ((u 1 (233 + 12 * j + 6)) + ((v_X6_owedOn u j) - (0 : Int32)))) 1 (233 + 12 * j + 7) ((u 1 (233 + 12 * j + 7)) + (0 : Int32))) 1 (233 + 12 * j + 11) (u 1 0))) (gA 8 a) j 2 trivial trivial ) (r_cs S k_221 k_219 k_220 k_5 q_X6_of ⟨Nat.le_of_ble_eq_true rfl, Nat.le_of_ble_eq_true rfl⟩ rfl rfl) rfl hl.1 rfl (Nat.le_of_ble_eq_true rfl) dX6_takesOf_120 ⟨Nat.zero_le _, Nat.zero_le _⟩ hS (fun _ h => h) (fun H locs hP _ _ hS => ?_)
      have hP : mP G a (up (up (up u 1 (233 + 12 * j + 6) ((u 1 (233 + 12 * j + 6)) + ((v_X6_owedOn u j) - (0 : Int32)))) 1 (233 + 12 * j + 7) ((u 1 (233 + 12 * j + 7)) + (0 : Int32))) 1 (233 + 12 * j + 11) (u 1 0)) H := hP
      refine r_top (v := nI (233 + 12 * j + 2)) rfl ?_
      refine g_aldN S hK hP (i := 1) (by omega) mC1 (k := 233 + 12 * j + 2) (by omega) (by decide) (v := u 1 (233 + 12 * j + 2)) ((up_nk (by omega)).trans ((up_nk (by omega)).trans ((up_nk (by omega)).trans rfl))) dX6_takesOf_123 ?_
      refine lv_imul hx hb dX6_takesOf_124 ?_
      refine lv_bipush (v := 100) hx hb dX6_takesOf_125 (by decide) ?_
      refine lv_aload_n hx hb dX6_takesOf_127 rfl (lv_at hl 3 rfl) ?_
      refine g_get S hK hP (i := 0) (by omega) mC0 rfl inlX6 0 (by decide) k_67 (v := .ref (a 1)) rfl dX6_takesOf_128 ?_
      refine lv_iload_n hx hb dX6_takesOf_131 rfl (lv_at hl 4 rfl) ?_
      refine lv_iconst (v := 2) hx hb dX6_takesOf_132 (by decide) ?_
      refine r_callS S hK hP (c_X6_of l G (mP G a (up (up (up u 1 (233 + 12 * j + 6) ((u 1 (233 + 12 * j + 6)) + ((v_X6_owedOn u j) - (0 : Int32)))) 1 (233 + 12 * j + 7) ((u 1 (233 + 12 * j + 7)) + (0 : Int32))) 1 (233 + 12 * j + 11) (u 1 0))) (gA 8 a) j 2 trivial trivial ) (r_cs S k_221 k_219 k_220 k_5 q_X6_of ⟨Nat.le_of_ble_eq_true rfl, Nat.le_of_ble_eq_true rfl⟩ rfl rfl) rfl hl.1 rfl (Nat.le_of_ble_eq_true rfl) dX6_takesOf_133 ⟨Nat.zero_le _, Nat.zero_le _⟩ hS (fun _ h => h) (fun H locs hP _ _ hS => ?_)
      have hP : mP G a (up (up (up u 1 (233 + 12 * j + 6) ((u 1 (233 + 12 * j + 6)) + ((v_X6_owedOn u j) - (0 : Int32)))) 1 (233 + 12 * j + 7) ((u 1 (233 + 12 * j + 7)) + (0 : Int32))) 1 (233 + 12 * j + 11) (u 1 0)) H := hP
      refine r_top (v := nI (233 + 12 * j + 2)) rfl ?_
      refine g_aldN S hK hP (i := 1) (by omega) mC1 (k := 233 + 12 * j + 2) (by omega) (by decide) (v := u 1 (233 + 12 * j + 2)) ((up_nk (by omega)).trans ((up_nk (by omega)).trans ((up_nk (by omega)).trans rfl))) dX6_takesOf_136 ?_
      refine lv_iadd hx hb dX6_takesOf_137 ?_
      refine lv_idiv hx hb dX6_takesOf_138 (SI_rt hm hj) ?_
      refine lv_iadd hx hb dX6_takesOf_139 ?_
      refine g_astN S hK hP hI hS (i := 1) (by omega) mC1 (k := 25 + sN (u 1) 0 / 100) (by omega) (by decide) dX6_takesOf_140 (fun H locs hP hS => ?_)
      have hP : mP G a (up (up (up (up u 1 (233 + 12 * j + 6) ((u 1 (233 + 12 * j + 6)) + ((v_X6_owedOn u j) - (0 : Int32)))) 1 (233 + 12 * j + 7) ((u 1 (233 + 12 * j + 7)) + (0 : Int32))) 1 (233 + 12 * j + 11) (u 1 0)) 1 (25 + sN (u 1) 0 / 100) ((u 1 (25 + sN (u 1) 0 / 100)) + ((((v_X6_owedOn u j) - (0 : Int32)) * (u 1 (233 + 12 * j + 2))) / ((100 : Int32) + (u 1 (233 + 12 * j + 2)))))) H := hP
      refine lv_aload_n hx hb dX6_takesOf_141 rfl (lv_at hl 3 rfl) ?_
      refine g_get S hK hP (i := 0) (by omega) mC0 rfl inlX6 0 (by decide) k_67 (v := .ref (a 1)) rfl dX6_takesOf_142 ?_
      refine lv_iload_n hx hb dX6_takesOf_145 rfl (lv_at hl 4 rfl) ?_
      refine lv_iconst (v := 5) hx hb dX6_takesOf_146 (by decide) ?_
      refine r_callS S hK hP (c_X6_of l G (mP G a (up (up (up (up u 1 (233 + 12 * j + 6) ((u 1 (233 + 12 * j + 6)) + ((v_X6_owedOn u j) - (0 : Int32)))) 1 (233 + 12 * j + 7) ((u 1 (233 + 12 * j + 7)) + (0 : Int32))) 1 (233 + 12 * j + 11) (u 1 0)) 1 (25 + sN (u 1) 0 / 100) ((u 1 (25 + sN (u 1) 0 / 100)) + ((((v_X6_owedOn u j) - (0 : Int32)) * (u 1 (233 + 12 * j + 2))) / ((100 : Int32) + (u 1 (233 + 12 * j + 2))))))) (gA 8 a) j 5 trivial trivial ) (r_cs S k_221 k_219 k_220 k_5 q_X6_of ⟨Nat.le_of_ble_eq_true rfl, Nat.le_of_ble_eq_true rfl⟩ rfl rfl) rfl hl.1 rfl (Nat.le_of_ble_eq_true rfl) dX6_takesOf_147 ⟨Nat.zero_le _, Nat.zero_le _⟩ hS (fun _ h => h) (fun H locs hP _ _ hS => ?_)
      have hP : mP G a (up (up (up (up u 1 (233 + 12 * j + 6) ((u 1 (233 + 12 * j + 6)) + ((v_X6_owedOn u j) - (0 : Int32)))) 1 (233 + 12 * j + 7) ((u 1 (233 + 12 * j + 7)) + (0 : Int32))) 1 (233 + 12 * j + 11) (u 1 0)) 1 (25 + sN (u 1) 0 / 100) ((u 1 (25 + sN (u 1) 0 / 100)) + ((((v_X6_owedOn u j) - (0 : Int32)) * (u 1 (233 + 12 * j + 2))) / ((100 : Int32) + (u 1 (233 + 12 * j + 2)))))) H := hP
      refine r_top (v := nI (233 + 12 * j + 5)) rfl ?_
      refine lv_aload_n hx hb dX6_takesOf_150 rfl (lv_at hl 3 rfl) ?_
      refine lv_iload_n hx hb dX6_takesOf_151 rfl (lv_at hl 4 rfl) ?_
      refine r_callI S hK hP (c_X6_owedOn l G a hI (up (up (up (up u 1 (233 + 12 * j + 6) ((u 1 (233 + 12 * j + 6)) + ((v_X6_owedOn u j) - (0 : Int32)))) 1 (233 + 12 * j + 7) ((u 1 (233 + 12 * j + 7)) + (0 : Int32))) 1 (233 + 12 * j + 11) (u 1 0)) 1 (25 + sN (u 1) 0 / 100) ((u 1 (25 + sN (u 1) 0 / 100)) + ((((v_X6_owedOn u j) - (0 : Int32)) * (u 1 (233 + 12 * j + 2))) / ((100 : Int32) + (u 1 (233 + 12 * j + 2)))))) j (by omega) ) (r_cw S k_245 k_242 k_243 k_244 k_5 q_X6_owedOn ⟨Nat.le_of_ble_eq_true rfl, Nat.le_of_ble_eq_true rfl⟩ rfl rfl) (g_recv hK hP (i := 0) (by omega) mC0 rfl) rfl hl.1 rfl (Nat.le_of_ble_eq_true rfl) dX6_takesOf_152 ⟨Nat.zero_le _, Nat.zero_le _⟩ hS (fun _ h => h) (fun H locs hP _ _ hS => ?_)
      have hP : mP G a (up (up (up (up u 1 (233 + 12 * j + 6) ((u 1 (233 + 12 * j + 6)) + ((v_X6_owedOn u j) - (0 : Int32)))) 1 (233 + 12 * j + 7) ((u 1 (233 + 12 * j + 7)) + (0 : Int32))) 1 (233 + 12 * j + 11) (u 1 0)) 1 (25 + sN (u 1) 0 / 100) ((u 1 (25 + sN (u 1) 0 / 100)) + ((((v_X6_owedOn u j) - (0 : Int32)) * (u 1 (233 + 12 * j + 2))) / ((100 : Int32) + (u 1 (233 + 12 * j + 2)))))) H := hP
      refine lv_if_ne (tgt := 162) hx hb dX6_takesOf_155 (by decide) (fun c3 => ?_) (fun c3 => ?_)
      · skip
        refine lv_aload_n hx hb dX6_takesOf_162 rfl (lv_at hl 3 rfl) ?_
        refine g_get S hK hP (i := 0) (by omega) mC0 rfl inlX6 0 (by decide) k_67 (v := .ref (a 1)) rfl dX6_takesOf_163 ?_
        refine lv_iload_n hx hb dX6_takesOf_166 rfl (lv_at hl 4 rfl) ?_
        refine lv_iconst (v := 5) hx hb dX6_takesOf_167 (by decide) ?_
        refine r_callS S hK hP (c_X6_of l G (mP G a (up (up (up (up u 1 (233 + 12 * j + 6) ((u 1 (233 + 12 * j + 6)) + ((v_X6_owedOn u j) - (0 : Int32)))) 1 (233 + 12 * j + 7) ((u 1 (233 + 12 * j + 7)) + (0 : Int32))) 1 (233 + 12 * j + 11) (u 1 0)) 1 (25 + sN (u 1) 0 / 100) ((u 1 (25 + sN (u 1) 0 / 100)) + ((((v_X6_owedOn u j) - (0 : Int32)) * (u 1 (233 + 12 * j + 2))) / ((100 : Int32) + (u 1 (233 + 12 * j + 2))))))) (gA 8 a) j 5 trivial trivial ) (r_cs S k_221 k_219 k_220 k_5 q_X6_of ⟨Nat.le_of_ble_eq_true rfl, Nat.le_of_ble_eq_true rfl⟩ rfl rfl) rfl hl.1 rfl (Nat.le_of_ble_eq_true rfl) dX6_takesOf_168 ⟨Nat.zero_le _, Nat.zero_le _⟩ hS (fun _ h => h) (fun H locs hP _ _ hS => ?_)
        have hP : mP G a (up (up (up (up u 1 (233 + 12 * j + 6) ((u 1 (233 + 12 * j + 6)) + ((v_X6_owedOn u j) - (0 : Int32)))) 1 (233 + 12 * j + 7) ((u 1 (233 + 12 * j + 7)) + (0 : Int32))) 1 (233 + 12 * j + 11) (u 1 0)) 1 (25 + sN (u 1) 0 / 100) ((u 1 (25 + sN (u 1) 0 / 100)) + ((((v_X6_owedOn u j) - (0 : Int32)) * (u 1 (233 + 12 * j + 2))) / ((100 : Int32) + (u 1 (233 + 12 * j + 2)))))) H := hP
        refine r_top (v := nI (233 + 12 * j + 5)) rfl ?_
        refine g_aldN S hK hP (i := 1) (by omega) mC1 (k := 233 + 12 * j + 5) (by omega) (by decide) (v := u 1 (233 + 12 * j + 5)) ((up_nk (by omega)).trans ((up_nk (by omega)).trans ((up_nk (by omega)).trans ((up_nk (by omega)).trans rfl)))) dX6_takesOf_171 ?_
        refine g_astN S hK hP hI hS (i := 1) (by omega) mC1 (k := 233 + 12 * j + 5) (by omega) (by decide) dX6_takesOf_172 (fun H locs hP hS => ?_)
        have hP : mP G a (up (up (up (up (up u 1 (233 + 12 * j + 6) ((u 1 (233 + 12 * j + 6)) + ((v_X6_owedOn u j) - (0 : Int32)))) 1 (233 + 12 * j + 7) ((u 1 (233 + 12 * j + 7)) + (0 : Int32))) 1 (233 + 12 * j + 11) (u 1 0)) 1 (25 + sN (u 1) 0 / 100) ((u 1 (25 + sN (u 1) 0 / 100)) + ((((v_X6_owedOn u j) - (0 : Int32)) * (u 1 (233 + 12 * j + 2))) / ((100 : Int32) + (u 1 (233 + 12 * j + 2)))))) 1 (233 + 12 * j + 5) (u 1 (233 + 12 * j + 5))) H := hP
        refine lv_iload hx hb dX6_takesOf_173 (lv_at hl 0 rfl) ?_
        exact e_int S hr hlk rfl hK hS (gP_eq (show w_X6_takesOf u j p2 = up (up (up (up (up u 1 (233 + 12 * j + 6) ((u 1 (233 + 12 * j + 6)) + ((v_X6_owedOn u j) - (0 : Int32)))) 1 (233 + 12 * j + 7) ((u 1 (233 + 12 * j + 7)) + (0 : Int32))) 1 (233 + 12 * j + 11) (u 1 0)) 1 (25 + sN (u 1) 0 / 100) ((u 1 (25 + sN (u 1) 0 / 100)) + ((((v_X6_owedOn u j) - (0 : Int32)) * (u 1 (233 + 12 * j + 2))) / ((100 : Int32) + (u 1 (233 + 12 * j + 2)))))) 1 (233 + 12 * j + 5) (u 1 (233 + 12 * j + 5)) from (if_pos c1).trans ((if_pos c2).trans ((if_neg c3).trans rfl))) hP) (show v_X6_takesOf u j p2 = (v_X6_owedOn u j) - (0 : Int32) from (if_pos c1).trans ((if_pos c2).trans ((if_neg c3).trans rfl))).symm dX6_takesOf_175
      · skip
        refine lv_iconst (v := 1) hx hb dX6_takesOf_158 (by decide) ?_
        refine lv_goto (tgt := 172) hx hb dX6_takesOf_159 (by decide) ?_
        refine g_astN S hK hP hI hS (i := 1) (by omega) mC1 (k := 233 + 12 * j + 5) (by omega) (by decide) dX6_takesOf_172 (fun H locs hP hS => ?_)
        have hP : mP G a (up (up (up (up (up u 1 (233 + 12 * j + 6) ((u 1 (233 + 12 * j + 6)) + ((v_X6_owedOn u j) - (0 : Int32)))) 1 (233 + 12 * j + 7) ((u 1 (233 + 12 * j + 7)) + (0 : Int32))) 1 (233 + 12 * j + 11) (u 1 0)) 1 (25 + sN (u 1) 0 / 100) ((u 1 (25 + sN (u 1) 0 / 100)) + ((((v_X6_owedOn u j) - (0 : Int32)) * (u 1 (233 + 12 * j + 2))) / ((100 : Int32) + (u 1 (233 + 12 * j + 2)))))) 1 (233 + 12 * j + 5) (1 : Int32)) H := hP
        refine lv_iload hx hb dX6_takesOf_173 (lv_at hl 0 rfl) ?_
        exact e_int S hr hlk rfl hK hS (gP_eq (show w_X6_takesOf u j p2 = up (up (up (up (up u 1 (233 + 12 * j + 6) ((u 1 (233 + 12 * j + 6)) + ((v_X6_owedOn u j) - (0 : Int32)))) 1 (233 + 12 * j + 7) ((u 1 (233 + 12 * j + 7)) + (0 : Int32))) 1 (233 + 12 * j + 11) (u 1 0)) 1 (25 + sN (u 1) 0 / 100) ((u 1 (25 + sN (u 1) 0 / 100)) + ((((v_X6_owedOn u j) - (0 : Int32)) * (u 1 (233 + 12 * j + 2))) / ((100 : Int32) + (u 1 (233 + 12 * j + 2)))))) 1 (233 + 12 * j + 5) (1 : Int32) from (if_pos c1).trans ((if_pos c2).trans ((if_pos c3).trans rfl))) hP) (show v_X6_takesOf u j p2 = (v_X6_owedOn u j) - (0 : Int32) from (if_pos c1).trans ((if_pos c2).trans ((if_pos c3).trans rfl))).symm dX6_takesOf_175
    · skip
      refine lv_iload_n hx hb dX6_takesOf_38 rfl (lv_at hl 4 rfl) ?_
      refine lv_goto (tgt := 44) hx hb dX6_takesOf_39 (by decide) ?_
      refine lv_istore (lv' := [(5, .int p2), (4, .int ((v_X6_owedOn u j) - (0 : Int32))), (3, .int (0 : Int32)), (0, .ref (a 0)), (1, .int (nI j)), (2, .int p2)]) hx hb dX6_takesOf_44 hl (by decide) rfl (fun ls hl => ?_)
      refine lv_aload_n hx hb dX6_takesOf_46 rfl (lv_at hl 3 rfl) ?_
      refine g_get S hK hP (i := 0) (by omega) mC0 rfl inlX6 0 (by decide) k_67 (v := .ref (a 1)) rfl dX6_takesOf_47 ?_
      refine lv_iload_n hx hb dX6_takesOf_50 rfl (lv_at hl 4 rfl) ?_
      refine lv_bipush (v := 6) hx hb dX6_takesOf_51 (by decide) ?_
      refine r_callS S hK hP (c_X6_of l G (mP G a u) (gA 8 a) j 6 trivial trivial ) (r_cs S k_221 k_219 k_220 k_5 q_X6_of ⟨Nat.le_of_ble_eq_true rfl, Nat.le_of_ble_eq_true rfl⟩ rfl rfl) rfl hl.1 rfl (Nat.le_of_ble_eq_true rfl) dX6_takesOf_53 ⟨Nat.zero_le _, Nat.zero_le _⟩ hS (fun _ h => h) (fun H locs hP _ _ hS => ?_)
      have hP : mP G a u H := hP
      refine r_top (v := nI (233 + 12 * j + 6)) rfl ?_
      refine lv_dup2_11 hx hb dX6_takesOf_56 rfl rfl ?_
      refine g_aldN S hK hP (i := 1) (by omega) mC1 (k := 233 + 12 * j + 6) (by omega) (by decide) (v := u 1 (233 + 12 * j + 6)) (rfl) dX6_takesOf_57 ?_
      refine lv_iload hx hb dX6_takesOf_58 (lv_at hl 0 rfl) ?_
      refine lv_iadd hx hb dX6_takesOf_60 ?_
      refine g_astN S hK hP hI hS (i := 1) (by omega) mC1 (k := 233 + 12 * j + 6) (by omega) (by decide) dX6_takesOf_61 (fun H locs hP hS => ?_)
      have hP : mP G a (up u 1 (233 + 12 * j + 6) ((u 1 (233 + 12 * j + 6)) + p2)) H := hP
      refine lv_aload_n hx hb dX6_takesOf_62 rfl (lv_at hl 3 rfl) ?_
      refine g_get S hK hP (i := 0) (by omega) mC0 rfl inlX6 0 (by decide) k_67 (v := .ref (a 1)) rfl dX6_takesOf_63 ?_
      refine lv_iload_n hx hb dX6_takesOf_66 rfl (lv_at hl 4 rfl) ?_
      refine lv_bipush (v := 7) hx hb dX6_takesOf_67 (by decide) ?_
      refine r_callS S hK hP (c_X6_of l G (mP G a (up u 1 (233 + 12 * j + 6) ((u 1 (233 + 12 * j + 6)) + p2))) (gA 8 a) j 7 trivial trivial ) (r_cs S k_221 k_219 k_220 k_5 q_X6_of ⟨Nat.le_of_ble_eq_true rfl, Nat.le_of_ble_eq_true rfl⟩ rfl rfl) rfl hl.1 rfl (Nat.le_of_ble_eq_true rfl) dX6_takesOf_69 ⟨Nat.zero_le _, Nat.zero_le _⟩ hS (fun _ h => h) (fun H locs hP _ _ hS => ?_)
      have hP : mP G a (up u 1 (233 + 12 * j + 6) ((u 1 (233 + 12 * j + 6)) + p2)) H := hP
      refine r_top (v := nI (233 + 12 * j + 7)) rfl ?_
      refine lv_dup2_11 hx hb dX6_takesOf_72 rfl rfl ?_
      refine g_aldN S hK hP (i := 1) (by omega) mC1 (k := 233 + 12 * j + 7) (by omega) (by decide) (v := u 1 (233 + 12 * j + 7)) ((up_nk (by omega)).trans rfl) dX6_takesOf_73 ?_
      refine lv_iload_n hx hb dX6_takesOf_74 rfl (lv_at hl 2 rfl) ?_
      refine lv_iadd hx hb dX6_takesOf_75 ?_
      refine g_astN S hK hP hI hS (i := 1) (by omega) mC1 (k := 233 + 12 * j + 7) (by omega) (by decide) dX6_takesOf_76 (fun H locs hP hS => ?_)
      have hP : mP G a (up (up u 1 (233 + 12 * j + 6) ((u 1 (233 + 12 * j + 6)) + p2)) 1 (233 + 12 * j + 7) ((u 1 (233 + 12 * j + 7)) + (0 : Int32))) H := hP
      refine lv_aload_n hx hb dX6_takesOf_77 rfl (lv_at hl 3 rfl) ?_
      refine g_get S hK hP (i := 0) (by omega) mC0 rfl inlX6 0 (by decide) k_67 (v := .ref (a 1)) rfl dX6_takesOf_78 ?_
      refine lv_iload_n hx hb dX6_takesOf_81 rfl (lv_at hl 4 rfl) ?_
      refine lv_bipush (v := 11) hx hb dX6_takesOf_82 (by decide) ?_
      refine r_callS S hK hP (c_X6_of l G (mP G a (up (up u 1 (233 + 12 * j + 6) ((u 1 (233 + 12 * j + 6)) + p2)) 1 (233 + 12 * j + 7) ((u 1 (233 + 12 * j + 7)) + (0 : Int32)))) (gA 8 a) j 11 trivial trivial ) (r_cs S k_221 k_219 k_220 k_5 q_X6_of ⟨Nat.le_of_ble_eq_true rfl, Nat.le_of_ble_eq_true rfl⟩ rfl rfl) rfl hl.1 rfl (Nat.le_of_ble_eq_true rfl) dX6_takesOf_84 ⟨Nat.zero_le _, Nat.zero_le _⟩ hS (fun _ h => h) (fun H locs hP _ _ hS => ?_)
      have hP : mP G a (up (up u 1 (233 + 12 * j + 6) ((u 1 (233 + 12 * j + 6)) + p2)) 1 (233 + 12 * j + 7) ((u 1 (233 + 12 * j + 7)) + (0 : Int32))) H := hP
      refine r_top (v := nI (233 + 12 * j + 11)) rfl ?_
      refine lv_aload_n hx hb dX6_takesOf_87 rfl (lv_at hl 3 rfl) ?_
      refine g_get S hK hP (i := 0) (by omega) mC0 rfl inlX6 0 (by decide) k_67 (v := .ref (a 1)) rfl dX6_takesOf_88 ?_
      refine lv_iconst (v := 0) hx hb dX6_takesOf_91 (by decide) ?_
      refine g_aldN S hK hP (i := 1) (by omega) mC1 (k := 0) (by omega) (by decide) (v := u 1 0) ((up_nk (by omega)).trans ((up_nk (by omega)).trans rfl)) dX6_takesOf_92 ?_
      refine g_astN S hK hP hI hS (i := 1) (by omega) mC1 (k := 233 + 12 * j + 11) (by omega) (by decide) dX6_takesOf_93 (fun H locs hP hS => ?_)
      have hP : mP G a (up (up (up u 1 (233 + 12 * j + 6) ((u 1 (233 + 12 * j + 6)) + p2)) 1 (233 + 12 * j + 7) ((u 1 (233 + 12 * j + 7)) + (0 : Int32))) 1 (233 + 12 * j + 11) (u 1 0)) H := hP
      refine lv_aload_n hx hb dX6_takesOf_94 rfl (lv_at hl 3 rfl) ?_
      refine g_get S hK hP (i := 0) (by omega) mC0 rfl inlX6 0 (by decide) k_67 (v := .ref (a 1)) rfl dX6_takesOf_95 ?_
      refine lv_bipush (v := 25) hx hb dX6_takesOf_98 (by decide) ?_
      refine lv_aload_n hx hb dX6_takesOf_100 rfl (lv_at hl 3 rfl) ?_
      refine g_get S hK hP (i := 0) (by omega) mC0 rfl inlX6 0 (by decide) k_67 (v := .ref (a 1)) rfl dX6_takesOf_101 ?_
      refine lv_iconst (v := 0) hx hb dX6_takesOf_104 (by decide) ?_
      refine g_aldN S hK hP (i := 1) (by omega) mC1 (k := 0) (by omega) (by decide) (v := u 1 0) ((up_nk (by omega)).trans ((up_nk (by omega)).trans ((up_nk (by omega)).trans rfl))) dX6_takesOf_105 ?_
      refine r_top (v := nI (sN (u 1) 0)) (SI_day hm) ?_
      refine lv_bipush (v := 100) hx hb dX6_takesOf_106 (by decide) ?_
      refine lv_idiv hx hb dX6_takesOf_108 (by decide) ?_
      refine r_top (v := nI (sN (u 1) 0 / 100)) (pk_div (by omega) (by decide) (by decide)) ?_
      refine lv_iadd hx hb dX6_takesOf_109 ?_
      refine r_top (v := nI (25 + sN (u 1) 0 / 100)) (nI_add 25 (sN (u 1) 0 / 100)) ?_
      refine lv_dup2_11 hx hb dX6_takesOf_110 rfl rfl ?_
      refine g_aldN S hK hP (i := 1) (by omega) mC1 (k := 25 + sN (u 1) 0 / 100) (by omega) (by decide) (v := u 1 (25 + sN (u 1) 0 / 100)) ((up_nk (by omega)).trans ((up_nk (by omega)).trans ((up_nk (by omega)).trans rfl))) dX6_takesOf_111 ?_
      refine lv_iload hx hb dX6_takesOf_112 (lv_at hl 0 rfl) ?_
      refine lv_aload_n hx hb dX6_takesOf_114 rfl (lv_at hl 3 rfl) ?_
      refine g_get S hK hP (i := 0) (by omega) mC0 rfl inlX6 0 (by decide) k_67 (v := .ref (a 1)) rfl dX6_takesOf_115 ?_
      refine lv_iload_n hx hb dX6_takesOf_118 rfl (lv_at hl 4 rfl) ?_
      refine lv_iconst (v := 2) hx hb dX6_takesOf_119 (by decide) ?_
      refine r_callS S hK hP (c_X6_of l G (mP G a (up (up (up u 1 (233 + 12 * j + 6) ((u 1 (233 + 12 * j + 6)) + p2)) 1 (233 + 12 * j + 7) ((u 1 (233 + 12 * j + 7)) + (0 : Int32))) 1 (233 + 12 * j + 11) (u 1 0))) (gA 8 a) j 2 trivial trivial ) (r_cs S k_221 k_219 k_220 k_5 q_X6_of ⟨Nat.le_of_ble_eq_true rfl, Nat.le_of_ble_eq_true rfl⟩ rfl rfl) rfl hl.1 rfl (Nat.le_of_ble_eq_true rfl) dX6_takesOf_120 ⟨Nat.zero_le _, Nat.zero_le _⟩ hS (fun _ h => h) (fun H locs hP _ _ hS => ?_)
      have hP : mP G a (up (up (up u 1 (233 + 12 * j + 6) ((u 1 (233 + 12 * j + 6)) + p2)) 1 (233 + 12 * j + 7) ((u 1 (233 + 12 * j + 7)) + (0 : Int32))) 1 (233 + 12 * j + 11) (u 1 0)) H := hP
      refine r_top (v := nI (233 + 12 * j + 2)) rfl ?_
      refine g_aldN S hK hP (i := 1) (by omega) mC1 (k := 233 + 12 * j + 2) (by omega) (by decide) (v := u 1 (233 + 12 * j + 2)) ((up_nk (by omega)).trans ((up_nk (by omega)).trans ((up_nk (by omega)).trans rfl))) dX6_takesOf_123 ?_
      refine lv_imul hx hb dX6_takesOf_124 ?_
      refine lv_bipush (v := 100) hx hb dX6_takesOf_125 (by decide) ?_
      refine lv_aload_n hx hb dX6_takesOf_127 rfl (lv_at hl 3 rfl) ?_
      refine g_get S hK hP (i := 0) (by omega) mC0 rfl inlX6 0 (by decide) k_67 (v := .ref (a 1)) rfl dX6_takesOf_128 ?_
      refine lv_iload_n hx hb dX6_takesOf_131 rfl (lv_at hl 4 rfl) ?_
      refine lv_iconst (v := 2) hx hb dX6_takesOf_132 (by decide) ?_
      refine r_callS S hK hP (c_X6_of l G (mP G a (up (up (up u 1 (233 + 12 * j + 6) ((u 1 (233 + 12 * j + 6)) + p2)) 1 (233 + 12 * j + 7) ((u 1 (233 + 12 * j + 7)) + (0 : Int32))) 1 (233 + 12 * j + 11) (u 1 0))) (gA 8 a) j 2 trivial trivial ) (r_cs S k_221 k_219 k_220 k_5 q_X6_of ⟨Nat.le_of_ble_eq_true rfl, Nat.le_of_ble_eq_true rfl⟩ rfl rfl) rfl hl.1 rfl (Nat.le_of_ble_eq_true rfl) dX6_takesOf_133 ⟨Nat.zero_le _, Nat.zero_le _⟩ hS (fun _ h => h) (fun H locs hP _ _ hS => ?_)
      have hP : mP G a (up (up (up u 1 (233 + 12 * j + 6) ((u 1 (233 + 12 * j + 6)) + p2)) 1 (233 + 12 * j + 7) ((u 1 (233 + 12 * j + 7)) + (0 : Int32))) 1 (233 + 12 * j + 11) (u 1 0)) H := hP
      refine r_top (v := nI (233 + 12 * j + 2)) rfl ?_
      refine g_aldN S hK hP (i := 1) (by omega) mC1 (k := 233 + 12 * j + 2) (by omega) (by decide) (v := u 1 (233 + 12 * j + 2)) ((up_nk (by omega)).trans ((up_nk (by omega)).trans ((up_nk (by omega)).trans rfl))) dX6_takesOf_136 ?_
      refine lv_iadd hx hb dX6_takesOf_137 ?_
      refine lv_idiv hx hb dX6_takesOf_138 (SI_rt hm hj) ?_
      refine lv_iadd hx hb dX6_takesOf_139 ?_
      refine g_astN S hK hP hI hS (i := 1) (by omega) mC1 (k := 25 + sN (u 1) 0 / 100) (by omega) (by decide) dX6_takesOf_140 (fun H locs hP hS => ?_)
      have hP : mP G a (up (up (up (up u 1 (233 + 12 * j + 6) ((u 1 (233 + 12 * j + 6)) + p2)) 1 (233 + 12 * j + 7) ((u 1 (233 + 12 * j + 7)) + (0 : Int32))) 1 (233 + 12 * j + 11) (u 1 0)) 1 (25 + sN (u 1) 0 / 100) ((u 1 (25 + sN (u 1) 0 / 100)) + ((p2 * (u 1 (233 + 12 * j + 2))) / ((100 : Int32) + (u 1 (233 + 12 * j + 2)))))) H := hP
      refine lv_aload_n hx hb dX6_takesOf_141 rfl (lv_at hl 3 rfl) ?_
      refine g_get S hK hP (i := 0) (by omega) mC0 rfl inlX6 0 (by decide) k_67 (v := .ref (a 1)) rfl dX6_takesOf_142 ?_
      refine lv_iload_n hx hb dX6_takesOf_145 rfl (lv_at hl 4 rfl) ?_
      refine lv_iconst (v := 5) hx hb dX6_takesOf_146 (by decide) ?_
      refine r_callS S hK hP (c_X6_of l G (mP G a (up (up (up (up u 1 (233 + 12 * j + 6) ((u 1 (233 + 12 * j + 6)) + p2)) 1 (233 + 12 * j + 7) ((u 1 (233 + 12 * j + 7)) + (0 : Int32))) 1 (233 + 12 * j + 11) (u 1 0)) 1 (25 + sN (u 1) 0 / 100) ((u 1 (25 + sN (u 1) 0 / 100)) + ((p2 * (u 1 (233 + 12 * j + 2))) / ((100 : Int32) + (u 1 (233 + 12 * j + 2))))))) (gA 8 a) j 5 trivial trivial ) (r_cs S k_221 k_219 k_220 k_5 q_X6_of ⟨Nat.le_of_ble_eq_true rfl, Nat.le_of_ble_eq_true rfl⟩ rfl rfl) rfl hl.1 rfl (Nat.le_of_ble_eq_true rfl) dX6_takesOf_147 ⟨Nat.zero_le _, Nat.zero_le _⟩ hS (fun _ h => h) (fun H locs hP _ _ hS => ?_)
      have hP : mP G a (up (up (up (up u 1 (233 + 12 * j + 6) ((u 1 (233 + 12 * j + 6)) + p2)) 1 (233 + 12 * j + 7) ((u 1 (233 + 12 * j + 7)) + (0 : Int32))) 1 (233 + 12 * j + 11) (u 1 0)) 1 (25 + sN (u 1) 0 / 100) ((u 1 (25 + sN (u 1) 0 / 100)) + ((p2 * (u 1 (233 + 12 * j + 2))) / ((100 : Int32) + (u 1 (233 + 12 * j + 2)))))) H := hP
      refine r_top (v := nI (233 + 12 * j + 5)) rfl ?_
      refine lv_aload_n hx hb dX6_takesOf_150 rfl (lv_at hl 3 rfl) ?_
      refine lv_iload_n hx hb dX6_takesOf_151 rfl (lv_at hl 4 rfl) ?_
      refine r_callI S hK hP (c_X6_owedOn l G a hI (up (up (up (up u 1 (233 + 12 * j + 6) ((u 1 (233 + 12 * j + 6)) + p2)) 1 (233 + 12 * j + 7) ((u 1 (233 + 12 * j + 7)) + (0 : Int32))) 1 (233 + 12 * j + 11) (u 1 0)) 1 (25 + sN (u 1) 0 / 100) ((u 1 (25 + sN (u 1) 0 / 100)) + ((p2 * (u 1 (233 + 12 * j + 2))) / ((100 : Int32) + (u 1 (233 + 12 * j + 2)))))) j (by omega) ) (r_cw S k_245 k_242 k_243 k_244 k_5 q_X6_owedOn ⟨Nat.le_of_ble_eq_true rfl, Nat.le_of_ble_eq_true rfl⟩ rfl rfl) (g_recv hK hP (i := 0) (by omega) mC0 rfl) rfl hl.1 rfl (Nat.le_of_ble_eq_true rfl) dX6_takesOf_152 ⟨Nat.zero_le _, Nat.zero_le _⟩ hS (fun _ h => h) (fun H locs hP _ _ hS => ?_)
      have hP : mP G a (up (up (up (up u 1 (233 + 12 * j + 6) ((u 1 (233 + 12 * j + 6)) + p2)) 1 (233 + 12 * j + 7) ((u 1 (233 + 12 * j + 7)) + (0 : Int32))) 1 (233 + 12 * j + 11) (u 1 0)) 1 (25 + sN (u 1) 0 / 100) ((u 1 (25 + sN (u 1) 0 / 100)) + ((p2 * (u 1 (233 + 12 * j + 2))) / ((100 : Int32) + (u 1 (233 + 12 * j + 2)))))) H := hP
      refine lv_if_ne (tgt := 162) hx hb dX6_takesOf_155 (by decide) (fun c4 => ?_) (fun c4 => ?_)
      · skip
        refine lv_aload_n hx hb dX6_takesOf_162 rfl (lv_at hl 3 rfl) ?_
        refine g_get S hK hP (i := 0) (by omega) mC0 rfl inlX6 0 (by decide) k_67 (v := .ref (a 1)) rfl dX6_takesOf_163 ?_
        refine lv_iload_n hx hb dX6_takesOf_166 rfl (lv_at hl 4 rfl) ?_
        refine lv_iconst (v := 5) hx hb dX6_takesOf_167 (by decide) ?_
        refine r_callS S hK hP (c_X6_of l G (mP G a (up (up (up (up u 1 (233 + 12 * j + 6) ((u 1 (233 + 12 * j + 6)) + p2)) 1 (233 + 12 * j + 7) ((u 1 (233 + 12 * j + 7)) + (0 : Int32))) 1 (233 + 12 * j + 11) (u 1 0)) 1 (25 + sN (u 1) 0 / 100) ((u 1 (25 + sN (u 1) 0 / 100)) + ((p2 * (u 1 (233 + 12 * j + 2))) / ((100 : Int32) + (u 1 (233 + 12 * j + 2))))))) (gA 8 a) j 5 trivial trivial ) (r_cs S k_221 k_219 k_220 k_5 q_X6_of ⟨Nat.le_of_ble_eq_true rfl, Nat.le_of_ble_eq_true rfl⟩ rfl rfl) rfl hl.1 rfl (Nat.le_of_ble_eq_true rfl) dX6_takesOf_168 ⟨Nat.zero_le _, Nat.zero_le _⟩ hS (fun _ h => h) (fun H locs hP _ _ hS => ?_)
        have hP : mP G a (up (up (up (up u 1 (233 + 12 * j + 6) ((u 1 (233 + 12 * j + 6)) + p2)) 1 (233 + 12 * j + 7) ((u 1 (233 + 12 * j + 7)) + (0 : Int32))) 1 (233 + 12 * j + 11) (u 1 0)) 1 (25 + sN (u 1) 0 / 100) ((u 1 (25 + sN (u 1) 0 / 100)) + ((p2 * (u 1 (233 + 12 * j + 2))) / ((100 : Int32) + (u 1 (233 + 12 * j + 2)))))) H := hP
        refine r_top (v := nI (233 + 12 * j + 5)) rfl ?_
        refine g_aldN S hK hP (i := 1) (by omega) mC1 (k := 233 + 12 * j + 5) (by omega) (by decide) (v := u 1 (233 + 12 * j + 5)) ((up_nk (by omega)).trans ((up_nk (by omega)).trans ((up_nk (by omega)).trans ((up_nk (by omega)).trans rfl)))) dX6_takesOf_171 ?_
        refine g_astN S hK hP hI hS (i := 1) (by omega) mC1 (k := 233 + 12 * j + 5) (by omega) (by decide) dX6_takesOf_172 (fun H locs hP hS => ?_)
        have hP : mP G a (up (up (up (up (up u 1 (233 + 12 * j + 6) ((u 1 (233 + 12 * j + 6)) + p2)) 1 (233 + 12 * j + 7) ((u 1 (233 + 12 * j + 7)) + (0 : Int32))) 1 (233 + 12 * j + 11) (u 1 0)) 1 (25 + sN (u 1) 0 / 100) ((u 1 (25 + sN (u 1) 0 / 100)) + ((p2 * (u 1 (233 + 12 * j + 2))) / ((100 : Int32) + (u 1 (233 + 12 * j + 2)))))) 1 (233 + 12 * j + 5) (u 1 (233 + 12 * j + 5))) H := hP
        refine lv_iload hx hb dX6_takesOf_173 (lv_at hl 0 rfl) ?_
        exact e_int S hr hlk rfl hK hS (gP_eq (show w_X6_takesOf u j p2 = up (up (up (up (up u 1 (233 + 12 * j + 6) ((u 1 (233 + 12 * j + 6)) + p2)) 1 (233 + 12 * j + 7) ((u 1 (233 + 12 * j + 7)) + (0 : Int32))) 1 (233 + 12 * j + 11) (u 1 0)) 1 (25 + sN (u 1) 0 / 100) ((u 1 (25 + sN (u 1) 0 / 100)) + ((p2 * (u 1 (233 + 12 * j + 2))) / ((100 : Int32) + (u 1 (233 + 12 * j + 2)))))) 1 (233 + 12 * j + 5) (u 1 (233 + 12 * j + 5)) from (if_pos c1).trans ((if_neg c2).trans ((if_neg c4).trans rfl))) hP) (show v_X6_takesOf u j p2 = p2 from (if_pos c1).trans ((if_neg c2).trans ((if_neg c4).trans rfl))).symm dX6_takesOf_175
      · skip
        refine lv_iconst (v := 1) hx hb dX6_takesOf_158 (by decide) ?_
        refine lv_goto (tgt := 172) hx hb dX6_takesOf_159 (by decide) ?_
        refine g_astN S hK hP hI hS (i := 1) (by omega) mC1 (k := 233 + 12 * j + 5) (by omega) (by decide) dX6_takesOf_172 (fun H locs hP hS => ?_)
        have hP : mP G a (up (up (up (up (up u 1 (233 + 12 * j + 6) ((u 1 (233 + 12 * j + 6)) + p2)) 1 (233 + 12 * j + 7) ((u 1 (233 + 12 * j + 7)) + (0 : Int32))) 1 (233 + 12 * j + 11) (u 1 0)) 1 (25 + sN (u 1) 0 / 100) ((u 1 (25 + sN (u 1) 0 / 100)) + ((p2 * (u 1 (233 + 12 * j + 2))) / ((100 : Int32) + (u 1 (233 + 12 * j + 2)))))) 1 (233 + 12 * j + 5) (1 : Int32)) H := hP
        refine lv_iload hx hb dX6_takesOf_173 (lv_at hl 0 rfl) ?_
        exact e_int S hr hlk rfl hK hS (gP_eq (show w_X6_takesOf u j p2 = up (up (up (up (up u 1 (233 + 12 * j + 6) ((u 1 (233 + 12 * j + 6)) + p2)) 1 (233 + 12 * j + 7) ((u 1 (233 + 12 * j + 7)) + (0 : Int32))) 1 (233 + 12 * j + 11) (u 1 0)) 1 (25 + sN (u 1) 0 / 100) ((u 1 (25 + sN (u 1) 0 / 100)) + ((p2 * (u 1 (233 + 12 * j + 2))) / ((100 : Int32) + (u 1 (233 + 12 * j + 2)))))) 1 (233 + 12 * j + 5) (1 : Int32) from (if_pos c1).trans ((if_neg c2).trans ((if_pos c4).trans rfl))) hP) (show v_X6_takesOf u j p2 = p2 from (if_pos c1).trans ((if_neg c2).trans ((if_pos c4).trans rfl))).symm dX6_takesOf_175
  · skip
    refine lv_iload_n hx hb dX6_takesOf_17 rfl (lv_at hl 0 rfl) ?_
    refine lv_goto (tgt := 22) hx hb dX6_takesOf_18 (by decide) ?_
    refine lv_istore_n (lv' := [(3, .int (v_X6_discountOf u j)), (0, .ref (a 0)), (1, .int (nI j)), (2, .int p2)]) hx hb dX6_takesOf_22 rfl hl (by decide) rfl (fun ls hl => ?_)
    refine lv_aload_n hx hb dX6_takesOf_23 rfl (lv_at hl 1 rfl) ?_
    refine lv_iload_n hx hb dX6_takesOf_24 rfl (lv_at hl 2 rfl) ?_
    refine r_callI S hK hP (c_X6_owedOn l G a hI u j (by omega) ) (r_cw S k_245 k_242 k_243 k_244 k_5 q_X6_owedOn ⟨Nat.le_of_ble_eq_true rfl, Nat.le_of_ble_eq_true rfl⟩ rfl rfl) (g_recv hK hP (i := 0) (by omega) mC0 rfl) rfl hl.1 rfl (Nat.le_of_ble_eq_true rfl) dX6_takesOf_25 ⟨Nat.zero_le _, Nat.zero_le _⟩ hS (fun _ h => h) (fun H locs hP _ _ hS => ?_)
    have hP : mP G a u H := hP
    refine lv_iload_n hx hb dX6_takesOf_28 rfl (lv_at hl 0 rfl) ?_
    refine lv_isub hx hb dX6_takesOf_29 ?_
    refine lv_istore (lv' := [(4, .int ((v_X6_owedOn u j) - (v_X6_discountOf u j))), (3, .int (v_X6_discountOf u j)), (0, .ref (a 0)), (1, .int (nI j)), (2, .int p2)]) hx hb dX6_takesOf_30 hl (by decide) rfl (fun ls hl => ?_)
    refine lv_iload_n hx hb dX6_takesOf_32 rfl (lv_at hl 4 rfl) ?_
    refine lv_iload hx hb dX6_takesOf_33 (lv_at hl 0 rfl) ?_
    refine lv_icmp_ge (tgt := 42) hx hb dX6_takesOf_35 (by decide) (fun c5 => ?_) (fun c5 => ?_)
    · skip
      refine lv_iload hx hb dX6_takesOf_42 (lv_at hl 0 rfl) ?_
      refine lv_istore (lv' := [(5, .int ((v_X6_owedOn u j) - (v_X6_discountOf u j))), (4, .int ((v_X6_owedOn u j) - (v_X6_discountOf u j))), (3, .int (v_X6_discountOf u j)), (0, .ref (a 0)), (1, .int (nI j)), (2, .int p2)]) hx hb dX6_takesOf_44 hl (by decide) rfl (fun ls hl => ?_)
      refine lv_aload_n hx hb dX6_takesOf_46 rfl (lv_at hl 3 rfl) ?_
      refine g_get S hK hP (i := 0) (by omega) mC0 rfl inlX6 0 (by decide) k_67 (v := .ref (a 1)) rfl dX6_takesOf_47 ?_
      refine lv_iload_n hx hb dX6_takesOf_50 rfl (lv_at hl 4 rfl) ?_
      refine lv_bipush (v := 6) hx hb dX6_takesOf_51 (by decide) ?_
      refine r_callS S hK hP (c_X6_of l G (mP G a u) (gA 8 a) j 6 trivial trivial ) (r_cs S k_221 k_219 k_220 k_5 q_X6_of ⟨Nat.le_of_ble_eq_true rfl, Nat.le_of_ble_eq_true rfl⟩ rfl rfl) rfl hl.1 rfl (Nat.le_of_ble_eq_true rfl) dX6_takesOf_53 ⟨Nat.zero_le _, Nat.zero_le _⟩ hS (fun _ h => h) (fun H locs hP _ _ hS => ?_)
      have hP : mP G a u H := hP
      refine r_top (v := nI (233 + 12 * j + 6)) rfl ?_
      refine lv_dup2_11 hx hb dX6_takesOf_56 rfl rfl ?_
      refine g_aldN S hK hP (i := 1) (by omega) mC1 (k := 233 + 12 * j + 6) (by omega) (by decide) (v := u 1 (233 + 12 * j + 6)) (rfl) dX6_takesOf_57 ?_
      refine lv_iload hx hb dX6_takesOf_58 (lv_at hl 0 rfl) ?_
      refine lv_iadd hx hb dX6_takesOf_60 ?_
      refine g_astN S hK hP hI hS (i := 1) (by omega) mC1 (k := 233 + 12 * j + 6) (by omega) (by decide) dX6_takesOf_61 (fun H locs hP hS => ?_)
      have hP : mP G a (up u 1 (233 + 12 * j + 6) ((u 1 (233 + 12 * j + 6)) + ((v_X6_owedOn u j) - (v_X6_discountOf u j)))) H := hP
      refine lv_aload_n hx hb dX6_takesOf_62 rfl (lv_at hl 3 rfl) ?_
      refine g_get S hK hP (i := 0) (by omega) mC0 rfl inlX6 0 (by decide) k_67 (v := .ref (a 1)) rfl dX6_takesOf_63 ?_
      refine lv_iload_n hx hb dX6_takesOf_66 rfl (lv_at hl 4 rfl) ?_
      refine lv_bipush (v := 7) hx hb dX6_takesOf_67 (by decide) ?_
      refine r_callS S hK hP (c_X6_of l G (mP G a (up u 1 (233 + 12 * j + 6) ((u 1 (233 + 12 * j + 6)) + ((v_X6_owedOn u j) - (v_X6_discountOf u j))))) (gA 8 a) j 7 trivial trivial ) (r_cs S k_221 k_219 k_220 k_5 q_X6_of ⟨Nat.le_of_ble_eq_true rfl, Nat.le_of_ble_eq_true rfl⟩ rfl rfl) rfl hl.1 rfl (Nat.le_of_ble_eq_true rfl) dX6_takesOf_69 ⟨Nat.zero_le _, Nat.zero_le _⟩ hS (fun _ h => h) (fun H locs hP _ _ hS => ?_)
      have hP : mP G a (up u 1 (233 + 12 * j + 6) ((u 1 (233 + 12 * j + 6)) + ((v_X6_owedOn u j) - (v_X6_discountOf u j)))) H := hP
      refine r_top (v := nI (233 + 12 * j + 7)) rfl ?_
      refine lv_dup2_11 hx hb dX6_takesOf_72 rfl rfl ?_
      refine g_aldN S hK hP (i := 1) (by omega) mC1 (k := 233 + 12 * j + 7) (by omega) (by decide) (v := u 1 (233 + 12 * j + 7)) ((up_nk (by omega)).trans rfl) dX6_takesOf_73 ?_
      refine lv_iload_n hx hb dX6_takesOf_74 rfl (lv_at hl 2 rfl) ?_
      refine lv_iadd hx hb dX6_takesOf_75 ?_
      refine g_astN S hK hP hI hS (i := 1) (by omega) mC1 (k := 233 + 12 * j + 7) (by omega) (by decide) dX6_takesOf_76 (fun H locs hP hS => ?_)
      have hP : mP G a (up (up u 1 (233 + 12 * j + 6) ((u 1 (233 + 12 * j + 6)) + ((v_X6_owedOn u j) - (v_X6_discountOf u j)))) 1 (233 + 12 * j + 7) ((u 1 (233 + 12 * j + 7)) + (v_X6_discountOf u j))) H := hP
      refine lv_aload_n hx hb dX6_takesOf_77 rfl (lv_at hl 3 rfl) ?_
      refine g_get S hK hP (i := 0) (by omega) mC0 rfl inlX6 0 (by decide) k_67 (v := .ref (a 1)) rfl dX6_takesOf_78 ?_
      refine lv_iload_n hx hb dX6_takesOf_81 rfl (lv_at hl 4 rfl) ?_
      refine lv_bipush (v := 11) hx hb dX6_takesOf_82 (by decide) ?_
      refine r_callS S hK hP (c_X6_of l G (mP G a (up (up u 1 (233 + 12 * j + 6) ((u 1 (233 + 12 * j + 6)) + ((v_X6_owedOn u j) - (v_X6_discountOf u j)))) 1 (233 + 12 * j + 7) ((u 1 (233 + 12 * j + 7)) + (v_X6_discountOf u j)))) (gA 8 a) j 11 trivial trivial ) (r_cs S k_221 k_219 k_220 k_5 q_X6_of ⟨Nat.le_of_ble_eq_true rfl, Nat.le_of_ble_eq_true rfl⟩ rfl rfl) rfl hl.1 rfl (Nat.le_of_ble_eq_true rfl) dX6_takesOf_84 ⟨Nat.zero_le _, Nat.zero_le _⟩ hS (fun _ h => h) (fun H locs hP _ _ hS => ?_)
      have hP : mP G a (up (up u 1 (233 + 12 * j + 6) ((u 1 (233 + 12 * j + 6)) + ((v_X6_owedOn u j) - (v_X6_discountOf u j)))) 1 (233 + 12 * j + 7) ((u 1 (233 + 12 * j + 7)) + (v_X6_discountOf u j))) H := hP
      refine r_top (v := nI (233 + 12 * j + 11)) rfl ?_
      refine lv_aload_n hx hb dX6_takesOf_87 rfl (lv_at hl 3 rfl) ?_
      refine g_get S hK hP (i := 0) (by omega) mC0 rfl inlX6 0 (by decide) k_67 (v := .ref (a 1)) rfl dX6_takesOf_88 ?_
      refine lv_iconst (v := 0) hx hb dX6_takesOf_91 (by decide) ?_
      refine g_aldN S hK hP (i := 1) (by omega) mC1 (k := 0) (by omega) (by decide) (v := u 1 0) ((up_nk (by omega)).trans ((up_nk (by omega)).trans rfl)) dX6_takesOf_92 ?_
      refine g_astN S hK hP hI hS (i := 1) (by omega) mC1 (k := 233 + 12 * j + 11) (by omega) (by decide) dX6_takesOf_93 (fun H locs hP hS => ?_)
      have hP : mP G a (up (up (up u 1 (233 + 12 * j + 6) ((u 1 (233 + 12 * j + 6)) + ((v_X6_owedOn u j) - (v_X6_discountOf u j)))) 1 (233 + 12 * j + 7) ((u 1 (233 + 12 * j + 7)) + (v_X6_discountOf u j))) 1 (233 + 12 * j + 11) (u 1 0)) H := hP
      refine lv_aload_n hx hb dX6_takesOf_94 rfl (lv_at hl 3 rfl) ?_
      refine g_get S hK hP (i := 0) (by omega) mC0 rfl inlX6 0 (by decide) k_67 (v := .ref (a 1)) rfl dX6_takesOf_95 ?_
      refine lv_bipush (v := 25) hx hb dX6_takesOf_98 (by decide) ?_
      refine lv_aload_n hx hb dX6_takesOf_100 rfl (lv_at hl 3 rfl) ?_
      refine g_get S hK hP (i := 0) (by omega) mC0 rfl inlX6 0 (by decide) k_67 (v := .ref (a 1)) rfl dX6_takesOf_101 ?_
      refine lv_iconst (v := 0) hx hb dX6_takesOf_104 (by decide) ?_
      refine g_aldN S hK hP (i := 1) (by omega) mC1 (k := 0) (by omega) (by decide) (v := u 1 0) ((up_nk (by omega)).trans ((up_nk (by omega)).trans ((up_nk (by omega)).trans rfl))) dX6_takesOf_105 ?_
      refine r_top (v := nI (sN (u 1) 0)) (SI_day hm) ?_
      refine lv_bipush (v := 100) hx hb dX6_takesOf_106 (by decide) ?_
      refine lv_idiv hx hb dX6_takesOf_108 (by decide) ?_
      refine r_top (v := nI (sN (u 1) 0 / 100)) (pk_div (by omega) (by decide) (by decide)) ?_
      refine lv_iadd hx hb dX6_takesOf_109 ?_
      refine r_top (v := nI (25 + sN (u 1) 0 / 100)) (nI_add 25 (sN (u 1) 0 / 100)) ?_
      refine lv_dup2_11 hx hb dX6_takesOf_110 rfl rfl ?_
      refine g_aldN S hK hP (i := 1) (by omega) mC1 (k := 25 + sN (u 1) 0 / 100) (by omega) (by decide) (v := u 1 (25 + sN (u 1) 0 / 100)) ((up_nk (by omega)).trans ((up_nk (by omega)).trans ((up_nk (by omega)).trans rfl))) dX6_takesOf_111 ?_
      refine lv_iload hx hb dX6_takesOf_112 (lv_at hl 0 rfl) ?_
      refine lv_aload_n hx hb dX6_takesOf_114 rfl (lv_at hl 3 rfl) ?_
      refine g_get S hK hP (i := 0) (by omega) mC0 rfl inlX6 0 (by decide) k_67 (v := .ref (a 1)) rfl dX6_takesOf_115 ?_
      refine lv_iload_n hx hb dX6_takesOf_118 rfl (lv_at hl 4 rfl) ?_
      refine lv_iconst (v := 2) hx hb dX6_takesOf_119 (by decide) ?_
      refine r_callS S hK hP (c_X6_of l G (mP G a (up (up (up u 1 (233 + 12 * j + 6) ((u 1 (233 + 12 * j + 6)) + ((v_X6_owedOn u j) - (v_X6_discountOf u j)))) 1 (233 + 12 * j + 7) ((u 1 (233 + 12 * j + 7)) + (v_X6_discountOf u j))) 1 (233 + 12 * j + 11) (u 1 0))) (gA 8 a) j 2 trivial trivial ) (r_cs S k_221 k_219 k_220 k_5 q_X6_of ⟨Nat.le_of_ble_eq_true rfl, Nat.le_of_ble_eq_true rfl⟩ rfl rfl) rfl hl.1 rfl (Nat.le_of_ble_eq_true rfl) dX6_takesOf_120 ⟨Nat.zero_le _, Nat.zero_le _⟩ hS (fun _ h => h) (fun H locs hP _ _ hS => ?_)
      have hP : mP G a (up (up (up u 1 (233 + 12 * j + 6) ((u 1 (233 + 12 * j + 6)) + ((v_X6_owedOn u j) - (v_X6_discountOf u j)))) 1 (233 + 12 * j + 7) ((u 1 (233 + 12 * j + 7)) + (v_X6_discountOf u j))) 1 (233 + 12 * j + 11) (u 1 0)) H := hP
      refine r_top (v := nI (233 + 12 * j + 2)) rfl ?_
      refine g_aldN S hK hP (i := 1) (by omega) mC1 (k := 233 + 12 * j + 2) (by omega) (by decide) (v := u 1 (233 + 12 * j + 2)) ((up_nk (by omega)).trans ((up_nk (by omega)).trans ((up_nk (by omega)).trans rfl))) dX6_takesOf_123 ?_
      refine lv_imul hx hb dX6_takesOf_124 ?_
      refine lv_bipush (v := 100) hx hb dX6_takesOf_125 (by decide) ?_
      refine lv_aload_n hx hb dX6_takesOf_127 rfl (lv_at hl 3 rfl) ?_
      refine g_get S hK hP (i := 0) (by omega) mC0 rfl inlX6 0 (by decide) k_67 (v := .ref (a 1)) rfl dX6_takesOf_128 ?_
      refine lv_iload_n hx hb dX6_takesOf_131 rfl (lv_at hl 4 rfl) ?_
      refine lv_iconst (v := 2) hx hb dX6_takesOf_132 (by decide) ?_
      refine r_callS S hK hP (c_X6_of l G (mP G a (up (up (up u 1 (233 + 12 * j + 6) ((u 1 (233 + 12 * j + 6)) + ((v_X6_owedOn u j) - (v_X6_discountOf u j)))) 1 (233 + 12 * j + 7) ((u 1 (233 + 12 * j + 7)) + (v_X6_discountOf u j))) 1 (233 + 12 * j + 11) (u 1 0))) (gA 8 a) j 2 trivial trivial ) (r_cs S k_221 k_219 k_220 k_5 q_X6_of ⟨Nat.le_of_ble_eq_true rfl, Nat.le_of_ble_eq_true rfl⟩ rfl rfl) rfl hl.1 rfl (Nat.le_of_ble_eq_true rfl) dX6_takesOf_133 ⟨Nat.zero_le _, Nat.zero_le _⟩ hS (fun _ h => h) (fun H locs hP _ _ hS => ?_)
      have hP : mP G a (up (up (up u 1 (233 + 12 * j + 6) ((u 1 (233 + 12 * j + 6)) + ((v_X6_owedOn u j) - (v_X6_discountOf u j)))) 1 (233 + 12 * j + 7) ((u 1 (233 + 12 * j + 7)) + (v_X6_discountOf u j))) 1 (233 + 12 * j + 11) (u 1 0)) H := hP
      refine r_top (v := nI (233 + 12 * j + 2)) rfl ?_
      refine g_aldN S hK hP (i := 1) (by omega) mC1 (k := 233 + 12 * j + 2) (by omega) (by decide) (v := u 1 (233 + 12 * j + 2)) ((up_nk (by omega)).trans ((up_nk (by omega)).trans ((up_nk (by omega)).trans rfl))) dX6_takesOf_136 ?_
      refine lv_iadd hx hb dX6_takesOf_137 ?_
      refine lv_idiv hx hb dX6_takesOf_138 (SI_rt hm hj) ?_
      refine lv_iadd hx hb dX6_takesOf_139 ?_
      refine g_astN S hK hP hI hS (i := 1) (by omega) mC1 (k := 25 + sN (u 1) 0 / 100) (by omega) (by decide) dX6_takesOf_140 (fun H locs hP hS => ?_)
      have hP : mP G a (up (up (up (up u 1 (233 + 12 * j + 6) ((u 1 (233 + 12 * j + 6)) + ((v_X6_owedOn u j) - (v_X6_discountOf u j)))) 1 (233 + 12 * j + 7) ((u 1 (233 + 12 * j + 7)) + (v_X6_discountOf u j))) 1 (233 + 12 * j + 11) (u 1 0)) 1 (25 + sN (u 1) 0 / 100) ((u 1 (25 + sN (u 1) 0 / 100)) + ((((v_X6_owedOn u j) - (v_X6_discountOf u j)) * (u 1 (233 + 12 * j + 2))) / ((100 : Int32) + (u 1 (233 + 12 * j + 2)))))) H := hP
      refine lv_aload_n hx hb dX6_takesOf_141 rfl (lv_at hl 3 rfl) ?_
      refine g_get S hK hP (i := 0) (by omega) mC0 rfl inlX6 0 (by decide) k_67 (v := .ref (a 1)) rfl dX6_takesOf_142 ?_
      refine lv_iload_n hx hb dX6_takesOf_145 rfl (lv_at hl 4 rfl) ?_
      refine lv_iconst (v := 5) hx hb dX6_takesOf_146 (by decide) ?_
      refine r_callS S hK hP (c_X6_of l G (mP G a (up (up (up (up u 1 (233 + 12 * j + 6) ((u 1 (233 + 12 * j + 6)) + ((v_X6_owedOn u j) - (v_X6_discountOf u j)))) 1 (233 + 12 * j + 7) ((u 1 (233 + 12 * j + 7)) + (v_X6_discountOf u j))) 1 (233 + 12 * j + 11) (u 1 0)) 1 (25 + sN (u 1) 0 / 100) ((u 1 (25 + sN (u 1) 0 / 100)) + ((((v_X6_owedOn u j) - (v_X6_discountOf u j)) * (u 1 (233 + 12 * j + 2))) / ((100 : Int32) + (u 1 (233 + 12 * j + 2))))))) (gA 8 a) j 5 trivial trivial ) (r_cs S k_221 k_219 k_220 k_5 q_X6_of ⟨Nat.le_of_ble_eq_true rfl, Nat.le_of_ble_eq_true rfl⟩ rfl rfl) rfl hl.1 rfl (Nat.le_of_ble_eq_true rfl) dX6_takesOf_147 ⟨Nat.zero_le _, Nat.zero_le _⟩ hS (fun _ h => h) (fun H locs hP _ _ hS => ?_)
      have hP : mP G a (up (up (up (up u 1 (233 + 12 * j + 6) ((u 1 (233 + 12 * j + 6)) + ((v_X6_owedOn u j) - (v_X6_discountOf u j)))) 1 (233 + 12 * j + 7) ((u 1 (233 + 12 * j + 7)) + (v_X6_discountOf u j))) 1 (233 + 12 * j + 11) (u 1 0)) 1 (25 + sN (u 1) 0 / 100) ((u 1 (25 + sN (u 1) 0 / 100)) + ((((v_X6_owedOn u j) - (v_X6_discountOf u j)) * (u 1 (233 + 12 * j + 2))) / ((100 : Int32) + (u 1 (233 + 12 * j + 2)))))) H := hP
      refine r_top (v := nI (233 + 12 * j + 5)) rfl ?_
      refine lv_aload_n hx hb dX6_takesOf_150 rfl (lv_at hl 3 rfl) ?_
      refine lv_iload_n hx hb dX6_takesOf_151 rfl (lv_at hl 4 rfl) ?_
      refine r_callI S hK hP (c_X6_owedOn l G a hI (up (up (up (up u 1 (233 + 12 * j + 6) ((u 1 (233 + 12 * j + 6)) + ((v_X6_owedOn u j) - (v_X6_discountOf u j)))) 1 (233 + 12 * j + 7) ((u 1 (233 + 12 * j + 7)) + (v_X6_discountOf u j))) 1 (233 + 12 * j + 11) (u 1 0)) 1 (25 + sN (u 1) 0 / 100) ((u 1 (25 + sN (u 1) 0 / 100)) + ((((v_X6_owedOn u j) - (v_X6_discountOf u j)) * (u 1 (233 + 12 * j + 2))) / ((100 : Int32) + (u 1 (233 + 12 * j + 2)))))) j (by omega) ) (r_cw S k_245 k_242 k_243 k_244 k_5 q_X6_owedOn ⟨Nat.le_of_ble_eq_true rfl, Nat.le_of_ble_eq_true rfl⟩ rfl rfl) (g_recv hK hP (i := 0) (by omega) mC0 rfl) rfl hl.1 rfl (Nat.le_of_ble_eq_true rfl) dX6_takesOf_152 ⟨Nat.zero_le _, Nat.zero_le _⟩ hS (fun _ h => h) (fun H locs hP _ _ hS => ?_)
      have hP : mP G a (up (up (up (up u 1 (233 + 12 * j + 6) ((u 1 (233 + 12 * j + 6)) + ((v_X6_owedOn u j) - (v_X6_discountOf u j)))) 1 (233 + 12 * j + 7) ((u 1 (233 + 12 * j + 7)) + (v_X6_discountOf u j))) 1 (233 + 12 * j + 11) (u 1 0)) 1 (25 + sN (u 1) 0 / 100) ((u 1 (25 + sN (u 1) 0 / 100)) + ((((v_X6_owedOn u j) - (v_X6_discountOf u j)) * (u 1 (233 + 12 * j + 2))) / ((100 : Int32) + (u 1 (233 + 12 * j + 2)))))) H := hP
      refine lv_if_ne (tgt := 162) hx hb dX6_takesOf_155 (by decide) (fun c6 => ?_) (fun c6 => ?_)
      · skip
        refine lv_aload_n hx hb dX6_takesOf_162 rfl (lv_at hl 3 rfl) ?_
        refine g_get S hK hP (i := 0) (by omega) mC0 rfl inlX6 0 (by decide) k_67 (v := .ref (a 1)) rfl dX6_takesOf_163 ?_
        refine lv_iload_n hx hb dX6_takesOf_166 rfl (lv_at hl 4 rfl) ?_
        refine lv_iconst (v := 5) hx hb dX6_takesOf_167 (by decide) ?_
        refine r_callS S hK hP (c_X6_of l G (mP G a (up (up (up (up u 1 (233 + 12 * j + 6) ((u 1 (233 + 12 * j + 6)) + ((v_X6_owedOn u j) - (v_X6_discountOf u j)))) 1 (233 + 12 * j + 7) ((u 1 (233 + 12 * j + 7)) + (v_X6_discountOf u j))) 1 (233 + 12 * j + 11) (u 1 0)) 1 (25 + sN (u 1) 0 / 100) ((u 1 (25 + sN (u 1) 0 / 100)) + ((((v_X6_owedOn u j) - (v_X6_discountOf u j)) * (u 1 (233 + 12 * j + 2))) / ((100 : Int32) + (u 1 (233 + 12 * j + 2))))))) (gA 8 a) j 5 trivial trivial ) (r_cs S k_221 k_219 k_220 k_5 q_X6_of ⟨Nat.le_of_ble_eq_true rfl, Nat.le_of_ble_eq_true rfl⟩ rfl rfl) rfl hl.1 rfl (Nat.le_of_ble_eq_true rfl) dX6_takesOf_168 ⟨Nat.zero_le _, Nat.zero_le _⟩ hS (fun _ h => h) (fun H locs hP _ _ hS => ?_)
        have hP : mP G a (up (up (up (up u 1 (233 + 12 * j + 6) ((u 1 (233 + 12 * j + 6)) + ((v_X6_owedOn u j) - (v_X6_discountOf u j)))) 1 (233 + 12 * j + 7) ((u 1 (233 + 12 * j + 7)) + (v_X6_discountOf u j))) 1 (233 + 12 * j + 11) (u 1 0)) 1 (25 + sN (u 1) 0 / 100) ((u 1 (25 + sN (u 1) 0 / 100)) + ((((v_X6_owedOn u j) - (v_X6_discountOf u j)) * (u 1 (233 + 12 * j + 2))) / ((100 : Int32) + (u 1 (233 + 12 * j + 2)))))) H := hP
        refine r_top (v := nI (233 + 12 * j + 5)) rfl ?_
        refine g_aldN S hK hP (i := 1) (by omega) mC1 (k := 233 + 12 * j + 5) (by omega) (by decide) (v := u 1 (233 + 12 * j + 5)) ((up_nk (by omega)).trans ((up_nk (by omega)).trans ((up_nk (by omega)).trans ((up_nk (by omega)).trans rfl)))) dX6_takesOf_171 ?_
        refine g_astN S hK hP hI hS (i := 1) (by omega) mC1 (k := 233 + 12 * j + 5) (by omega) (by decide) dX6_takesOf_172 (fun H locs hP hS => ?_)
        have hP : mP G a (up (up (up (up (up u 1 (233 + 12 * j + 6) ((u 1 (233 + 12 * j + 6)) + ((v_X6_owedOn u j) - (v_X6_discountOf u j)))) 1 (233 + 12 * j + 7) ((u 1 (233 + 12 * j + 7)) + (v_X6_discountOf u j))) 1 (233 + 12 * j + 11) (u 1 0)) 1 (25 + sN (u 1) 0 / 100) ((u 1 (25 + sN (u 1) 0 / 100)) + ((((v_X6_owedOn u j) - (v_X6_discountOf u j)) * (u 1 (233 + 12 * j + 2))) / ((100 : Int32) + (u 1 (233 + 12 * j + 2)))))) 1 (233 + 12 * j + 5) (u 1 (233 + 12 * j + 5))) H := hP
        refine lv_iload hx hb dX6_takesOf_173 (lv_at hl 0 rfl) ?_
        exact e_int S hr hlk rfl hK hS (gP_eq (show w_X6_takesOf u j p2 = up (up (up (up (up u 1 (233 + 12 * j + 6) ((u 1 (233 + 12 * j + 6)) + ((v_X6_owedOn u j) - (v_X6_discountOf u j)))) 1 (233 + 12 * j + 7) ((u 1 (233 + 12 * j + 7)) + (v_X6_discountOf u j))) 1 (233 + 12 * j + 11) (u 1 0)) 1 (25 + sN (u 1) 0 / 100) ((u 1 (25 + sN (u 1) 0 / 100)) + ((((v_X6_owedOn u j) - (v_X6_discountOf u j)) * (u 1 (233 + 12 * j + 2))) / ((100 : Int32) + (u 1 (233 + 12 * j + 2)))))) 1 (233 + 12 * j + 5) (u 1 (233 + 12 * j + 5)) from (if_neg c1).trans ((if_pos c5).trans ((if_neg c6).trans rfl))) hP) (show v_X6_takesOf u j p2 = (v_X6_owedOn u j) - (v_X6_discountOf u j) from (if_neg c1).trans ((if_pos c5).trans ((if_neg c6).trans rfl))).symm dX6_takesOf_175
      · skip
        refine lv_iconst (v := 1) hx hb dX6_takesOf_158 (by decide) ?_
        refine lv_goto (tgt := 172) hx hb dX6_takesOf_159 (by decide) ?_
        refine g_astN S hK hP hI hS (i := 1) (by omega) mC1 (k := 233 + 12 * j + 5) (by omega) (by decide) dX6_takesOf_172 (fun H locs hP hS => ?_)
        have hP : mP G a (up (up (up (up (up u 1 (233 + 12 * j + 6) ((u 1 (233 + 12 * j + 6)) + ((v_X6_owedOn u j) - (v_X6_discountOf u j)))) 1 (233 + 12 * j + 7) ((u 1 (233 + 12 * j + 7)) + (v_X6_discountOf u j))) 1 (233 + 12 * j + 11) (u 1 0)) 1 (25 + sN (u 1) 0 / 100) ((u 1 (25 + sN (u 1) 0 / 100)) + ((((v_X6_owedOn u j) - (v_X6_discountOf u j)) * (u 1 (233 + 12 * j + 2))) / ((100 : Int32) + (u 1 (233 + 12 * j + 2)))))) 1 (233 + 12 * j + 5) (1 : Int32)) H := hP
        refine lv_iload hx hb dX6_takesOf_173 (lv_at hl 0 rfl) ?_
        exact e_int S hr hlk rfl hK hS (gP_eq (show w_X6_takesOf u j p2 = up (up (up (up (up u 1 (233 + 12 * j + 6) ((u 1 (233 + 12 * j + 6)) + ((v_X6_owedOn u j) - (v_X6_discountOf u j)))) 1 (233 + 12 * j + 7) ((u 1 (233 + 12 * j + 7)) + (v_X6_discountOf u j))) 1 (233 + 12 * j + 11) (u 1 0)) 1 (25 + sN (u 1) 0 / 100) ((u 1 (25 + sN (u 1) 0 / 100)) + ((((v_X6_owedOn u j) - (v_X6_discountOf u j)) * (u 1 (233 + 12 * j + 2))) / ((100 : Int32) + (u 1 (233 + 12 * j + 2)))))) 1 (233 + 12 * j + 5) (1 : Int32) from (if_neg c1).trans ((if_pos c5).trans ((if_pos c6).trans rfl))) hP) (show v_X6_takesOf u j p2 = (v_X6_owedOn u j) - (v_X6_discountOf u j) from (if_neg c1).trans ((if_pos c5).trans ((if_pos c6).trans rfl))).symm dX6_takesOf_175
    · skip
      refine lv_iload_n hx hb dX6_takesOf_38 rfl (lv_at hl 4 rfl) ?_
      refine lv_goto (tgt := 44) hx hb dX6_takesOf_39 (by decide) ?_
      refine lv_istore (lv' := [(5, .int p2), (4, .int ((v_X6_owedOn u j) - (v_X6_discountOf u j))), (3, .int (v_X6_discountOf u j)), (0, .ref (a 0)), (1, .int (nI j)), (2, .int p2)]) hx hb dX6_takesOf_44 hl (by decide) rfl (fun ls hl => ?_)
      refine lv_aload_n hx hb dX6_takesOf_46 rfl (lv_at hl 3 rfl) ?_
      refine g_get S hK hP (i := 0) (by omega) mC0 rfl inlX6 0 (by decide) k_67 (v := .ref (a 1)) rfl dX6_takesOf_47 ?_
      refine lv_iload_n hx hb dX6_takesOf_50 rfl (lv_at hl 4 rfl) ?_
      refine lv_bipush (v := 6) hx hb dX6_takesOf_51 (by decide) ?_
      refine r_callS S hK hP (c_X6_of l G (mP G a u) (gA 8 a) j 6 trivial trivial ) (r_cs S k_221 k_219 k_220 k_5 q_X6_of ⟨Nat.le_of_ble_eq_true rfl, Nat.le_of_ble_eq_true rfl⟩ rfl rfl) rfl hl.1 rfl (Nat.le_of_ble_eq_true rfl) dX6_takesOf_53 ⟨Nat.zero_le _, Nat.zero_le _⟩ hS (fun _ h => h) (fun H locs hP _ _ hS => ?_)
      have hP : mP G a u H := hP
      refine r_top (v := nI (233 + 12 * j + 6)) rfl ?_
      refine lv_dup2_11 hx hb dX6_takesOf_56 rfl rfl ?_
      refine g_aldN S hK hP (i := 1) (by omega) mC1 (k := 233 + 12 * j + 6) (by omega) (by decide) (v := u 1 (233 + 12 * j + 6)) (rfl) dX6_takesOf_57 ?_
      refine lv_iload hx hb dX6_takesOf_58 (lv_at hl 0 rfl) ?_
      refine lv_iadd hx hb dX6_takesOf_60 ?_
      refine g_astN S hK hP hI hS (i := 1) (by omega) mC1 (k := 233 + 12 * j + 6) (by omega) (by decide) dX6_takesOf_61 (fun H locs hP hS => ?_)
      have hP : mP G a (up u 1 (233 + 12 * j + 6) ((u 1 (233 + 12 * j + 6)) + p2)) H := hP
      refine lv_aload_n hx hb dX6_takesOf_62 rfl (lv_at hl 3 rfl) ?_
      refine g_get S hK hP (i := 0) (by omega) mC0 rfl inlX6 0 (by decide) k_67 (v := .ref (a 1)) rfl dX6_takesOf_63 ?_
      refine lv_iload_n hx hb dX6_takesOf_66 rfl (lv_at hl 4 rfl) ?_
      refine lv_bipush (v := 7) hx hb dX6_takesOf_67 (by decide) ?_
      refine r_callS S hK hP (c_X6_of l G (mP G a (up u 1 (233 + 12 * j + 6) ((u 1 (233 + 12 * j + 6)) + p2))) (gA 8 a) j 7 trivial trivial ) (r_cs S k_221 k_219 k_220 k_5 q_X6_of ⟨Nat.le_of_ble_eq_true rfl, Nat.le_of_ble_eq_true rfl⟩ rfl rfl) rfl hl.1 rfl (Nat.le_of_ble_eq_true rfl) dX6_takesOf_69 ⟨Nat.zero_le _, Nat.zero_le _⟩ hS (fun _ h => h) (fun H locs hP _ _ hS => ?_)
      have hP : mP G a (up u 1 (233 + 12 * j + 6) ((u 1 (233 + 12 * j + 6)) + p2)) H := hP
      refine r_top (v := nI (233 + 12 * j + 7)) rfl ?_
      refine lv_dup2_11 hx hb dX6_takesOf_72 rfl rfl ?_
      refine g_aldN S hK hP (i := 1) (by omega) mC1 (k := 233 + 12 * j + 7) (by omega) (by decide) (v := u 1 (233 + 12 * j + 7)) ((up_nk (by omega)).trans rfl) dX6_takesOf_73 ?_
      refine lv_iload_n hx hb dX6_takesOf_74 rfl (lv_at hl 2 rfl) ?_
      refine lv_iadd hx hb dX6_takesOf_75 ?_
      refine g_astN S hK hP hI hS (i := 1) (by omega) mC1 (k := 233 + 12 * j + 7) (by omega) (by decide) dX6_takesOf_76 (fun H locs hP hS => ?_)
      have hP : mP G a (up (up u 1 (233 + 12 * j + 6) ((u 1 (233 + 12 * j + 6)) + p2)) 1 (233 + 12 * j + 7) ((u 1 (233 + 12 * j + 7)) + (v_X6_discountOf u j))) H := hP
      refine lv_aload_n hx hb dX6_takesOf_77 rfl (lv_at hl 3 rfl) ?_
      refine g_get S hK hP (i := 0) (by omega) mC0 rfl inlX6 0 (by decide) k_67 (v := .ref (a 1)) rfl dX6_takesOf_78 ?_
      refine lv_iload_n hx hb dX6_takesOf_81 rfl (lv_at hl 4 rfl) ?_
      refine lv_bipush (v := 11) hx hb dX6_takesOf_82 (by decide) ?_
      refine r_callS S hK hP (c_X6_of l G (mP G a (up (up u 1 (233 + 12 * j + 6) ((u 1 (233 + 12 * j + 6)) + p2)) 1 (233 + 12 * j + 7) ((u 1 (233 + 12 * j + 7)) + (v_X6_discountOf u j)))) (gA 8 a) j 11 trivial trivial ) (r_cs S k_221 k_219 k_220 k_5 q_X6_of ⟨Nat.le_of_ble_eq_true rfl, Nat.le_of_ble_eq_true rfl⟩ rfl rfl) rfl hl.1 rfl (Nat.le_of_ble_eq_true rfl) dX6_takesOf_84 ⟨Nat.zero_le _, Nat.zero_le _⟩ hS (fun _ h => h) (fun H locs hP _ _ hS => ?_)
      have hP : mP G a (up (up u 1 (233 + 12 * j + 6) ((u 1 (233 + 12 * j + 6)) + p2)) 1 (233 + 12 * j + 7) ((u 1 (233 + 12 * j + 7)) + (v_X6_discountOf u j))) H := hP
      refine r_top (v := nI (233 + 12 * j + 11)) rfl ?_
      refine lv_aload_n hx hb dX6_takesOf_87 rfl (lv_at hl 3 rfl) ?_
      refine g_get S hK hP (i := 0) (by omega) mC0 rfl inlX6 0 (by decide) k_67 (v := .ref (a 1)) rfl dX6_takesOf_88 ?_
      refine lv_iconst (v := 0) hx hb dX6_takesOf_91 (by decide) ?_
      refine g_aldN S hK hP (i := 1) (by omega) mC1 (k := 0) (by omega) (by decide) (v := u 1 0) ((up_nk (by omega)).trans ((up_nk (by omega)).trans rfl)) dX6_takesOf_92 ?_
      refine g_astN S hK hP hI hS (i := 1) (by omega) mC1 (k := 233 + 12 * j + 11) (by omega) (by decide) dX6_takesOf_93 (fun H locs hP hS => ?_)
      have hP : mP G a (up (up (up u 1 (233 + 12 * j + 6) ((u 1 (233 + 12 * j + 6)) + p2)) 1 (233 + 12 * j + 7) ((u 1 (233 + 12 * j + 7)) + (v_X6_discountOf u j))) 1 (233 + 12 * j + 11) (u 1 0)) H := hP
      refine lv_aload_n hx hb dX6_takesOf_94 rfl (lv_at hl 3 rfl) ?_
      refine g_get S hK hP (i := 0) (by omega) mC0 rfl inlX6 0 (by decide) k_67 (v := .ref (a 1)) rfl dX6_takesOf_95 ?_
      refine lv_bipush (v := 25) hx hb dX6_takesOf_98 (by decide) ?_
      refine lv_aload_n hx hb dX6_takesOf_100 rfl (lv_at hl 3 rfl) ?_
      refine g_get S hK hP (i := 0) (by omega) mC0 rfl inlX6 0 (by decide) k_67 (v := .ref (a 1)) rfl dX6_takesOf_101 ?_
      refine lv_iconst (v := 0) hx hb dX6_takesOf_104 (by decide) ?_
      refine g_aldN S hK hP (i := 1) (by omega) mC1 (k := 0) (by omega) (by decide) (v := u 1 0) ((up_nk (by omega)).trans ((up_nk (by omega)).trans ((up_nk (by omega)).trans rfl))) dX6_takesOf_105 ?_
      refine r_top (v := nI (sN (u 1) 0)) (SI_day hm) ?_
      refine lv_bipush (v := 100) hx hb dX6_takesOf_106 (by decide) ?_
      refine lv_idiv hx hb dX6_takesOf_108 (by decide) ?_
      refine r_top (v := nI (sN (u 1) 0 / 100)) (pk_div (by omega) (by decide) (by decide)) ?_
      refine lv_iadd hx hb dX6_takesOf_109 ?_
      refine r_top (v := nI (25 + sN (u 1) 0 / 100)) (nI_add 25 (sN (u 1) 0 / 100)) ?_
      refine lv_dup2_11 hx hb dX6_takesOf_110 rfl rfl ?_
      refine g_aldN S hK hP (i := 1) (by omega) mC1 (k := 25 + sN (u 1) 0 / 100) (by omega) (by decide) (v := u 1 (25 + sN (u 1) 0 / 100)) ((up_nk (by omega)).trans ((up_nk (by omega)).trans ((up_nk (by omega)).trans rfl))) dX6_takesOf_111 ?_
      refine lv_iload hx hb dX6_takesOf_112 (lv_at hl 0 rfl) ?_
      refine lv_aload_n hx hb dX6_takesOf_114 rfl (lv_at hl 3 rfl) ?_
      refine g_get S hK hP (i := 0) (by omega) mC0 rfl inlX6 0 (by decide) k_67 (v := .ref (a 1)) rfl dX6_takesOf_115 ?_
      refine lv_iload_n hx hb dX6_takesOf_118 rfl (lv_at hl 4 rfl) ?_
      refine lv_iconst (v := 2) hx hb dX6_takesOf_119 (by decide) ?_
      refine r_callS S hK hP (c_X6_of l G (mP G a (up (up (up u 1 (233 + 12 * j + 6) ((u 1 (233 + 12 * j + 6)) + p2)) 1 (233 + 12 * j + 7) ((u 1 (233 + 12 * j + 7)) + (v_X6_discountOf u j))) 1 (233 + 12 * j + 11) (u 1 0))) (gA 8 a) j 2 trivial trivial ) (r_cs S k_221 k_219 k_220 k_5 q_X6_of ⟨Nat.le_of_ble_eq_true rfl, Nat.le_of_ble_eq_true rfl⟩ rfl rfl) rfl hl.1 rfl (Nat.le_of_ble_eq_true rfl) dX6_takesOf_120 ⟨Nat.zero_le _, Nat.zero_le _⟩ hS (fun _ h => h) (fun H locs hP _ _ hS => ?_)
      have hP : mP G a (up (up (up u 1 (233 + 12 * j + 6) ((u 1 (233 + 12 * j + 6)) + p2)) 1 (233 + 12 * j + 7) ((u 1 (233 + 12 * j + 7)) + (v_X6_discountOf u j))) 1 (233 + 12 * j + 11) (u 1 0)) H := hP
      refine r_top (v := nI (233 + 12 * j + 2)) rfl ?_
      refine g_aldN S hK hP (i := 1) (by omega) mC1 (k := 233 + 12 * j + 2) (by omega) (by decide) (v := u 1 (233 + 12 * j + 2)) ((up_nk (by omega)).trans ((up_nk (by omega)).trans ((up_nk (by omega)).trans rfl))) dX6_takesOf_123 ?_
      refine lv_imul hx hb dX6_takesOf_124 ?_
      refine lv_bipush (v := 100) hx hb dX6_takesOf_125 (by decide) ?_
      refine lv_aload_n hx hb dX6_takesOf_127 rfl (lv_at hl 3 rfl) ?_
      refine g_get S hK hP (i := 0) (by omega) mC0 rfl inlX6 0 (by decide) k_67 (v := .ref (a 1)) rfl dX6_takesOf_128 ?_
      refine lv_iload_n hx hb dX6_takesOf_131 rfl (lv_at hl 4 rfl) ?_
      refine lv_iconst (v := 2) hx hb dX6_takesOf_132 (by decide) ?_
      refine r_callS S hK hP (c_X6_of l G (mP G a (up (up (up u 1 (233 + 12 * j + 6) ((u 1 (233 + 12 * j + 6)) + p2)) 1 (233 + 12 * j + 7) ((u 1 (233 + 12 * j + 7)) + (v_X6_discountOf u j))) 1 (233 + 12 * j + 11) (u 1 0))) (gA 8 a) j 2 trivial trivial ) (r_cs S k_221 k_219 k_220 k_5 q_X6_of ⟨Nat.le_of_ble_eq_true rfl, Nat.le_of_ble_eq_true rfl⟩ rfl rfl) rfl hl.1 rfl (Nat.le_of_ble_eq_true rfl) dX6_takesOf_133 ⟨Nat.zero_le _, Nat.zero_le _⟩ hS (fun _ h => h) (fun H locs hP _ _ hS => ?_)
      have hP : mP G a (up (up (up u 1 (233 + 12 * j + 6) ((u 1 (233 + 12 * j + 6)) + p2)) 1 (233 + 12 * j + 7) ((u 1 (233 + 12 * j + 7)) + (v_X6_discountOf u j))) 1 (233 + 12 * j + 11) (u 1 0)) H := hP
      refine r_top (v := nI (233 + 12 * j + 2)) rfl ?_
      refine g_aldN S hK hP (i := 1) (by omega) mC1 (k := 233 + 12 * j + 2) (by omega) (by decide) (v := u 1 (233 + 12 * j + 2)) ((up_nk (by omega)).trans ((up_nk (by omega)).trans ((up_nk (by omega)).trans rfl))) dX6_takesOf_136 ?_
      refine lv_iadd hx hb dX6_takesOf_137 ?_
      refine lv_idiv hx hb dX6_takesOf_138 (SI_rt hm hj) ?_
      refine lv_iadd hx hb dX6_takesOf_139 ?_
      refine g_astN S hK hP hI hS (i := 1) (by omega) mC1 (k := 25 + sN (u 1) 0 / 100) (by omega) (by decide) dX6_takesOf_140 (fun H locs hP hS => ?_)
      have hP : mP G a (up (up (up (up u 1 (233 + 12 * j + 6) ((u 1 (233 + 12 * j + 6)) + p2)) 1 (233 + 12 * j + 7) ((u 1 (233 + 12 * j + 7)) + (v_X6_discountOf u j))) 1 (233 + 12 * j + 11) (u 1 0)) 1 (25 + sN (u 1) 0 / 100) ((u 1 (25 + sN (u 1) 0 / 100)) + ((p2 * (u 1 (233 + 12 * j + 2))) / ((100 : Int32) + (u 1 (233 + 12 * j + 2)))))) H := hP
      refine lv_aload_n hx hb dX6_takesOf_141 rfl (lv_at hl 3 rfl) ?_
      refine g_get S hK hP (i := 0) (by omega) mC0 rfl inlX6 0 (by decide) k_67 (v := .ref (a 1)) rfl dX6_takesOf_142 ?_
      refine lv_iload_n hx hb dX6_takesOf_145 rfl (lv_at hl 4 rfl) ?_
      refine lv_iconst (v := 5) hx hb dX6_takesOf_146 (by decide) ?_
      refine r_callS S hK hP (c_X6_of l G (mP G a (up (up (up (up u 1 (233 + 12 * j + 6) ((u 1 (233 + 12 * j + 6)) + p2)) 1 (233 + 12 * j + 7) ((u 1 (233 + 12 * j + 7)) + (v_X6_discountOf u j))) 1 (233 + 12 * j + 11) (u 1 0)) 1 (25 + sN (u 1) 0 / 100) ((u 1 (25 + sN (u 1) 0 / 100)) + ((p2 * (u 1 (233 + 12 * j + 2))) / ((100 : Int32) + (u 1 (233 + 12 * j + 2))))))) (gA 8 a) j 5 trivial trivial ) (r_cs S k_221 k_219 k_220 k_5 q_X6_of ⟨Nat.le_of_ble_eq_true rfl, Nat.le_of_ble_eq_true rfl⟩ rfl rfl) rfl hl.1 rfl (Nat.le_of_ble_eq_true rfl) dX6_takesOf_147 ⟨Nat.zero_le _, Nat.zero_le _⟩ hS (fun _ h => h) (fun H locs hP _ _ hS => ?_)
      have hP : mP G a (up (up (up (up u 1 (233 + 12 * j + 6) ((u 1 (233 + 12 * j + 6)) + p2)) 1 (233 + 12 * j + 7) ((u 1 (233 + 12 * j + 7)) + (v_X6_discountOf u j))) 1 (233 + 12 * j + 11) (u 1 0)) 1 (25 + sN (u 1) 0 / 100) ((u 1 (25 + sN (u 1) 0 / 100)) + ((p2 * (u 1 (233 + 12 * j + 2))) / ((100 : Int32) + (u 1 (233 + 12 * j + 2)))))) H := hP
      refine r_top (v := nI (233 + 12 * j + 5)) rfl ?_
      refine lv_aload_n hx hb dX6_takesOf_150 rfl (lv_at hl 3 rfl) ?_
      refine lv_iload_n hx hb dX6_takesOf_151 rfl (lv_at hl 4 rfl) ?_
      refine r_callI S hK hP (c_X6_owedOn l G a hI (up (up (up (up u 1 (233 + 12 * j + 6) ((u 1 (233 + 12 * j + 6)) + p2)) 1 (233 + 12 * j + 7) ((u 1 (233 + 12 * j + 7)) + (v_X6_discountOf u j))) 1 (233 + 12 * j + 11) (u 1 0)) 1 (25 + sN (u 1) 0 / 100) ((u 1 (25 + sN (u 1) 0 / 100)) + ((p2 * (u 1 (233 + 12 * j + 2))) / ((100 : Int32) + (u 1 (233 + 12 * j + 2)))))) j (by omega) ) (r_cw S k_245 k_242 k_243 k_244 k_5 q_X6_owedOn ⟨Nat.le_of_ble_eq_true rfl, Nat.le_of_ble_eq_true rfl⟩ rfl rfl) (g_recv hK hP (i := 0) (by omega) mC0 rfl) rfl hl.1 rfl (Nat.le_of_ble_eq_true rfl) dX6_takesOf_152 ⟨Nat.zero_le _, Nat.zero_le _⟩ hS (fun _ h => h) (fun H locs hP _ _ hS => ?_)
      have hP : mP G a (up (up (up (up u 1 (233 + 12 * j + 6) ((u 1 (233 + 12 * j + 6)) + p2)) 1 (233 + 12 * j + 7) ((u 1 (233 + 12 * j + 7)) + (v_X6_discountOf u j))) 1 (233 + 12 * j + 11) (u 1 0)) 1 (25 + sN (u 1) 0 / 100) ((u 1 (25 + sN (u 1) 0 / 100)) + ((p2 * (u 1 (233 + 12 * j + 2))) / ((100 : Int32) + (u 1 (233 + 12 * j + 2)))))) H := hP
      refine lv_if_ne (tgt := 162) hx hb dX6_takesOf_155 (by decide) (fun c7 => ?_) (fun c7 => ?_)
      · skip
        refine lv_aload_n hx hb dX6_takesOf_162 rfl (lv_at hl 3 rfl) ?_
        refine g_get S hK hP (i := 0) (by omega) mC0 rfl inlX6 0 (by decide) k_67 (v := .ref (a 1)) rfl dX6_takesOf_163 ?_
        refine lv_iload_n hx hb dX6_takesOf_166 rfl (lv_at hl 4 rfl) ?_
        refine lv_iconst (v := 5) hx hb dX6_takesOf_167 (by decide) ?_
        refine r_callS S hK hP (c_X6_of l G (mP G a (up (up (up (up u 1 (233 + 12 * j + 6) ((u 1 (233 + 12 * j + 6)) + p2)) 1 (233 + 12 * j + 7) ((u 1 (233 + 12 * j + 7)) + (v_X6_discountOf u j))) 1 (233 + 12 * j + 11) (u 1 0)) 1 (25 + sN (u 1) 0 / 100) ((u 1 (25 + sN (u 1) 0 / 100)) + ((p2 * (u 1 (233 + 12 * j + 2))) / ((100 : Int32) + (u 1 (233 + 12 * j + 2))))))) (gA 8 a) j 5 trivial trivial ) (r_cs S k_221 k_219 k_220 k_5 q_X6_of ⟨Nat.le_of_ble_eq_true rfl, Nat.le_of_ble_eq_true rfl⟩ rfl rfl) rfl hl.1 rfl (Nat.le_of_ble_eq_true rfl) dX6_takesOf_168 ⟨Nat.zero_le _, Nat.zero_le _⟩ hS (fun _ h => h) (fun H locs hP _ _ hS => ?_)
        have hP : mP G a (up (up (up (up u 1 (233 + 12 * j + 6) ((u 1 (233 + 12 * j + 6)) + p2)) 1 (233 + 12 * j + 7) ((u 1 (233 + 12 * j + 7)) + (v_X6_discountOf u j))) 1 (233 + 12 * j + 11) (u 1 0)) 1 (25 + sN (u 1) 0 / 100) ((u 1 (25 + sN (u 1) 0 / 100)) + ((p2 * (u 1 (233 + 12 * j + 2))) / ((100 : Int32) + (u 1 (233 + 12 * j + 2)))))) H := hP
        refine r_top (v := nI (233 + 12 * j + 5)) rfl ?_
        refine g_aldN S hK hP (i := 1) (by omega) mC1 (k := 233 + 12 * j + 5) (by omega) (by decide) (v := u 1 (233 + 12 * j + 5)) ((up_nk (by omega)).trans ((up_nk (by omega)).trans ((up_nk (by omega)).trans ((up_nk (by omega)).trans rfl)))) dX6_takesOf_171 ?_
        refine g_astN S hK hP hI hS (i := 1) (by omega) mC1 (k := 233 + 12 * j + 5) (by omega) (by decide) dX6_takesOf_172 (fun H locs hP hS => ?_)
        have hP : mP G a (up (up (up (up (up u 1 (233 + 12 * j + 6) ((u 1 (233 + 12 * j + 6)) + p2)) 1 (233 + 12 * j + 7) ((u 1 (233 + 12 * j + 7)) + (v_X6_discountOf u j))) 1 (233 + 12 * j + 11) (u 1 0)) 1 (25 + sN (u 1) 0 / 100) ((u 1 (25 + sN (u 1) 0 / 100)) + ((p2 * (u 1 (233 + 12 * j + 2))) / ((100 : Int32) + (u 1 (233 + 12 * j + 2)))))) 1 (233 + 12 * j + 5) (u 1 (233 + 12 * j + 5))) H := hP
        refine lv_iload hx hb dX6_takesOf_173 (lv_at hl 0 rfl) ?_
        exact e_int S hr hlk rfl hK hS (gP_eq (show w_X6_takesOf u j p2 = up (up (up (up (up u 1 (233 + 12 * j + 6) ((u 1 (233 + 12 * j + 6)) + p2)) 1 (233 + 12 * j + 7) ((u 1 (233 + 12 * j + 7)) + (v_X6_discountOf u j))) 1 (233 + 12 * j + 11) (u 1 0)) 1 (25 + sN (u 1) 0 / 100) ((u 1 (25 + sN (u 1) 0 / 100)) + ((p2 * (u 1 (233 + 12 * j + 2))) / ((100 : Int32) + (u 1 (233 + 12 * j + 2)))))) 1 (233 + 12 * j + 5) (u 1 (233 + 12 * j + 5)) from (if_neg c1).trans ((if_neg c5).trans ((if_neg c7).trans rfl))) hP) (show v_X6_takesOf u j p2 = p2 from (if_neg c1).trans ((if_neg c5).trans ((if_neg c7).trans rfl))).symm dX6_takesOf_175
      · skip
        refine lv_iconst (v := 1) hx hb dX6_takesOf_158 (by decide) ?_
        refine lv_goto (tgt := 172) hx hb dX6_takesOf_159 (by decide) ?_
        refine g_astN S hK hP hI hS (i := 1) (by omega) mC1 (k := 233 + 12 * j + 5) (by omega) (by decide) dX6_takesOf_172 (fun H locs hP hS => ?_)
        have hP : mP G a (up (up (up (up (up u 1 (233 + 12 * j + 6) ((u 1 (233 + 12 * j + 6)) + p2)) 1 (233 + 12 * j + 7) ((u 1 (233 + 12 * j + 7)) + (v_X6_discountOf u j))) 1 (233 + 12 * j + 11) (u 1 0)) 1 (25 + sN (u 1) 0 / 100) ((u 1 (25 + sN (u 1) 0 / 100)) + ((p2 * (u 1 (233 + 12 * j + 2))) / ((100 : Int32) + (u 1 (233 + 12 * j + 2)))))) 1 (233 + 12 * j + 5) (1 : Int32)) H := hP
        refine lv_iload hx hb dX6_takesOf_173 (lv_at hl 0 rfl) ?_
        exact e_int S hr hlk rfl hK hS (gP_eq (show w_X6_takesOf u j p2 = up (up (up (up (up u 1 (233 + 12 * j + 6) ((u 1 (233 + 12 * j + 6)) + p2)) 1 (233 + 12 * j + 7) ((u 1 (233 + 12 * j + 7)) + (v_X6_discountOf u j))) 1 (233 + 12 * j + 11) (u 1 0)) 1 (25 + sN (u 1) 0 / 100) ((u 1 (25 + sN (u 1) 0 / 100)) + ((p2 * (u 1 (233 + 12 * j + 2))) / ((100 : Int32) + (u 1 (233 + 12 * j + 2)))))) 1 (233 + 12 * j + 5) (1 : Int32) from (if_neg c1).trans ((if_neg c5).trans ((if_pos c7).trans rfl))) hP) (show v_X6_takesOf u j p2 = p2 from (if_neg c1).trans ((if_neg c5).trans ((if_pos c7).trans rfl))).symm dX6_takesOf_175

theorem takesOf_o {u : Nat → Nat → Int32} {j i : Nat} {p : Int32} (h : i ≠ 1) : w_X6_takesOf u j p i = u i := by
  unfold w_X6_takesOf
  (repeat' split) <;> simp only [up_oi h]
theorem takesOf_1 {u : Nat → Nat → Int32} {j k : Nat} {p : Int32} (hm : SI (u 1)) (hj : j < 40) (h1 : k ≠ 233 + 12 * j + 6) (h2 : k ≠ 233 + 12 * j + 7) (h3 : k ≠ 233 + 12 * j + 11) (h4 : k ≠ 25 + sN (u 1) 0 / 100) (h5 : k ≠ 233 + 12 * j + 5) : w_X6_takesOf u j p 1 k = u 1 k := by
  unfold w_X6_takesOf
  (repeat' split) <;> simp only [up_nk h1, up_nk h2, up_nk h3, up_nk h4, up_nk h5]
theorem takesOf_SI {u : Nat → Nat → Int32} {j : Nat} {p : Int32} (hm : SI (u 1)) (hj : j < 40) : SI (w_X6_takesOf u j p 1) := by
  have hd := SI_day2 hm
  exact SI_same hm (takesOf_1 hm hj (by omega) (by omega) (by omega) (by omega) (by omega)) (takesOf_1 hm hj (by omega) (by omega) (by omega) (by omega) (by omega)) (fun b hb => takesOf_1 hm hj (by omega) (by omega) (by omega) (by omega) (by omega)) (fun b hb => takesOf_1 hm hj (by omega) (by omega) (by omega) (by omega) (by omega))
theorem takesOf_nb {u : Nat → Nat → Int32} {j : Nat} {p : Int32} (hm : SI (u 1)) (hj : j < 40) : sN (w_X6_takesOf u j p 1) 6 = sN (u 1) 6 := by
  have hd := SI_day2 hm
  unfold sN
  rw [takesOf_1 hm hj (by omega) (by omega) (by omega) (by omega) (by omega)]

def v_X6_paysAll_loop (cu : Nat) (p2 : Int32) : Nat → Nat → (Nat → Nat → Int32) → Int32 → Int32 → Int32
  | 0, k, u1, x3, x4 => x4
  | n + 1, k, u1, x3, x4 => if x3 ≤ 0 then x4 else if v_X6_isOpenOf u1 k (nI cu) = 0 then (v_X6_paysAll_loop cu p2 n (k + 1) u1 x3 x4) else if v_X6_is (w_X6_takesOf u1 k x3) k (1 : Int32) = 0 then (v_X6_paysAll_loop cu p2 n (k + 1) (w_X6_takesOf u1 k x3) (x3 - (v_X6_takesOf u1 k x3)) (x4 + (0 : Int32))) else v_X6_paysAll_loop cu p2 n (k + 1) (w_X6_takesOf u1 k x3) (x3 - (v_X6_takesOf u1 k x3)) (x4 + (1 : Int32))
def w_X6_paysAll_loop (cu : Nat) (p2 : Int32) : Nat → Nat → (Nat → Nat → Int32) → Int32 → Int32 → (Nat → Nat → Int32)
  | 0, k, u1, x3, x4 => up (up u1 1 (9 + cu) ((u1 1 (9 + cu)) + x3)) 1 (17 + cu) ((u1 1 (17 + cu)) + p2)
  | n + 1, k, u1, x3, x4 => if x3 ≤ 0 then (up (up u1 1 (9 + cu) ((u1 1 (9 + cu)) + x3)) 1 (17 + cu) ((u1 1 (17 + cu)) + p2)) else if v_X6_isOpenOf u1 k (nI cu) = 0 then (w_X6_paysAll_loop cu p2 n (k + 1) u1 x3 x4) else if v_X6_is (w_X6_takesOf u1 k x3) k (1 : Int32) = 0 then (w_X6_paysAll_loop cu p2 n (k + 1) (w_X6_takesOf u1 k x3) (x3 - (v_X6_takesOf u1 k x3)) (x4 + (0 : Int32))) else w_X6_paysAll_loop cu p2 n (k + 1) (w_X6_takesOf u1 k x3) (x3 - (v_X6_takesOf u1 k x3)) (x4 + (1 : Int32))
def v_X6_paysAll (u : Nat → Nat → Int32) (cu : Nat) (p2 : Int32) : Int32 := v_X6_paysAll_loop cu p2 (sN (u 1) 6) 0 u p2 (0 : Int32)
def w_X6_paysAll (u : Nat → Nat → Int32) (cu : Nat) (p2 : Int32) : Nat → Nat → Int32 := w_X6_paysAll_loop cu p2 (sN (u 1) 6) 0 u p2 (0 : Int32)
theorem q_X6_paysAll : yX6_paysAll.cls ≠ "java/lang/invoke/MethodHandle" ∧ yX6_paysAll.cls ≠ "java/lang/invoke/VarHandle" ∧ (parseMethodDescriptor yX6_paysAll.desc).map (fun d => d.parameters.length) = some 2 := ⟨by decide, by decide, by decide +kernel⟩
set_option maxHeartbeats 4000000 in
set_option maxRecDepth 100000 in
theorem c_X6_paysAll (l : Launch) (G : kG) (a : Nat → Nat) (hI : gI 8 a) (u : Nat → Nat → Int32) (cu : Nat) (hcu : cu < 8) (p2 : Int32) (hm : SI (u 1)) : Met l yX6_paysAll (Cond.code yX6_paysAll cX6_paysAll 6 (some .int) :: BIG) (rmK 6) (pcG G (mP G a u) [.ref (a 0), .int (nI cu), .int p2]) (qcI G (gA 8 a) (mP G a (w_X6_paysAll u cu p2)) (v_X6_paysAll u cu p2)) 0 0 (gA 8 a) := by
  refine m_start (by decide) (Nat.le_of_ble_eq_true rfl) ?_
  intro p e s m args below meth c S hr hlk hnm hP hK ls hl
  have hx := S.1
  have hb := S.2.1
  have hown := S.2.2.2.1
  have hS : va_S (gA 8 a) s.heap s.heap [] := va_S.rf
  have hl : lv_has ls 6 [(0, .ref (a 0)), (1, .int (nI cu)), (2, .int p2)] := hl
  refine lv_iload_n hx hb dX6_paysAll_0 rfl (lv_at hl 2 rfl) ?_
  refine lv_istore_n (lv' := [(3, .int p2), (0, .ref (a 0)), (1, .int (nI cu)), (2, .int p2)]) hx hb dX6_paysAll_1 rfl hl (by decide) rfl (fun ls hl => ?_)
  refine lv_iconst (v := 0) hx hb dX6_paysAll_2 (by decide) ?_
  refine lv_istore (lv' := [(4, .int (0 : Int32)), (3, .int p2), (0, .ref (a 0)), (1, .int (nI cu)), (2, .int p2)]) hx hb dX6_paysAll_3 hl (by decide) rfl (fun ls hl => ?_)
  refine lv_iconst (v := 0) hx hb dX6_paysAll_5 (by decide) ?_
  refine lv_istore (lv' := [(5, .int (0 : Int32)), (4, .int (0 : Int32)), (3, .int p2), (0, .ref (a 0)), (1, .int (nI cu)), (2, .int p2)]) hx hb dX6_paysAll_6 hl (by decide) rfl (fun ls hl => ?_)
  have LP_loop : ∀ (n : Nat) (k : Nat), True → ∀ (u1 : Nat → Nat → Int32) (x3 : Int32) (x4 : Int32) (H : Heap) (locs : List Loc), mP G a u1 H → va_S (gA 8 a) s.heap H locs → SI (u1 1) → k + n = sN (u1 1) 6 → ∀ ls : Array Slot, lv_has ls 6 [(5, .int (nI k)), (4, .int x4), (3, .int x3), (0, .ref (a 0)), (1, .int (nI cu)), (2, .int p2)] → W p l e (rmK 6) s m args below meth c H locs 0 0 (MQ below (qcI G (gA 8 a) (mP G a (w_X6_paysAll_loop cu p2 n k u1 x3 x4)) (v_X6_paysAll_loop cu p2 n k u1 x3 x4)) args s 0 0 (gA 8 a)) (F0 m 8 ls []) := by
    intro n
    induction n with
    | zero =>
      intro k hk_LP_loop u1 x3 x4 H locs hP hS hm1 hk1 ls hl
      have hnb1 := SI_nb2 hm1
      refine lv_iload hx hb dX6_paysAll_8 (lv_at hl 0 rfl) ?_
      refine lv_aload_n hx hb dX6_paysAll_10 rfl (lv_at hl 3 rfl) ?_
      refine g_get S hK hP (i := 0) (by omega) mC0 rfl inlX6 0 (by decide) k_67 (v := .ref (a 1)) rfl dX6_paysAll_11 ?_
      refine lv_bipush (v := 6) hx hb dX6_paysAll_14 (by decide) ?_
      refine g_aldN S hK hP (i := 1) (by omega) mC1 (k := 6) (by omega) (by decide) (v := u1 1 6) (rfl) dX6_paysAll_16 ?_
      refine r_top (v := nI (sN (u1 1) 6)) (SI_nb hm1) ?_
      refine lv_icmp_ge (tgt := 70) hx hb dX6_paysAll_17 (by decide) (fun _ => ?_) (fun c => absurd ((nI_leI (a := (sN (u1 1) 6)) (b := k) (by omega) (by omega)).mpr (by omega)) c)
      refine lv_aload_n hx hb dX6_paysAll_70 rfl (lv_at hl 3 rfl) ?_
      refine g_get S hK hP (i := 0) (by omega) mC0 rfl inlX6 0 (by decide) k_67 (v := .ref (a 1)) rfl dX6_paysAll_71 ?_
      refine lv_bipush (v := 9) hx hb dX6_paysAll_74 (by decide) ?_
      refine lv_iload_n hx hb dX6_paysAll_76 rfl (lv_at hl 4 rfl) ?_
      refine lv_iadd hx hb dX6_paysAll_77 ?_
      refine r_top (v := nI (9 + cu)) (nI_add 9 cu) ?_
      refine lv_dup2_11 hx hb dX6_paysAll_78 rfl rfl ?_
      refine g_aldN S hK hP (i := 1) (by omega) mC1 (k := 9 + cu) (by omega) (by decide) (v := u1 1 (9 + cu)) (rfl) dX6_paysAll_79 ?_
      refine lv_iload_n hx hb dX6_paysAll_80 rfl (lv_at hl 2 rfl) ?_
      refine lv_iadd hx hb dX6_paysAll_81 ?_
      refine g_astN S hK hP hI hS (i := 1) (by omega) mC1 (k := 9 + cu) (by omega) (by decide) dX6_paysAll_82 (fun H locs hP hS => ?_)
      have hP : mP G a (up u1 1 (9 + cu) ((u1 1 (9 + cu)) + x3)) H := hP
      refine lv_aload_n hx hb dX6_paysAll_83 rfl (lv_at hl 3 rfl) ?_
      refine g_get S hK hP (i := 0) (by omega) mC0 rfl inlX6 0 (by decide) k_67 (v := .ref (a 1)) rfl dX6_paysAll_84 ?_
      refine lv_bipush (v := 17) hx hb dX6_paysAll_87 (by decide) ?_
      refine lv_iload_n hx hb dX6_paysAll_89 rfl (lv_at hl 4 rfl) ?_
      refine lv_iadd hx hb dX6_paysAll_90 ?_
      refine r_top (v := nI (17 + cu)) (nI_add 17 cu) ?_
      refine lv_dup2_11 hx hb dX6_paysAll_91 rfl rfl ?_
      refine g_aldN S hK hP (i := 1) (by omega) mC1 (k := 17 + cu) (by omega) (by decide) (v := u1 1 (17 + cu)) ((up_nk (by omega)).trans rfl) dX6_paysAll_92 ?_
      refine lv_iload_n hx hb dX6_paysAll_93 rfl (lv_at hl 5 rfl) ?_
      refine lv_iadd hx hb dX6_paysAll_94 ?_
      refine g_astN S hK hP hI hS (i := 1) (by omega) mC1 (k := 17 + cu) (by omega) (by decide) dX6_paysAll_95 (fun H locs hP hS => ?_)
      have hP : mP G a (up (up u1 1 (9 + cu) ((u1 1 (9 + cu)) + x3)) 1 (17 + cu) ((u1 1 (17 + cu)) + p2)) H := hP
      refine lv_iload hx hb dX6_paysAll_96 (lv_at hl 1 rfl) ?_
      exact e_int S hr hlk rfl hK hS (gP_eq (show w_X6_paysAll_loop cu p2 0 k u1 x3 x4 = up (up u1 1 (9 + cu) ((u1 1 (9 + cu)) + x3)) 1 (17 + cu) ((u1 1 (17 + cu)) + p2) from rfl) hP) (show v_X6_paysAll_loop cu p2 0 k u1 x3 x4 = x4 from rfl).symm dX6_paysAll_98
    | succ n ih_LP_loop =>
      intro k hk_LP_loop u1 x3 x4 H locs hP hS hm1 hk1 ls hl
      have hnb1 := SI_nb2 hm1
      refine lv_iload hx hb dX6_paysAll_8 (lv_at hl 0 rfl) ?_
      refine lv_aload_n hx hb dX6_paysAll_10 rfl (lv_at hl 3 rfl) ?_
      refine g_get S hK hP (i := 0) (by omega) mC0 rfl inlX6 0 (by decide) k_67 (v := .ref (a 1)) rfl dX6_paysAll_11 ?_
      refine lv_bipush (v := 6) hx hb dX6_paysAll_14 (by decide) ?_
      refine g_aldN S hK hP (i := 1) (by omega) mC1 (k := 6) (by omega) (by decide) (v := u1 1 6) (rfl) dX6_paysAll_16 ?_
      refine r_top (v := nI (sN (u1 1) 6)) (SI_nb hm1) ?_
      refine lv_icmp_ge (tgt := 70) hx hb dX6_paysAll_17 (by decide) (fun c => absurd c (fun z => absurd ((nI_leI (a := (sN (u1 1) 6)) (b := k) (by omega) (by omega)).mp z) (by omega))) (fun _ => ?_)
      refine lv_iload_n hx hb dX6_paysAll_20 rfl (lv_at hl 2 rfl) ?_
      refine lv_if_le (tgt := 70) hx hb dX6_paysAll_21 (by decide) (fun c1 => ?_) (fun c1 => ?_)
      · skip
        refine lv_aload_n hx hb dX6_paysAll_70 rfl (lv_at hl 3 rfl) ?_
        refine g_get S hK hP (i := 0) (by omega) mC0 rfl inlX6 0 (by decide) k_67 (v := .ref (a 1)) rfl dX6_paysAll_71 ?_
        refine lv_bipush (v := 9) hx hb dX6_paysAll_74 (by decide) ?_
        refine lv_iload_n hx hb dX6_paysAll_76 rfl (lv_at hl 4 rfl) ?_
        refine lv_iadd hx hb dX6_paysAll_77 ?_
        refine r_top (v := nI (9 + cu)) (nI_add 9 cu) ?_
        refine lv_dup2_11 hx hb dX6_paysAll_78 rfl rfl ?_
        refine g_aldN S hK hP (i := 1) (by omega) mC1 (k := 9 + cu) (by omega) (by decide) (v := u1 1 (9 + cu)) (rfl) dX6_paysAll_79 ?_
        refine lv_iload_n hx hb dX6_paysAll_80 rfl (lv_at hl 2 rfl) ?_
        refine lv_iadd hx hb dX6_paysAll_81 ?_
        refine g_astN S hK hP hI hS (i := 1) (by omega) mC1 (k := 9 + cu) (by omega) (by decide) dX6_paysAll_82 (fun H locs hP hS => ?_)
        have hP : mP G a (up u1 1 (9 + cu) ((u1 1 (9 + cu)) + x3)) H := hP
        refine lv_aload_n hx hb dX6_paysAll_83 rfl (lv_at hl 3 rfl) ?_
        refine g_get S hK hP (i := 0) (by omega) mC0 rfl inlX6 0 (by decide) k_67 (v := .ref (a 1)) rfl dX6_paysAll_84 ?_
        refine lv_bipush (v := 17) hx hb dX6_paysAll_87 (by decide) ?_
        refine lv_iload_n hx hb dX6_paysAll_89 rfl (lv_at hl 4 rfl) ?_
        refine lv_iadd hx hb dX6_paysAll_90 ?_
        refine r_top (v := nI (17 + cu)) (nI_add 17 cu) ?_
        refine lv_dup2_11 hx hb dX6_paysAll_91 rfl rfl ?_
        refine g_aldN S hK hP (i := 1) (by omega) mC1 (k := 17 + cu) (by omega) (by decide) (v := u1 1 (17 + cu)) ((up_nk (by omega)).trans rfl) dX6_paysAll_92 ?_
        refine lv_iload_n hx hb dX6_paysAll_93 rfl (lv_at hl 5 rfl) ?_
        refine lv_iadd hx hb dX6_paysAll_94 ?_
        refine g_astN S hK hP hI hS (i := 1) (by omega) mC1 (k := 17 + cu) (by omega) (by decide) dX6_paysAll_95 (fun H locs hP hS => ?_)
        have hP : mP G a (up (up u1 1 (9 + cu) ((u1 1 (9 + cu)) + x3)) 1 (17 + cu) ((u1 1 (17 + cu)) + p2)) H := hP
        refine lv_iload hx hb dX6_paysAll_96 (lv_at hl 1 rfl) ?_
        exact e_int S hr hlk rfl hK hS (gP_eq (show w_X6_paysAll_loop cu p2 (n + 1) k u1 x3 x4 = up (up u1 1 (9 + cu) ((u1 1 (9 + cu)) + x3)) 1 (17 + cu) ((u1 1 (17 + cu)) + p2) from (if_pos c1).trans rfl) hP) (show v_X6_paysAll_loop cu p2 (n + 1) k u1 x3 x4 = x4 from (if_pos c1).trans rfl).symm dX6_paysAll_98
      · skip
        refine lv_aload_n hx hb dX6_paysAll_24 rfl (lv_at hl 3 rfl) ?_
        refine lv_iload hx hb dX6_paysAll_25 (lv_at hl 0 rfl) ?_
        refine lv_iload_n hx hb dX6_paysAll_27 rfl (lv_at hl 4 rfl) ?_
        refine r_callI S hK hP (c_X6_isOpenOf l G a hI u1 k (by omega) _ ) (r_cw S k_286 k_283 k_284 k_285 k_5 q_X6_isOpenOf ⟨Nat.le_of_ble_eq_true rfl, Nat.le_of_ble_eq_true rfl⟩ rfl rfl) (g_recv hK hP (i := 0) (by omega) mC0 rfl) rfl hl.1 rfl (Nat.le_of_ble_eq_true rfl) dX6_paysAll_28 ⟨Nat.zero_le _, Nat.zero_le _⟩ hS (fun _ h => h) (fun H locs hP _ _ hS => ?_)
        have hP : mP G a u1 H := hP
        refine lv_if_eq (tgt := 64) hx hb dX6_paysAll_31 (by decide) (fun c2 => ?_) (fun c2 => ?_)
        · skip
          refine lv_iinc (v := nI (k + 1)) (lv' := [(5, .int (nI (k + 1))), (4, .int x4), (3, .int x3), (0, .ref (a 0)), (1, .int (nI cu)), (2, .int p2)]) hx hb dX6_paysAll_64 hl (k := 0) rfl (nI_1 _) (by decide) rfl (fun ls hl => ?_)
          refine lv_goto (tgt := 8) hx hb dX6_paysAll_67 (by decide) ?_
          refine q_eqI (show v_X6_paysAll_loop cu p2 (n + 1) k u1 x3 x4 = v_X6_paysAll_loop cu p2 n (k + 1) u1 x3 x4 from (if_neg c1).trans ((if_pos c2).trans rfl)) (show w_X6_paysAll_loop cu p2 (n + 1) k u1 x3 x4 = w_X6_paysAll_loop cu p2 n (k + 1) u1 x3 x4 from (if_neg c1).trans ((if_pos c2).trans rfl)) ?_
          exact ih_LP_loop (k + 1) trivial _ _ _ _ _ hP hS hm1 (by omega) ls (lv_sub hl [0, 1, 2, 3, 4, 5] rfl)
        · skip
          refine lv_iload_n hx hb dX6_paysAll_34 rfl (lv_at hl 2 rfl) ?_
          refine lv_aload_n hx hb dX6_paysAll_35 rfl (lv_at hl 3 rfl) ?_
          refine lv_iload hx hb dX6_paysAll_36 (lv_at hl 0 rfl) ?_
          refine lv_iload_n hx hb dX6_paysAll_38 rfl (lv_at hl 2 rfl) ?_
          refine r_callI S hK hP (c_X6_takesOf l G a hI u1 k (by omega) _ hm1) (r_cw S k_225 k_222 k_223 k_224 k_5 q_X6_takesOf ⟨Nat.le_of_ble_eq_true rfl, Nat.le_of_ble_eq_true rfl⟩ rfl rfl) (g_recv hK hP (i := 0) (by omega) mC0 rfl) rfl hl.1 rfl (Nat.le_of_ble_eq_true rfl) dX6_paysAll_39 ⟨Nat.zero_le _, Nat.zero_le _⟩ hS (fun _ h => h) (fun H locs hP _ _ hS => ?_)
          have hP : mP G a (w_X6_takesOf u1 k x3) H := hP
          refine lv_isub hx hb dX6_paysAll_42 ?_
          refine lv_istore_n (lv' := [(3, .int (x3 - (v_X6_takesOf u1 k x3))), (5, .int (nI k)), (4, .int x4), (0, .ref (a 0)), (1, .int (nI cu)), (2, .int p2)]) hx hb dX6_paysAll_43 rfl hl (by decide) rfl (fun ls hl => ?_)
          refine lv_iload hx hb dX6_paysAll_44 (lv_at hl 2 rfl) ?_
          refine lv_aload_n hx hb dX6_paysAll_46 rfl (lv_at hl 3 rfl) ?_
          refine lv_iload hx hb dX6_paysAll_47 (lv_at hl 1 rfl) ?_
          refine lv_iconst (v := 1) hx hb dX6_paysAll_49 (by decide) ?_
          refine r_callI S hK hP (c_X6_is l G a hI (w_X6_takesOf u1 k x3) k (by omega) _ ) (r_cw S k_290 k_287 k_288 k_289 k_5 q_X6_is ⟨Nat.le_of_ble_eq_true rfl, Nat.le_of_ble_eq_true rfl⟩ rfl rfl) (g_recv hK hP (i := 0) (by omega) mC0 rfl) rfl hl.1 rfl (Nat.le_of_ble_eq_true rfl) dX6_paysAll_50 ⟨Nat.zero_le _, Nat.zero_le _⟩ hS (fun _ h => h) (fun H locs hP _ _ hS => ?_)
          have hP : mP G a (w_X6_takesOf u1 k x3) H := hP
          refine lv_if_eq (tgt := 60) hx hb dX6_paysAll_53 (by decide) (fun c3 => ?_) (fun c3 => ?_)
          · skip
            refine lv_iconst (v := 0) hx hb dX6_paysAll_60 (by decide) ?_
            refine lv_iadd hx hb dX6_paysAll_61 ?_
            refine lv_istore (lv' := [(4, .int (x4 + (0 : Int32))), (3, .int (x3 - (v_X6_takesOf u1 k x3))), (5, .int (nI k)), (0, .ref (a 0)), (1, .int (nI cu)), (2, .int p2)]) hx hb dX6_paysAll_62 hl (by decide) rfl (fun ls hl => ?_)
            refine lv_iinc (v := nI (k + 1)) (lv' := [(5, .int (nI (k + 1))), (4, .int (x4 + (0 : Int32))), (3, .int (x3 - (v_X6_takesOf u1 k x3))), (0, .ref (a 0)), (1, .int (nI cu)), (2, .int p2)]) hx hb dX6_paysAll_64 hl (k := 2) rfl (nI_1 _) (by decide) rfl (fun ls hl => ?_)
            refine lv_goto (tgt := 8) hx hb dX6_paysAll_67 (by decide) ?_
            refine q_eqI (show v_X6_paysAll_loop cu p2 (n + 1) k u1 x3 x4 = v_X6_paysAll_loop cu p2 n (k + 1) (w_X6_takesOf u1 k x3) (x3 - (v_X6_takesOf u1 k x3)) (x4 + (0 : Int32)) from (if_neg c1).trans ((if_neg c2).trans ((if_pos c3).trans rfl))) (show w_X6_paysAll_loop cu p2 (n + 1) k u1 x3 x4 = w_X6_paysAll_loop cu p2 n (k + 1) (w_X6_takesOf u1 k x3) (x3 - (v_X6_takesOf u1 k x3)) (x4 + (0 : Int32)) from (if_neg c1).trans ((if_neg c2).trans ((if_pos c3).trans rfl))) ?_
            exact ih_LP_loop (k + 1) trivial _ _ _ _ _ hP hS (takesOf_SI hm1 (by omega)) (by rw [takesOf_nb hm1 (by omega)]; omega) ls (lv_sub hl [0, 1, 2, 3, 4, 5] rfl)
          · skip
            refine lv_iconst (v := 1) hx hb dX6_paysAll_56 (by decide) ?_
            refine lv_goto (tgt := 61) hx hb dX6_paysAll_57 (by decide) ?_
            refine lv_iadd hx hb dX6_paysAll_61 ?_
            refine lv_istore (lv' := [(4, .int (x4 + (1 : Int32))), (3, .int (x3 - (v_X6_takesOf u1 k x3))), (5, .int (nI k)), (0, .ref (a 0)), (1, .int (nI cu)), (2, .int p2)]) hx hb dX6_paysAll_62 hl (by decide) rfl (fun ls hl => ?_)
            refine lv_iinc (v := nI (k + 1)) (lv' := [(5, .int (nI (k + 1))), (4, .int (x4 + (1 : Int32))), (3, .int (x3 - (v_X6_takesOf u1 k x3))), (0, .ref (a 0)), (1, .int (nI cu)), (2, .int p2)]) hx hb dX6_paysAll_64 hl (k := 2) rfl (nI_1 _) (by decide) rfl (fun ls hl => ?_)
            refine lv_goto (tgt := 8) hx hb dX6_paysAll_67 (by decide) ?_
            refine q_eqI (show v_X6_paysAll_loop cu p2 (n + 1) k u1 x3 x4 = v_X6_paysAll_loop cu p2 n (k + 1) (w_X6_takesOf u1 k x3) (x3 - (v_X6_takesOf u1 k x3)) (x4 + (1 : Int32)) from (if_neg c1).trans ((if_neg c2).trans ((if_neg c3).trans rfl))) (show w_X6_paysAll_loop cu p2 (n + 1) k u1 x3 x4 = w_X6_paysAll_loop cu p2 n (k + 1) (w_X6_takesOf u1 k x3) (x3 - (v_X6_takesOf u1 k x3)) (x4 + (1 : Int32)) from (if_neg c1).trans ((if_neg c2).trans ((if_neg c3).trans rfl))) ?_
            exact ih_LP_loop (k + 1) trivial _ _ _ _ _ hP hS (takesOf_SI hm1 (by omega)) (by rw [takesOf_nb hm1 (by omega)]; omega) ls (lv_sub hl [0, 1, 2, 3, 4, 5] rfl)
  refine q_eqI (show v_X6_paysAll u cu p2 = v_X6_paysAll_loop cu p2 (sN (u 1) 6) 0 u p2 (0 : Int32) from rfl) (show w_X6_paysAll u cu p2 = w_X6_paysAll_loop cu p2 (sN (u 1) 6) 0 u p2 (0 : Int32) from rfl) ?_
  exact LP_loop (sN (u 1) 6) 0 trivial _ _ _ _ _ hP hS hm (Nat.zero_add _) ls (lv_sub hl [0, 1, 2, 3, 4, 5] rfl)

def v_X6_isTooMuch_loop (u : Nat → Nat → Int32) : Nat → Nat → Int32 → Int32
  | 0, k, x1 => x1
  | n + 1, k, x1 => if x1 = 0 then (if u 1 (9 + k) ≤ (999999 : Int32) then (v_X6_isTooMuch_loop u n (k + 1) (0 : Int32)) else v_X6_isTooMuch_loop u n (k + 1) (1 : Int32)) else v_X6_isTooMuch_loop u n (k + 1) (1 : Int32)
def v_X6_isTooMuch (u : Nat → Nat → Int32) : Int32 := v_X6_isTooMuch_loop u 8 0 (0 : Int32)
theorem q_X6_isTooMuch : yX6_isTooMuch.cls ≠ "java/lang/invoke/MethodHandle" ∧ yX6_isTooMuch.cls ≠ "java/lang/invoke/VarHandle" ∧ (parseMethodDescriptor yX6_isTooMuch.desc).map (fun d => d.parameters.length) = some 0 := ⟨by decide, by decide, by decide +kernel⟩
theorem z_X6_isTooMuch (u : Nat → Nat → Int32) : narrow .boolean (.int (v_X6_isTooMuch u )) = .int (v_X6_isTooMuch u ) := by
  have h : ∀ (n k : Nat) (x : Int32), narrow .boolean (.int x) = .int x → narrow .boolean (.int (v_X6_isTooMuch_loop u n k x)) = .int (v_X6_isTooMuch_loop u n k x) := by
    intro n
    induction n with
    | zero => intro k x hx; exact hx
    | succ n ih =>
      intro k x hx
      exact z_ite (z_ite (ih _ _ z_0) (ih _ _ z_1)) (ih _ _ z_1)
  exact h 8 0 0 z_0
set_option maxHeartbeats 4000000 in
set_option maxRecDepth 100000 in
theorem c_X6_isTooMuch (l : Launch) (G : kG) (a : Nat → Nat) (hI : gI 8 a) (u : Nat → Nat → Int32) : Met l yX6_isTooMuch (Cond.code yX6_isTooMuch cX6_isTooMuch 3 (some .boolean) :: BIG) (rmK 0) (pcG G (mP G a u) [.ref (a 0)]) (qcI G (gA 8 a) (mP G a u) (v_X6_isTooMuch u)) 0 0 (gA 8 a) := by
  refine m_start (by decide) (Nat.le_of_ble_eq_true rfl) ?_
  intro p e s m args below meth c S hr hlk hnm hP hK ls hl
  have hx := S.1
  have hb := S.2.1
  have hown := S.2.2.2.1
  have hS : va_S (gA 8 a) s.heap s.heap [] := va_S.rf
  have hl : lv_has ls 3 [(0, .ref (a 0))] := hl
  refine lv_iconst (v := 0) hx hb dX6_isTooMuch_0 (by decide) ?_
  refine lv_istore_n (lv' := [(1, .int (0 : Int32)), (0, .ref (a 0))]) hx hb dX6_isTooMuch_1 rfl hl (by decide) rfl (fun ls hl => ?_)
  refine lv_iconst (v := 0) hx hb dX6_isTooMuch_2 (by decide) ?_
  refine lv_istore_n (lv' := [(2, .int (0 : Int32)), (1, .int (0 : Int32)), (0, .ref (a 0))]) hx hb dX6_isTooMuch_3 rfl hl (by decide) rfl (fun ls hl => ?_)
  have LP_loop : ∀ (n : Nat) (k : Nat), k + n = 8 → ∀ (x1 : Int32) (H : Heap) (locs : List Loc), mP G a u H → va_S (gA 8 a) s.heap H locs → narrow .boolean (.int x1) = .int x1 → ∀ ls : Array Slot, lv_has ls 3 [(2, .int (nI k)), (1, .int x1), (0, .ref (a 0))] → W p l e (rmK 0) s m args below meth c H locs 0 0 (MQ below (qcI G (gA 8 a) (mP G a u) (v_X6_isTooMuch_loop u n k x1)) args s 0 0 (gA 8 a)) (F0 m 4 ls []) := by
    intro n
    induction n with
    | zero =>
      intro k hk_LP_loop x1 H locs hP hS hz ls hl
      refine lv_iload_n hx hb dX6_isTooMuch_4 rfl (lv_at hl 0 rfl) ?_
      refine lv_bipush (v := 8) hx hb dX6_isTooMuch_5 (by decide) ?_
      refine lv_icmp_ge (tgt := 40) hx hb dX6_isTooMuch_7 (by decide) (fun _ => ?_) (fun c => absurd ((nI_leI (a := 8) (b := k) (by omega) (by omega)).mpr (by omega)) c)
      refine lv_iload_n hx hb dX6_isTooMuch_40 rfl (lv_at hl 1 rfl) ?_
      exact e_int S hr hlk hz hK hS hP (show v_X6_isTooMuch_loop u 0 k x1 = x1 from rfl).symm dX6_isTooMuch_41
    | succ n ih_LP_loop =>
      intro k hk_LP_loop x1 H locs hP hS hz ls hl
      refine lv_iload_n hx hb dX6_isTooMuch_4 rfl (lv_at hl 0 rfl) ?_
      refine lv_bipush (v := 8) hx hb dX6_isTooMuch_5 (by decide) ?_
      refine lv_icmp_ge (tgt := 40) hx hb dX6_isTooMuch_7 (by decide) (fun c => absurd c (fun z => absurd ((nI_leI (a := 8) (b := k) (by omega) (by omega)).mp z) (by omega))) (fun _ => ?_)
      refine lv_iload_n hx hb dX6_isTooMuch_10 rfl (lv_at hl 1 rfl) ?_
      refine lv_if_ne (tgt := 28) hx hb dX6_isTooMuch_11 (by decide) (fun c1 => ?_) (fun c1 => ?_)
      · skip
        refine lv_iconst (v := 1) hx hb dX6_isTooMuch_28 (by decide) ?_
        refine lv_goto (tgt := 33) hx hb dX6_isTooMuch_29 (by decide) ?_
        refine lv_istore_n (lv' := [(1, .int (1 : Int32)), (2, .int (nI k)), (0, .ref (a 0))]) hx hb dX6_isTooMuch_33 rfl hl (by decide) rfl (fun ls hl => ?_)
        refine lv_iinc (v := nI (k + 1)) (lv' := [(2, .int (nI (k + 1))), (1, .int (1 : Int32)), (0, .ref (a 0))]) hx hb dX6_isTooMuch_34 hl (k := 1) rfl (nI_1 _) (by decide) rfl (fun ls hl => ?_)
        refine lv_goto (tgt := 4) hx hb dX6_isTooMuch_37 (by decide) ?_
        refine q_eqI (show v_X6_isTooMuch_loop u (n + 1) k x1 = v_X6_isTooMuch_loop u n (k + 1) (1 : Int32) from (if_neg c1).trans rfl) rfl ?_
        exact ih_LP_loop (k + 1) (by omega) _ _ _ hP hS z_1 ls (lv_sub hl [0, 1, 2] rfl)
      · skip
        refine lv_aload_n hx hb dX6_isTooMuch_14 rfl (lv_at hl 2 rfl) ?_
        refine g_get S hK hP (i := 0) (by omega) mC0 rfl inlX6 0 (by decide) k_67 (v := .ref (a 1)) rfl dX6_isTooMuch_15 ?_
        refine lv_bipush (v := 9) hx hb dX6_isTooMuch_18 (by decide) ?_
        refine lv_iload_n hx hb dX6_isTooMuch_20 rfl (lv_at hl 0 rfl) ?_
        refine lv_iadd hx hb dX6_isTooMuch_21 ?_
        refine r_top (v := nI (9 + k)) (nI_add 9 k) ?_
        refine g_aldN S hK hP (i := 1) (by omega) mC1 (k := 9 + k) (by omega) (by decide) (v := u 1 (9 + k)) (rfl) dX6_isTooMuch_22 ?_
        refine lv_ldc hx hb hown (S.2.2.2.2 _ k_295) dX6_isTooMuch_23 ?_
        refine lv_icmp_le (tgt := 32) hx hb dX6_isTooMuch_25 (by decide) (fun c2 => ?_) (fun c2 => ?_)
        · skip
          refine lv_iconst (v := 0) hx hb dX6_isTooMuch_32 (by decide) ?_
          refine lv_istore_n (lv' := [(1, .int (0 : Int32)), (2, .int (nI k)), (0, .ref (a 0))]) hx hb dX6_isTooMuch_33 rfl hl (by decide) rfl (fun ls hl => ?_)
          refine lv_iinc (v := nI (k + 1)) (lv' := [(2, .int (nI (k + 1))), (1, .int (0 : Int32)), (0, .ref (a 0))]) hx hb dX6_isTooMuch_34 hl (k := 1) rfl (nI_1 _) (by decide) rfl (fun ls hl => ?_)
          refine lv_goto (tgt := 4) hx hb dX6_isTooMuch_37 (by decide) ?_
          refine q_eqI (show v_X6_isTooMuch_loop u (n + 1) k x1 = v_X6_isTooMuch_loop u n (k + 1) (0 : Int32) from (if_pos c1).trans ((if_pos c2).trans rfl)) rfl ?_
          exact ih_LP_loop (k + 1) (by omega) _ _ _ hP hS z_0 ls (lv_sub hl [0, 1, 2] rfl)
        · skip
          refine lv_iconst (v := 1) hx hb dX6_isTooMuch_28 (by decide) ?_
          refine lv_goto (tgt := 33) hx hb dX6_isTooMuch_29 (by decide) ?_
          refine lv_istore_n (lv' := [(1, .int (1 : Int32)), (2, .int (nI k)), (0, .ref (a 0))]) hx hb dX6_isTooMuch_33 rfl hl (by decide) rfl (fun ls hl => ?_)
          refine lv_iinc (v := nI (k + 1)) (lv' := [(2, .int (nI (k + 1))), (1, .int (1 : Int32)), (0, .ref (a 0))]) hx hb dX6_isTooMuch_34 hl (k := 1) rfl (nI_1 _) (by decide) rfl (fun ls hl => ?_)
          refine lv_goto (tgt := 4) hx hb dX6_isTooMuch_37 (by decide) ?_
          refine q_eqI (show v_X6_isTooMuch_loop u (n + 1) k x1 = v_X6_isTooMuch_loop u n (k + 1) (1 : Int32) from (if_pos c1).trans ((if_neg c2).trans rfl)) rfl ?_
          exact ih_LP_loop (k + 1) (by omega) _ _ _ hP hS z_1 ls (lv_sub hl [0, 1, 2] rfl)
  refine q_eqI (show v_X6_isTooMuch u  = v_X6_isTooMuch_loop u 8 0 (0 : Int32) from rfl) rfl ?_
  exact LP_loop 8 0 (by omega) _ _ _ hP hS z_0 ls (lv_sub hl [0, 1, 2] rfl)

def v_X6_billed_loop (u : Nat → Nat → Int32) (cu : Nat) (p2 : Int32) (p3 : Int32) (p4 : Int32) : Nat → Nat → (Nat → Nat → Int32) → Int32
  | 0, k, u1 => if u1 1 (9 + cu) ≤ 0 then (nI (sN (u 1) 6)) else nI (sN (u 1) 6)
  | n + 1, k, u1 => v_X6_billed_loop u cu p2 p3 p4 n (k + 1) (up u1 1 (233 + 12 * (sN (u 1) 6) + k) (0 : Int32))
def w_X6_billed_loop (u : Nat → Nat → Int32) (cu : Nat) (p2 : Int32) (p3 : Int32) (p4 : Int32) : Nat → Nat → (Nat → Nat → Int32) → (Nat → Nat → Int32)
  | 0, k, u1 => if u1 1 (9 + cu) ≤ 0 then (up (up (up (up (up (up u1 1 (233 + 12 * (sN (u 1) 6) + 0) (nI cu)) 1 (233 + 12 * (sN (u 1) 6) + 1) p2) 1 (233 + 12 * (sN (u 1) 6) + 2) p3) 1 (233 + 12 * (sN (u 1) 6) + 3) (u1 1 0)) 1 (233 + 12 * (sN (u 1) 6) + 4) p4) 1 (233 + 12 * (sN (u 1) 6) + 11) (-5 : Int32)) else up (w_X6_takesOf (up (up (up (up (up (up u1 1 (233 + 12 * (sN (u 1) 6) + 0) (nI cu)) 1 (233 + 12 * (sN (u 1) 6) + 1) p2) 1 (233 + 12 * (sN (u 1) 6) + 2) p3) 1 (233 + 12 * (sN (u 1) 6) + 3) (u1 1 0)) 1 (233 + 12 * (sN (u 1) 6) + 4) p4) 1 (233 + 12 * (sN (u 1) 6) + 11) (-5 : Int32)) (sN (u 1) 6) (u1 1 (9 + cu))) 1 (9 + cu) ((u1 1 (9 + cu)) - (v_X6_takesOf (up (up (up (up (up (up u1 1 (233 + 12 * (sN (u 1) 6) + 0) (nI cu)) 1 (233 + 12 * (sN (u 1) 6) + 1) p2) 1 (233 + 12 * (sN (u 1) 6) + 2) p3) 1 (233 + 12 * (sN (u 1) 6) + 3) (u1 1 0)) 1 (233 + 12 * (sN (u 1) 6) + 4) p4) 1 (233 + 12 * (sN (u 1) 6) + 11) (-5 : Int32)) (sN (u 1) 6) (u1 1 (9 + cu))))
  | n + 1, k, u1 => w_X6_billed_loop u cu p2 p3 p4 n (k + 1) (up u1 1 (233 + 12 * (sN (u 1) 6) + k) (0 : Int32))
def v_X6_billed (u : Nat → Nat → Int32) (cu : Nat) (p2 : Int32) (p3 : Int32) (p4 : Int32) : Int32 := if u 1 6 = (40 : Int32) then (-3 : Int32) else v_X6_billed_loop u cu p2 p3 p4 12 0 (up u 1 6 ((u 1 6) + (1 : Int32)))
def w_X6_billed (u : Nat → Nat → Int32) (cu : Nat) (p2 : Int32) (p3 : Int32) (p4 : Int32) : Nat → Nat → Int32 := if u 1 6 = (40 : Int32) then u else w_X6_billed_loop u cu p2 p3 p4 12 0 (up u 1 6 ((u 1 6) + (1 : Int32)))
theorem q_X6_billed : yX6_billed.cls ≠ "java/lang/invoke/MethodHandle" ∧ yX6_billed.cls ≠ "java/lang/invoke/VarHandle" ∧ (parseMethodDescriptor yX6_billed.desc).map (fun d => d.parameters.length) = some 4 := ⟨by decide, by decide, by decide +kernel⟩
set_option maxHeartbeats 4000000 in
set_option maxRecDepth 100000 in
theorem c_X6_billed (l : Launch) (G : kG) (a : Nat → Nat) (hI : gI 8 a) (u : Nat → Nat → Int32) (cu : Nat) (hcu : cu < 8) (p2 : Int32) (p3 : Int32) (p4 : Int32) (hm : SI (u 1)) (hrt : ∃ r : Nat, r ≤ 40 ∧ p3 = nI r) : Met l yX6_billed (Cond.code yX6_billed cX6_billed 7 (some .int) :: BIG) (rmK 6) (pcG G (mP G a u) [.ref (a 0), .int (nI cu), .int p2, .int p3, .int p4]) (qcI G (gA 8 a) (mP G a (w_X6_billed u cu p2 p3 p4)) (v_X6_billed u cu p2 p3 p4)) 0 0 (gA 8 a) := by
  refine m_start (by decide) (Nat.le_of_ble_eq_true rfl) ?_
  intro p e s m args below meth c S hr hlk hnm hP hK ls hl
  have hx := S.1
  have hb := S.2.1
  have hown := S.2.2.2.1
  have hS : va_S (gA 8 a) s.heap s.heap [] := va_S.rf
  have hl : lv_has ls 7 [(0, .ref (a 0)), (1, .int (nI cu)), (2, .int p2), (3, .int p3), (4, .int p4)] := hl
  refine lv_aload_n hx hb dX6_billed_0 rfl (lv_at hl 0 rfl) ?_
  refine g_get S hK hP (i := 0) (by omega) mC0 rfl inlX6 0 (by decide) k_67 (v := .ref (a 1)) rfl dX6_billed_1 ?_
  refine lv_bipush (v := 6) hx hb dX6_billed_4 (by decide) ?_
  refine g_aldN S hK hP (i := 1) (by omega) mC1 (k := 6) (by omega) (by decide) (v := u 1 6) (rfl) dX6_billed_6 ?_
  refine lv_bipush (v := 40) hx hb dX6_billed_7 (by decide) ?_
  refine lv_icmp_ne (tgt := 15) hx hb dX6_billed_9 (by decide) (fun c1 => ?_) (fun c1 => ?_)
  · skip
    refine lv_aload_n hx hb dX6_billed_15 rfl (lv_at hl 0 rfl) ?_
    refine g_get S hK hP (i := 0) (by omega) mC0 rfl inlX6 0 (by decide) k_67 (v := .ref (a 1)) rfl dX6_billed_16 ?_
    refine lv_bipush (v := 6) hx hb dX6_billed_19 (by decide) ?_
    refine g_aldN S hK hP (i := 1) (by omega) mC1 (k := 6) (by omega) (by decide) (v := u 1 6) (rfl) dX6_billed_21 ?_
    have hbl : sN (u 1) 6 < 40 := SI_lt hm c1
    refine r_top (v := nI (sN (u 1) 6)) (SI_nb hm) ?_
    refine lv_istore (lv' := [(5, .int (nI (sN (u 1) 6))), (0, .ref (a 0)), (1, .int (nI cu)), (2, .int p2), (3, .int p3), (4, .int p4)]) hx hb dX6_billed_22 hl (by decide) rfl (fun ls hl => ?_)
    refine lv_aload_n hx hb dX6_billed_24 rfl (lv_at hl 1 rfl) ?_
    refine g_get S hK hP (i := 0) (by omega) mC0 rfl inlX6 0 (by decide) k_67 (v := .ref (a 1)) rfl dX6_billed_25 ?_
    refine lv_bipush (v := 6) hx hb dX6_billed_28 (by decide) ?_
    refine lv_dup2_11 hx hb dX6_billed_30 rfl rfl ?_
    refine g_aldN S hK hP (i := 1) (by omega) mC1 (k := 6) (by omega) (by decide) (v := u 1 6) (rfl) dX6_billed_31 ?_
    refine lv_iconst (v := 1) hx hb dX6_billed_32 (by decide) ?_
    refine lv_iadd hx hb dX6_billed_33 ?_
    refine g_astN S hK hP hI hS (i := 1) (by omega) mC1 (k := 6) (by omega) (by decide) dX6_billed_34 (fun H locs hP hS => ?_)
    have hP : mP G a (up u 1 6 ((u 1 6) + (1 : Int32))) H := hP
    refine lv_iconst (v := 0) hx hb dX6_billed_35 (by decide) ?_
    refine lv_istore (lv' := [(6, .int (0 : Int32)), (5, .int (nI (sN (u 1) 6))), (0, .ref (a 0)), (1, .int (nI cu)), (2, .int p2), (3, .int p3), (4, .int p4)]) hx hb dX6_billed_36 hl (by decide) rfl (fun ls hl => ?_)
    have LP_loop : ∀ (n : Nat) (k : Nat), k + n = 12 → ∀ (u1 : Nat → Nat → Int32) (H : Heap) (locs : List Loc), mP G a u1 H → va_S (gA 8 a) s.heap H locs → SI (u1 1) → ∀ ls : Array Slot, lv_has ls 7 [(6, .int (nI k)), (5, .int (nI (sN (u 1) 6))), (0, .ref (a 0)), (1, .int (nI cu)), (2, .int p2), (3, .int p3), (4, .int p4)] → W p l e (rmK 6) s m args below meth c H locs 0 0 (MQ below (qcI G (gA 8 a) (mP G a (w_X6_billed_loop u cu p2 p3 p4 n k u1)) (v_X6_billed_loop u cu p2 p3 p4 n k u1)) args s 0 0 (gA 8 a)) (F0 m 38 ls []) := by
      intro n
      induction n with
      | zero =>
        intro k hk_LP_loop u1 H locs hP hS hm1 ls hl
        refine lv_iload hx hb dX6_billed_38 (lv_at hl 0 rfl) ?_
        refine lv_bipush (v := 12) hx hb dX6_billed_40 (by decide) ?_
        refine lv_icmp_ge (tgt := 64) hx hb dX6_billed_42 (by decide) (fun _ => ?_) (fun c => absurd ((nI_leI (a := 12) (b := k) (by omega) (by omega)).mpr (by omega)) c)
        refine lv_aload_n hx hb dX6_billed_64 rfl (lv_at hl 2 rfl) ?_
        refine g_get S hK hP (i := 0) (by omega) mC0 rfl inlX6 0 (by decide) k_67 (v := .ref (a 1)) rfl dX6_billed_65 ?_
        refine lv_iload hx hb dX6_billed_68 (lv_at hl 1 rfl) ?_
        refine lv_iconst (v := 0) hx hb dX6_billed_70 (by decide) ?_
        refine r_callS S hK hP (c_X6_of l G (mP G a u1) (gA 8 a) (sN (u 1) 6) 0 trivial trivial ) (r_cs S k_221 k_219 k_220 k_5 q_X6_of ⟨Nat.le_of_ble_eq_true rfl, Nat.le_of_ble_eq_true rfl⟩ rfl rfl) rfl hl.1 rfl (Nat.le_of_ble_eq_true rfl) dX6_billed_71 ⟨Nat.zero_le _, Nat.zero_le _⟩ hS (fun _ h => h) (fun H locs hP _ _ hS => ?_)
        have hP : mP G a u1 H := hP
        refine r_top (v := nI (233 + 12 * (sN (u 1) 6) + 0)) rfl ?_
        refine lv_iload_n hx hb dX6_billed_74 rfl (lv_at hl 3 rfl) ?_
        refine g_astN S hK hP hI hS (i := 1) (by omega) mC1 (k := 233 + 12 * (sN (u 1) 6) + 0) (by omega) (by decide) dX6_billed_75 (fun H locs hP hS => ?_)
        have hP : mP G a (up u1 1 (233 + 12 * (sN (u 1) 6) + 0) (nI cu)) H := hP
        refine lv_aload_n hx hb dX6_billed_76 rfl (lv_at hl 2 rfl) ?_
        refine g_get S hK hP (i := 0) (by omega) mC0 rfl inlX6 0 (by decide) k_67 (v := .ref (a 1)) rfl dX6_billed_77 ?_
        refine lv_iload hx hb dX6_billed_80 (lv_at hl 1 rfl) ?_
        refine lv_iconst (v := 1) hx hb dX6_billed_82 (by decide) ?_
        refine r_callS S hK hP (c_X6_of l G (mP G a (up u1 1 (233 + 12 * (sN (u 1) 6) + 0) (nI cu))) (gA 8 a) (sN (u 1) 6) 1 trivial trivial ) (r_cs S k_221 k_219 k_220 k_5 q_X6_of ⟨Nat.le_of_ble_eq_true rfl, Nat.le_of_ble_eq_true rfl⟩ rfl rfl) rfl hl.1 rfl (Nat.le_of_ble_eq_true rfl) dX6_billed_83 ⟨Nat.zero_le _, Nat.zero_le _⟩ hS (fun _ h => h) (fun H locs hP _ _ hS => ?_)
        have hP : mP G a (up u1 1 (233 + 12 * (sN (u 1) 6) + 0) (nI cu)) H := hP
        refine r_top (v := nI (233 + 12 * (sN (u 1) 6) + 1)) rfl ?_
        refine lv_iload_n hx hb dX6_billed_86 rfl (lv_at hl 4 rfl) ?_
        refine g_astN S hK hP hI hS (i := 1) (by omega) mC1 (k := 233 + 12 * (sN (u 1) 6) + 1) (by omega) (by decide) dX6_billed_87 (fun H locs hP hS => ?_)
        have hP : mP G a (up (up u1 1 (233 + 12 * (sN (u 1) 6) + 0) (nI cu)) 1 (233 + 12 * (sN (u 1) 6) + 1) p2) H := hP
        refine lv_aload_n hx hb dX6_billed_88 rfl (lv_at hl 2 rfl) ?_
        refine g_get S hK hP (i := 0) (by omega) mC0 rfl inlX6 0 (by decide) k_67 (v := .ref (a 1)) rfl dX6_billed_89 ?_
        refine lv_iload hx hb dX6_billed_92 (lv_at hl 1 rfl) ?_
        refine lv_iconst (v := 2) hx hb dX6_billed_94 (by decide) ?_
        refine r_callS S hK hP (c_X6_of l G (mP G a (up (up u1 1 (233 + 12 * (sN (u 1) 6) + 0) (nI cu)) 1 (233 + 12 * (sN (u 1) 6) + 1) p2)) (gA 8 a) (sN (u 1) 6) 2 trivial trivial ) (r_cs S k_221 k_219 k_220 k_5 q_X6_of ⟨Nat.le_of_ble_eq_true rfl, Nat.le_of_ble_eq_true rfl⟩ rfl rfl) rfl hl.1 rfl (Nat.le_of_ble_eq_true rfl) dX6_billed_95 ⟨Nat.zero_le _, Nat.zero_le _⟩ hS (fun _ h => h) (fun H locs hP _ _ hS => ?_)
        have hP : mP G a (up (up u1 1 (233 + 12 * (sN (u 1) 6) + 0) (nI cu)) 1 (233 + 12 * (sN (u 1) 6) + 1) p2) H := hP
        refine r_top (v := nI (233 + 12 * (sN (u 1) 6) + 2)) rfl ?_
        refine lv_iload_n hx hb dX6_billed_98 rfl (lv_at hl 5 rfl) ?_
        refine g_astN S hK hP hI hS (i := 1) (by omega) mC1 (k := 233 + 12 * (sN (u 1) 6) + 2) (by omega) (by decide) dX6_billed_99 (fun H locs hP hS => ?_)
        have hP : mP G a (up (up (up u1 1 (233 + 12 * (sN (u 1) 6) + 0) (nI cu)) 1 (233 + 12 * (sN (u 1) 6) + 1) p2) 1 (233 + 12 * (sN (u 1) 6) + 2) p3) H := hP
        refine lv_aload_n hx hb dX6_billed_100 rfl (lv_at hl 2 rfl) ?_
        refine g_get S hK hP (i := 0) (by omega) mC0 rfl inlX6 0 (by decide) k_67 (v := .ref (a 1)) rfl dX6_billed_101 ?_
        refine lv_iload hx hb dX6_billed_104 (lv_at hl 1 rfl) ?_
        refine lv_iconst (v := 3) hx hb dX6_billed_106 (by decide) ?_
        refine r_callS S hK hP (c_X6_of l G (mP G a (up (up (up u1 1 (233 + 12 * (sN (u 1) 6) + 0) (nI cu)) 1 (233 + 12 * (sN (u 1) 6) + 1) p2) 1 (233 + 12 * (sN (u 1) 6) + 2) p3)) (gA 8 a) (sN (u 1) 6) 3 trivial trivial ) (r_cs S k_221 k_219 k_220 k_5 q_X6_of ⟨Nat.le_of_ble_eq_true rfl, Nat.le_of_ble_eq_true rfl⟩ rfl rfl) rfl hl.1 rfl (Nat.le_of_ble_eq_true rfl) dX6_billed_107 ⟨Nat.zero_le _, Nat.zero_le _⟩ hS (fun _ h => h) (fun H locs hP _ _ hS => ?_)
        have hP : mP G a (up (up (up u1 1 (233 + 12 * (sN (u 1) 6) + 0) (nI cu)) 1 (233 + 12 * (sN (u 1) 6) + 1) p2) 1 (233 + 12 * (sN (u 1) 6) + 2) p3) H := hP
        refine r_top (v := nI (233 + 12 * (sN (u 1) 6) + 3)) rfl ?_
        refine lv_aload_n hx hb dX6_billed_110 rfl (lv_at hl 2 rfl) ?_
        refine g_get S hK hP (i := 0) (by omega) mC0 rfl inlX6 0 (by decide) k_67 (v := .ref (a 1)) rfl dX6_billed_111 ?_
        refine lv_iconst (v := 0) hx hb dX6_billed_114 (by decide) ?_
        refine g_aldN S hK hP (i := 1) (by omega) mC1 (k := 0) (by omega) (by decide) (v := u1 1 0) ((up_nk (by omega)).trans ((up_nk (by omega)).trans ((up_nk (by omega)).trans rfl))) dX6_billed_115 ?_
        refine g_astN S hK hP hI hS (i := 1) (by omega) mC1 (k := 233 + 12 * (sN (u 1) 6) + 3) (by omega) (by decide) dX6_billed_116 (fun H locs hP hS => ?_)
        have hP : mP G a (up (up (up (up u1 1 (233 + 12 * (sN (u 1) 6) + 0) (nI cu)) 1 (233 + 12 * (sN (u 1) 6) + 1) p2) 1 (233 + 12 * (sN (u 1) 6) + 2) p3) 1 (233 + 12 * (sN (u 1) 6) + 3) (u1 1 0)) H := hP
        refine lv_aload_n hx hb dX6_billed_117 rfl (lv_at hl 2 rfl) ?_
        refine g_get S hK hP (i := 0) (by omega) mC0 rfl inlX6 0 (by decide) k_67 (v := .ref (a 1)) rfl dX6_billed_118 ?_
        refine lv_iload hx hb dX6_billed_121 (lv_at hl 1 rfl) ?_
        refine lv_iconst (v := 4) hx hb dX6_billed_123 (by decide) ?_
        refine r_callS S hK hP (c_X6_of l G (mP G a (up (up (up (up u1 1 (233 + 12 * (sN (u 1) 6) + 0) (nI cu)) 1 (233 + 12 * (sN (u 1) 6) + 1) p2) 1 (233 + 12 * (sN (u 1) 6) + 2) p3) 1 (233 + 12 * (sN (u 1) 6) + 3) (u1 1 0))) (gA 8 a) (sN (u 1) 6) 4 trivial trivial ) (r_cs S k_221 k_219 k_220 k_5 q_X6_of ⟨Nat.le_of_ble_eq_true rfl, Nat.le_of_ble_eq_true rfl⟩ rfl rfl) rfl hl.1 rfl (Nat.le_of_ble_eq_true rfl) dX6_billed_124 ⟨Nat.zero_le _, Nat.zero_le _⟩ hS (fun _ h => h) (fun H locs hP _ _ hS => ?_)
        have hP : mP G a (up (up (up (up u1 1 (233 + 12 * (sN (u 1) 6) + 0) (nI cu)) 1 (233 + 12 * (sN (u 1) 6) + 1) p2) 1 (233 + 12 * (sN (u 1) 6) + 2) p3) 1 (233 + 12 * (sN (u 1) 6) + 3) (u1 1 0)) H := hP
        refine r_top (v := nI (233 + 12 * (sN (u 1) 6) + 4)) rfl ?_
        refine lv_iload hx hb dX6_billed_127 (lv_at hl 6 rfl) ?_
        refine g_astN S hK hP hI hS (i := 1) (by omega) mC1 (k := 233 + 12 * (sN (u 1) 6) + 4) (by omega) (by decide) dX6_billed_129 (fun H locs hP hS => ?_)
        have hP : mP G a (up (up (up (up (up u1 1 (233 + 12 * (sN (u 1) 6) + 0) (nI cu)) 1 (233 + 12 * (sN (u 1) 6) + 1) p2) 1 (233 + 12 * (sN (u 1) 6) + 2) p3) 1 (233 + 12 * (sN (u 1) 6) + 3) (u1 1 0)) 1 (233 + 12 * (sN (u 1) 6) + 4) p4) H := hP
        refine lv_aload_n hx hb dX6_billed_130 rfl (lv_at hl 2 rfl) ?_
        refine g_get S hK hP (i := 0) (by omega) mC0 rfl inlX6 0 (by decide) k_67 (v := .ref (a 1)) rfl dX6_billed_131 ?_
        refine lv_iload hx hb dX6_billed_134 (lv_at hl 1 rfl) ?_
        refine lv_bipush (v := 11) hx hb dX6_billed_136 (by decide) ?_
        refine r_callS S hK hP (c_X6_of l G (mP G a (up (up (up (up (up u1 1 (233 + 12 * (sN (u 1) 6) + 0) (nI cu)) 1 (233 + 12 * (sN (u 1) 6) + 1) p2) 1 (233 + 12 * (sN (u 1) 6) + 2) p3) 1 (233 + 12 * (sN (u 1) 6) + 3) (u1 1 0)) 1 (233 + 12 * (sN (u 1) 6) + 4) p4)) (gA 8 a) (sN (u 1) 6) 11 trivial trivial ) (r_cs S k_221 k_219 k_220 k_5 q_X6_of ⟨Nat.le_of_ble_eq_true rfl, Nat.le_of_ble_eq_true rfl⟩ rfl rfl) rfl hl.1 rfl (Nat.le_of_ble_eq_true rfl) dX6_billed_138 ⟨Nat.zero_le _, Nat.zero_le _⟩ hS (fun _ h => h) (fun H locs hP _ _ hS => ?_)
        have hP : mP G a (up (up (up (up (up u1 1 (233 + 12 * (sN (u 1) 6) + 0) (nI cu)) 1 (233 + 12 * (sN (u 1) 6) + 1) p2) 1 (233 + 12 * (sN (u 1) 6) + 2) p3) 1 (233 + 12 * (sN (u 1) 6) + 3) (u1 1 0)) 1 (233 + 12 * (sN (u 1) 6) + 4) p4) H := hP
        refine r_top (v := nI (233 + 12 * (sN (u 1) 6) + 11)) rfl ?_
        refine lv_bipush (v := -5) hx hb dX6_billed_141 (by decide) ?_
        refine g_astN S hK hP hI hS (i := 1) (by omega) mC1 (k := 233 + 12 * (sN (u 1) 6) + 11) (by omega) (by decide) dX6_billed_143 (fun H locs hP hS => ?_)
        have hP : mP G a (up (up (up (up (up (up u1 1 (233 + 12 * (sN (u 1) 6) + 0) (nI cu)) 1 (233 + 12 * (sN (u 1) 6) + 1) p2) 1 (233 + 12 * (sN (u 1) 6) + 2) p3) 1 (233 + 12 * (sN (u 1) 6) + 3) (u1 1 0)) 1 (233 + 12 * (sN (u 1) 6) + 4) p4) 1 (233 + 12 * (sN (u 1) 6) + 11) (-5 : Int32)) H := hP
        refine lv_aload_n hx hb dX6_billed_144 rfl (lv_at hl 2 rfl) ?_
        refine g_get S hK hP (i := 0) (by omega) mC0 rfl inlX6 0 (by decide) k_67 (v := .ref (a 1)) rfl dX6_billed_145 ?_
        refine lv_bipush (v := 9) hx hb dX6_billed_148 (by decide) ?_
        refine lv_iload_n hx hb dX6_billed_150 rfl (lv_at hl 3 rfl) ?_
        refine lv_iadd hx hb dX6_billed_151 ?_
        refine r_top (v := nI (9 + cu)) (nI_add 9 cu) ?_
        refine g_aldN S hK hP (i := 1) (by omega) mC1 (k := 9 + cu) (by omega) (by decide) (v := u1 1 (9 + cu)) ((up_nk (by omega)).trans ((up_nk (by omega)).trans ((up_nk (by omega)).trans ((up_nk (by omega)).trans ((up_nk (by omega)).trans ((up_nk (by omega)).trans rfl)))))) dX6_billed_152 ?_
        refine lv_if_le (tgt := 183) hx hb dX6_billed_153 (by decide) (fun c2 => ?_) (fun c2 => ?_)
        · skip
          refine lv_iload hx hb dX6_billed_183 (lv_at hl 1 rfl) ?_
          exact e_int S hr hlk rfl hK hS (gP_eq (show w_X6_billed_loop u cu p2 p3 p4 0 k u1 = up (up (up (up (up (up u1 1 (233 + 12 * (sN (u 1) 6) + 0) (nI cu)) 1 (233 + 12 * (sN (u 1) 6) + 1) p2) 1 (233 + 12 * (sN (u 1) 6) + 2) p3) 1 (233 + 12 * (sN (u 1) 6) + 3) (u1 1 0)) 1 (233 + 12 * (sN (u 1) 6) + 4) p4) 1 (233 + 12 * (sN (u 1) 6) + 11) (-5 : Int32) from (if_pos c2).trans rfl) hP) (show v_X6_billed_loop u cu p2 p3 p4 0 k u1 = nI (sN (u 1) 6) from (if_pos c2).trans rfl).symm dX6_billed_185
        · skip
          refine lv_aload_n hx hb dX6_billed_156 rfl (lv_at hl 2 rfl) ?_
          refine g_get S hK hP (i := 0) (by omega) mC0 rfl inlX6 0 (by decide) k_67 (v := .ref (a 1)) rfl dX6_billed_157 ?_
          refine lv_bipush (v := 9) hx hb dX6_billed_160 (by decide) ?_
          refine lv_iload_n hx hb dX6_billed_162 rfl (lv_at hl 3 rfl) ?_
          refine lv_iadd hx hb dX6_billed_163 ?_
          refine r_top (v := nI (9 + cu)) (nI_add 9 cu) ?_
          refine lv_dup2_11 hx hb dX6_billed_164 rfl rfl ?_
          refine g_aldN S hK hP (i := 1) (by omega) mC1 (k := 9 + cu) (by omega) (by decide) (v := u1 1 (9 + cu)) ((up_nk (by omega)).trans ((up_nk (by omega)).trans ((up_nk (by omega)).trans ((up_nk (by omega)).trans ((up_nk (by omega)).trans ((up_nk (by omega)).trans rfl)))))) dX6_billed_165 ?_
          refine lv_aload_n hx hb dX6_billed_166 rfl (lv_at hl 2 rfl) ?_
          refine lv_iload hx hb dX6_billed_167 (lv_at hl 1 rfl) ?_
          refine lv_aload_n hx hb dX6_billed_169 rfl (lv_at hl 2 rfl) ?_
          refine g_get S hK hP (i := 0) (by omega) mC0 rfl inlX6 0 (by decide) k_67 (v := .ref (a 1)) rfl dX6_billed_170 ?_
          refine lv_bipush (v := 9) hx hb dX6_billed_173 (by decide) ?_
          refine lv_iload_n hx hb dX6_billed_175 rfl (lv_at hl 3 rfl) ?_
          refine lv_iadd hx hb dX6_billed_176 ?_
          refine r_top (v := nI (9 + cu)) (nI_add 9 cu) ?_
          refine g_aldN S hK hP (i := 1) (by omega) mC1 (k := 9 + cu) (by omega) (by decide) (v := u1 1 (9 + cu)) ((up_nk (by omega)).trans ((up_nk (by omega)).trans ((up_nk (by omega)).trans ((up_nk (by omega)).trans ((up_nk (by omega)).trans ((up_nk (by omega)).trans rfl)))))) dX6_billed_177 ?_
          refine r_callI S hK hP (c_X6_takesOf l G a hI (up (up (up (up (up (up u1 1 (233 + 12 * (sN (u 1) 6) + 0) (nI cu)) 1 (233 + 12 * (sN (u 1) 6) + 1) p2) 1 (233 + 12 * (sN (u 1) 6) + 2) p3) 1 (233 + 12 * (sN (u 1) 6) + 3) (u1 1 0)) 1 (233 + 12 * (sN (u 1) 6) + 4) p4) 1 (233 + 12 * (sN (u 1) 6) + 11) (-5 : Int32)) (sN (u 1) 6) (by omega) _ (SI_six hm1 hbl hcu hrt)) (r_cw S k_225 k_222 k_223 k_224 k_5 q_X6_takesOf ⟨Nat.le_of_ble_eq_true rfl, Nat.le_of_ble_eq_true rfl⟩ rfl rfl) (g_recv hK hP (i := 0) (by omega) mC0 rfl) rfl hl.1 rfl (Nat.le_of_ble_eq_true rfl) dX6_billed_178 ⟨Nat.zero_le _, Nat.zero_le _⟩ hS (fun _ h => h) (fun H locs hP _ _ hS => ?_)
          have hP : mP G a (w_X6_takesOf (up (up (up (up (up (up u1 1 (233 + 12 * (sN (u 1) 6) + 0) (nI cu)) 1 (233 + 12 * (sN (u 1) 6) + 1) p2) 1 (233 + 12 * (sN (u 1) 6) + 2) p3) 1 (233 + 12 * (sN (u 1) 6) + 3) (u1 1 0)) 1 (233 + 12 * (sN (u 1) 6) + 4) p4) 1 (233 + 12 * (sN (u 1) 6) + 11) (-5 : Int32)) (sN (u 1) 6) (u1 1 (9 + cu))) H := hP
          refine lv_isub hx hb dX6_billed_181 ?_
          refine g_astN S hK hP hI hS (i := 1) (by omega) mC1 (k := 9 + cu) (by omega) (by decide) dX6_billed_182 (fun H locs hP hS => ?_)
          have hP : mP G a (up (w_X6_takesOf (up (up (up (up (up (up u1 1 (233 + 12 * (sN (u 1) 6) + 0) (nI cu)) 1 (233 + 12 * (sN (u 1) 6) + 1) p2) 1 (233 + 12 * (sN (u 1) 6) + 2) p3) 1 (233 + 12 * (sN (u 1) 6) + 3) (u1 1 0)) 1 (233 + 12 * (sN (u 1) 6) + 4) p4) 1 (233 + 12 * (sN (u 1) 6) + 11) (-5 : Int32)) (sN (u 1) 6) (u1 1 (9 + cu))) 1 (9 + cu) ((u1 1 (9 + cu)) - (v_X6_takesOf (up (up (up (up (up (up u1 1 (233 + 12 * (sN (u 1) 6) + 0) (nI cu)) 1 (233 + 12 * (sN (u 1) 6) + 1) p2) 1 (233 + 12 * (sN (u 1) 6) + 2) p3) 1 (233 + 12 * (sN (u 1) 6) + 3) (u1 1 0)) 1 (233 + 12 * (sN (u 1) 6) + 4) p4) 1 (233 + 12 * (sN (u 1) 6) + 11) (-5 : Int32)) (sN (u 1) 6) (u1 1 (9 + cu))))) H := hP
          refine lv_iload hx hb dX6_billed_183 (lv_at hl 1 rfl) ?_
          exact e_int S hr hlk rfl hK hS (gP_eq (show w_X6_billed_loop u cu p2 p3 p4 0 k u1 = up (w_X6_takesOf (up (up (up (up (up (up u1 1 (233 + 12 * (sN (u 1) 6) + 0) (nI cu)) 1 (233 + 12 * (sN (u 1) 6) + 1) p2) 1 (233 + 12 * (sN (u 1) 6) + 2) p3) 1 (233 + 12 * (sN (u 1) 6) + 3) (u1 1 0)) 1 (233 + 12 * (sN (u 1) 6) + 4) p4) 1 (233 + 12 * (sN (u 1) 6) + 11) (-5 : Int32)) (sN (u 1) 6) (u1 1 (9 + cu))) 1 (9 + cu) ((u1 1 (9 + cu)) - (v_X6_takesOf (up (up (up (up (up (up u1 1 (233 + 12 * (sN (u 1) 6) + 0) (nI cu)) 1 (233 + 12 * (sN (u 1) 6) + 1) p2) 1 (233 + 12 * (sN (u 1) 6) + 2) p3) 1 (233 + 12 * (sN (u 1) 6) + 3) (u1 1 0)) 1 (233 + 12 * (sN (u 1) 6) + 4) p4) 1 (233 + 12 * (sN (u 1) 6) + 11) (-5 : Int32)) (sN (u 1) 6) (u1 1 (9 + cu)))) from (if_neg c2).trans rfl) hP) (show v_X6_billed_loop u cu p2 p3 p4 0 k u1 = nI (sN (u 1) 6) from (if_neg c2).trans rfl).symm dX6_billed_185
      | succ n ih_LP_loop =>
        intro k hk_LP_loop u1 H locs hP hS hm1 ls hl
        refine lv_iload hx hb dX6_billed_38 (lv_at hl 0 rfl) ?_
        refine lv_bipush (v := 12) hx hb dX6_billed_40 (by decide) ?_
        refine lv_icmp_ge (tgt := 64) hx hb dX6_billed_42 (by decide) (fun c => absurd c (fun z => absurd ((nI_leI (a := 12) (b := k) (by omega) (by omega)).mp z) (by omega))) (fun _ => ?_)
        refine lv_aload_n hx hb dX6_billed_45 rfl (lv_at hl 2 rfl) ?_
        refine g_get S hK hP (i := 0) (by omega) mC0 rfl inlX6 0 (by decide) k_67 (v := .ref (a 1)) rfl dX6_billed_46 ?_
        refine lv_iload hx hb dX6_billed_49 (lv_at hl 1 rfl) ?_
        refine lv_iload hx hb dX6_billed_51 (lv_at hl 0 rfl) ?_
        refine r_callS S hK hP (c_X6_of l G (mP G a u1) (gA 8 a) (sN (u 1) 6) k trivial trivial ) (r_cs S k_221 k_219 k_220 k_5 q_X6_of ⟨Nat.le_of_ble_eq_true rfl, Nat.le_of_ble_eq_true rfl⟩ rfl rfl) rfl hl.1 rfl (Nat.le_of_ble_eq_true rfl) dX6_billed_53 ⟨Nat.zero_le _, Nat.zero_le _⟩ hS (fun _ h => h) (fun H locs hP _ _ hS => ?_)
        have hP : mP G a u1 H := hP
        refine r_top (v := nI (233 + 12 * (sN (u 1) 6) + k)) rfl ?_
        refine lv_iconst (v := 0) hx hb dX6_billed_56 (by decide) ?_
        refine g_astN S hK hP hI hS (i := 1) (by omega) mC1 (k := 233 + 12 * (sN (u 1) 6) + k) (by omega) (by decide) dX6_billed_57 (fun H locs hP hS => ?_)
        have hP : mP G a (up u1 1 (233 + 12 * (sN (u 1) 6) + k) (0 : Int32)) H := hP
        refine lv_iinc (v := nI (k + 1)) (lv' := [(6, .int (nI (k + 1))), (5, .int (nI (sN (u 1) 6))), (0, .ref (a 0)), (1, .int (nI cu)), (2, .int p2), (3, .int p3), (4, .int p4)]) hx hb dX6_billed_58 hl (k := 0) rfl (nI_1 _) (by decide) rfl (fun ls hl => ?_)
        refine lv_goto (tgt := 38) hx hb dX6_billed_61 (by decide) ?_
        refine q_eqI (show v_X6_billed_loop u cu p2 p3 p4 (n + 1) k u1 = v_X6_billed_loop u cu p2 p3 p4 n (k + 1) (up u1 1 (233 + 12 * (sN (u 1) 6) + k) (0 : Int32)) from rfl) (show w_X6_billed_loop u cu p2 p3 p4 (n + 1) k u1 = w_X6_billed_loop u cu p2 p3 p4 n (k + 1) (up u1 1 (233 + 12 * (sN (u 1) 6) + k) (0 : Int32)) from rfl) ?_
        exact ih_LP_loop (k + 1) (by omega) _ _ _ hP hS (SI_zero hm1 (by omega)) ls (lv_sub hl [0, 1, 2, 3, 4, 5, 6] rfl)
    refine q_eqI (show v_X6_billed u cu p2 p3 p4 = v_X6_billed_loop u cu p2 p3 p4 12 0 (up u 1 6 ((u 1 6) + (1 : Int32))) from (if_neg c1).trans rfl) (show w_X6_billed u cu p2 p3 p4 = w_X6_billed_loop u cu p2 p3 p4 12 0 (up u 1 6 ((u 1 6) + (1 : Int32))) from (if_neg c1).trans rfl) ?_
    exact LP_loop 12 0 (by omega) _ _ _ hP hS (SI_inc hm hbl) ls (lv_sub hl [0, 1, 2, 3, 4, 5, 6] rfl)
  · skip
    refine lv_bipush (v := -3) hx hb dX6_billed_12 (by decide) ?_
    exact e_int S hr hlk rfl hK hS (gP_eq (show w_X6_billed u cu p2 p3 p4 = u from (if_pos c1).trans rfl) hP) (show v_X6_billed u cu p2 p3 p4 = (-3 : Int32) from (if_pos c1).trans rfl).symm dX6_billed_14

def v_X6_paidOn (u : Nat → Nat → Int32) (j : Nat) (p2 : Int32) : Int32 := v_X6_owedOn (up (up (w_X6_takesOf u j p2) 1 (9 + sN (u 1) (233 + 12 * j + 0)) ((u 1 (9 + sN (u 1) (233 + 12 * j + 0))) + (p2 - (v_X6_takesOf u j p2)))) 1 (17 + sN (u 1) (233 + 12 * j + 0)) (((w_X6_takesOf u j p2) 1 (17 + sN (u 1) (233 + 12 * j + 0))) + p2)) j
def w_X6_paidOn (u : Nat → Nat → Int32) (j : Nat) (p2 : Int32) : Nat → Nat → Int32 := up (up (w_X6_takesOf u j p2) 1 (9 + sN (u 1) (233 + 12 * j + 0)) ((u 1 (9 + sN (u 1) (233 + 12 * j + 0))) + (p2 - (v_X6_takesOf u j p2)))) 1 (17 + sN (u 1) (233 + 12 * j + 0)) (((w_X6_takesOf u j p2) 1 (17 + sN (u 1) (233 + 12 * j + 0))) + p2)
theorem q_X6_paidOn : yX6_paidOn.cls ≠ "java/lang/invoke/MethodHandle" ∧ yX6_paidOn.cls ≠ "java/lang/invoke/VarHandle" ∧ (parseMethodDescriptor yX6_paidOn.desc).map (fun d => d.parameters.length) = some 2 := ⟨by decide, by decide, by decide +kernel⟩
set_option maxHeartbeats 4000000 in
set_option maxRecDepth 100000 in
theorem c_X6_paidOn (l : Launch) (G : kG) (a : Nat → Nat) (hI : gI 8 a) (u : Nat → Nat → Int32) (j : Nat) (hj : j < 40) (p2 : Int32) (hm : SI (u 1)) : Met l yX6_paidOn (Cond.code yX6_paidOn cX6_paidOn 4 (some .int) :: BIG) (rmK 6) (pcG G (mP G a u) [.ref (a 0), .int (nI j), .int p2]) (qcI G (gA 8 a) (mP G a (w_X6_paidOn u j p2)) (v_X6_paidOn u j p2)) 0 0 (gA 8 a) := by
  refine m_start (by decide) (Nat.le_of_ble_eq_true rfl) ?_
  have hcu := SI_cu2 hm hj
  intro p e s m args below meth c S hr hlk hnm hP hK ls hl
  have hx := S.1
  have hb := S.2.1
  have hown := S.2.2.2.1
  have hS : va_S (gA 8 a) s.heap s.heap [] := va_S.rf
  have hl : lv_has ls 4 [(0, .ref (a 0)), (1, .int (nI j)), (2, .int p2)] := hl
  refine lv_aload_n hx hb dX6_paidOn_0 rfl (lv_at hl 0 rfl) ?_
  refine g_get S hK hP (i := 0) (by omega) mC0 rfl inlX6 0 (by decide) k_67 (v := .ref (a 1)) rfl dX6_paidOn_1 ?_
  refine lv_iload_n hx hb dX6_paidOn_4 rfl (lv_at hl 1 rfl) ?_
  refine lv_iconst (v := 0) hx hb dX6_paidOn_5 (by decide) ?_
  refine r_callS S hK hP (c_X6_of l G (mP G a u) (gA 8 a) j 0 trivial trivial ) (r_cs S k_221 k_219 k_220 k_5 q_X6_of ⟨Nat.le_of_ble_eq_true rfl, Nat.le_of_ble_eq_true rfl⟩ rfl rfl) rfl hl.1 rfl (Nat.le_of_ble_eq_true rfl) dX6_paidOn_6 ⟨Nat.zero_le _, Nat.zero_le _⟩ hS (fun _ h => h) (fun H locs hP _ _ hS => ?_)
  have hP : mP G a u H := hP
  refine r_top (v := nI (233 + 12 * j + 0)) rfl ?_
  refine g_aldN S hK hP (i := 1) (by omega) mC1 (k := 233 + 12 * j + 0) (by omega) (by decide) (v := u 1 (233 + 12 * j + 0)) (rfl) dX6_paidOn_9 ?_
  refine r_top (v := nI (sN (u 1) (233 + 12 * j + 0))) (SI_cu hm hj) ?_
  refine lv_istore_n (lv' := [(3, .int (nI (sN (u 1) (233 + 12 * j + 0)))), (0, .ref (a 0)), (1, .int (nI j)), (2, .int p2)]) hx hb dX6_paidOn_10 rfl hl (by decide) rfl (fun ls hl => ?_)
  refine lv_aload_n hx hb dX6_paidOn_11 rfl (lv_at hl 1 rfl) ?_
  refine g_get S hK hP (i := 0) (by omega) mC0 rfl inlX6 0 (by decide) k_67 (v := .ref (a 1)) rfl dX6_paidOn_12 ?_
  refine lv_bipush (v := 9) hx hb dX6_paidOn_15 (by decide) ?_
  refine lv_iload_n hx hb dX6_paidOn_17 rfl (lv_at hl 0 rfl) ?_
  refine lv_iadd hx hb dX6_paidOn_18 ?_
  refine r_top (v := nI (9 + sN (u 1) (233 + 12 * j + 0))) (nI_add 9 (sN (u 1) (233 + 12 * j + 0))) ?_
  refine lv_dup2_11 hx hb dX6_paidOn_19 rfl rfl ?_
  refine g_aldN S hK hP (i := 1) (by omega) mC1 (k := 9 + sN (u 1) (233 + 12 * j + 0)) (by omega) (by decide) (v := u 1 (9 + sN (u 1) (233 + 12 * j + 0))) (rfl) dX6_paidOn_20 ?_
  refine lv_iload_n hx hb dX6_paidOn_21 rfl (lv_at hl 3 rfl) ?_
  refine lv_aload_n hx hb dX6_paidOn_22 rfl (lv_at hl 1 rfl) ?_
  refine lv_iload_n hx hb dX6_paidOn_23 rfl (lv_at hl 2 rfl) ?_
  refine lv_iload_n hx hb dX6_paidOn_24 rfl (lv_at hl 3 rfl) ?_
  refine r_callI S hK hP (c_X6_takesOf l G a hI u j (by omega) _ hm) (r_cw S k_225 k_222 k_223 k_224 k_5 q_X6_takesOf ⟨Nat.le_of_ble_eq_true rfl, Nat.le_of_ble_eq_true rfl⟩ rfl rfl) (g_recv hK hP (i := 0) (by omega) mC0 rfl) rfl hl.1 rfl (Nat.le_of_ble_eq_true rfl) dX6_paidOn_25 ⟨Nat.zero_le _, Nat.zero_le _⟩ hS (fun _ h => h) (fun H locs hP _ _ hS => ?_)
  have hP : mP G a (w_X6_takesOf u j p2) H := hP
  refine lv_isub hx hb dX6_paidOn_28 ?_
  refine lv_iadd hx hb dX6_paidOn_29 ?_
  refine g_astN S hK hP hI hS (i := 1) (by omega) mC1 (k := 9 + sN (u 1) (233 + 12 * j + 0)) (by omega) (by decide) dX6_paidOn_30 (fun H locs hP hS => ?_)
  have hP : mP G a (up (w_X6_takesOf u j p2) 1 (9 + sN (u 1) (233 + 12 * j + 0)) ((u 1 (9 + sN (u 1) (233 + 12 * j + 0))) + (p2 - (v_X6_takesOf u j p2)))) H := hP
  refine lv_aload_n hx hb dX6_paidOn_31 rfl (lv_at hl 1 rfl) ?_
  refine g_get S hK hP (i := 0) (by omega) mC0 rfl inlX6 0 (by decide) k_67 (v := .ref (a 1)) rfl dX6_paidOn_32 ?_
  refine lv_bipush (v := 17) hx hb dX6_paidOn_35 (by decide) ?_
  refine lv_iload_n hx hb dX6_paidOn_37 rfl (lv_at hl 0 rfl) ?_
  refine lv_iadd hx hb dX6_paidOn_38 ?_
  refine r_top (v := nI (17 + sN (u 1) (233 + 12 * j + 0))) (nI_add 17 (sN (u 1) (233 + 12 * j + 0))) ?_
  refine lv_dup2_11 hx hb dX6_paidOn_39 rfl rfl ?_
  refine g_aldN S hK hP (i := 1) (by omega) mC1 (k := 17 + sN (u 1) (233 + 12 * j + 0)) (by omega) (by decide) (v := (w_X6_takesOf u j p2) 1 (17 + sN (u 1) (233 + 12 * j + 0))) ((up_nk (by omega)).trans rfl) dX6_paidOn_40 ?_
  refine lv_iload_n hx hb dX6_paidOn_41 rfl (lv_at hl 3 rfl) ?_
  refine lv_iadd hx hb dX6_paidOn_42 ?_
  refine g_astN S hK hP hI hS (i := 1) (by omega) mC1 (k := 17 + sN (u 1) (233 + 12 * j + 0)) (by omega) (by decide) dX6_paidOn_43 (fun H locs hP hS => ?_)
  have hP : mP G a (up (up (w_X6_takesOf u j p2) 1 (9 + sN (u 1) (233 + 12 * j + 0)) ((u 1 (9 + sN (u 1) (233 + 12 * j + 0))) + (p2 - (v_X6_takesOf u j p2)))) 1 (17 + sN (u 1) (233 + 12 * j + 0)) (((w_X6_takesOf u j p2) 1 (17 + sN (u 1) (233 + 12 * j + 0))) + p2)) H := hP
  refine lv_aload_n hx hb dX6_paidOn_44 rfl (lv_at hl 1 rfl) ?_
  refine lv_iload_n hx hb dX6_paidOn_45 rfl (lv_at hl 2 rfl) ?_
  refine r_callI S hK hP (c_X6_owedOn l G a hI (up (up (w_X6_takesOf u j p2) 1 (9 + sN (u 1) (233 + 12 * j + 0)) ((u 1 (9 + sN (u 1) (233 + 12 * j + 0))) + (p2 - (v_X6_takesOf u j p2)))) 1 (17 + sN (u 1) (233 + 12 * j + 0)) (((w_X6_takesOf u j p2) 1 (17 + sN (u 1) (233 + 12 * j + 0))) + p2)) j (by omega) ) (r_cw S k_245 k_242 k_243 k_244 k_5 q_X6_owedOn ⟨Nat.le_of_ble_eq_true rfl, Nat.le_of_ble_eq_true rfl⟩ rfl rfl) (g_recv hK hP (i := 0) (by omega) mC0 rfl) rfl hl.1 rfl (Nat.le_of_ble_eq_true rfl) dX6_paidOn_46 ⟨Nat.zero_le _, Nat.zero_le _⟩ hS (fun _ h => h) (fun H locs hP _ _ hS => ?_)
  have hP : mP G a (up (up (w_X6_takesOf u j p2) 1 (9 + sN (u 1) (233 + 12 * j + 0)) ((u 1 (9 + sN (u 1) (233 + 12 * j + 0))) + (p2 - (v_X6_takesOf u j p2)))) 1 (17 + sN (u 1) (233 + 12 * j + 0)) (((w_X6_takesOf u j p2) 1 (17 + sN (u 1) (233 + 12 * j + 0))) + p2)) H := hP
  exact e_int S hr hlk rfl hK hS (gP_eq (show w_X6_paidOn u j p2 = up (up (w_X6_takesOf u j p2) 1 (9 + sN (u 1) (233 + 12 * j + 0)) ((u 1 (9 + sN (u 1) (233 + 12 * j + 0))) + (p2 - (v_X6_takesOf u j p2)))) 1 (17 + sN (u 1) (233 + 12 * j + 0)) (((w_X6_takesOf u j p2) 1 (17 + sN (u 1) (233 + 12 * j + 0))) + p2) from rfl) hP) (show v_X6_paidOn u j p2 = v_X6_owedOn (up (up (w_X6_takesOf u j p2) 1 (9 + sN (u 1) (233 + 12 * j + 0)) ((u 1 (9 + sN (u 1) (233 + 12 * j + 0))) + (p2 - (v_X6_takesOf u j p2)))) 1 (17 + sN (u 1) (233 + 12 * j + 0)) (((w_X6_takesOf u j p2) 1 (17 + sN (u 1) (233 + 12 * j + 0))) + p2)) j from rfl).symm dX6_paidOn_49

def v_X6_reminds_loop : Nat → Nat → (Nat → Nat → Int32) → Int32 → Int32
  | 0, k, u1, x1 => x1
  | n + 1, k, u1, x1 => if v_X6_why u1 k = 0 then (v_X6_reminds_loop n (k + 1) (up (up (up u1 1 (233 + 12 * k + 8) ((u1 1 (233 + 12 * k + 8)) + ((u1 1 (233 + 12 * k + 9)) * (u1 1 4)))) 1 (233 + 12 * k + 9) ((u1 1 (233 + 12 * k + 9)) + (1 : Int32))) 1 (233 + 12 * k + 10) (u1 1 0)) (x1 + 1)) else v_X6_reminds_loop n (k + 1) u1 x1
def w_X6_reminds_loop : Nat → Nat → (Nat → Nat → Int32) → Int32 → (Nat → Nat → Int32)
  | 0, k, u1, x1 => u1
  | n + 1, k, u1, x1 => if v_X6_why u1 k = 0 then (w_X6_reminds_loop n (k + 1) (up (up (up u1 1 (233 + 12 * k + 8) ((u1 1 (233 + 12 * k + 8)) + ((u1 1 (233 + 12 * k + 9)) * (u1 1 4)))) 1 (233 + 12 * k + 9) ((u1 1 (233 + 12 * k + 9)) + (1 : Int32))) 1 (233 + 12 * k + 10) (u1 1 0)) (x1 + 1)) else w_X6_reminds_loop n (k + 1) u1 x1
def v_X6_reminds (u : Nat → Nat → Int32) : Int32 := v_X6_reminds_loop (sN (u 1) 6) 0 u (0 : Int32)
def w_X6_reminds (u : Nat → Nat → Int32) : Nat → Nat → Int32 := w_X6_reminds_loop (sN (u 1) 6) 0 u (0 : Int32)
theorem q_X6_reminds : yX6_reminds.cls ≠ "java/lang/invoke/MethodHandle" ∧ yX6_reminds.cls ≠ "java/lang/invoke/VarHandle" ∧ (parseMethodDescriptor yX6_reminds.desc).map (fun d => d.parameters.length) = some 0 := ⟨by decide, by decide, by decide +kernel⟩
set_option maxHeartbeats 4000000 in
set_option maxRecDepth 100000 in
theorem c_X6_reminds (l : Launch) (G : kG) (a : Nat → Nat) (hI : gI 8 a) (u : Nat → Nat → Int32) (hm : SI (u 1)) : Met l yX6_reminds (Cond.code yX6_reminds cX6_reminds 3 (some .int) :: BIG) (rmK 4) (pcG G (mP G a u) [.ref (a 0)]) (qcI G (gA 8 a) (mP G a (w_X6_reminds u)) (v_X6_reminds u)) 0 0 (gA 8 a) := by
  refine m_start (by decide) (Nat.le_of_ble_eq_true rfl) ?_
  intro p e s m args below meth c S hr hlk hnm hP hK ls hl
  have hx := S.1
  have hb := S.2.1
  have hown := S.2.2.2.1
  have hS : va_S (gA 8 a) s.heap s.heap [] := va_S.rf
  have hl : lv_has ls 3 [(0, .ref (a 0))] := hl
  refine lv_iconst (v := 0) hx hb dX6_reminds_0 (by decide) ?_
  refine lv_istore_n (lv' := [(1, .int (0 : Int32)), (0, .ref (a 0))]) hx hb dX6_reminds_1 rfl hl (by decide) rfl (fun ls hl => ?_)
  refine lv_iconst (v := 0) hx hb dX6_reminds_2 (by decide) ?_
  refine lv_istore_n (lv' := [(2, .int (0 : Int32)), (1, .int (0 : Int32)), (0, .ref (a 0))]) hx hb dX6_reminds_3 rfl hl (by decide) rfl (fun ls hl => ?_)
  have LP_loop : ∀ (n : Nat) (k : Nat), True → ∀ (u1 : Nat → Nat → Int32) (x1 : Int32) (H : Heap) (locs : List Loc), mP G a u1 H → va_S (gA 8 a) s.heap H locs → SI (u1 1) → k + n = sN (u1 1) 6 → ∀ ls : Array Slot, lv_has ls 3 [(2, .int (nI k)), (1, .int x1), (0, .ref (a 0))] → W p l e (rmK 4) s m args below meth c H locs 0 0 (MQ below (qcI G (gA 8 a) (mP G a (w_X6_reminds_loop n k u1 x1)) (v_X6_reminds_loop n k u1 x1)) args s 0 0 (gA 8 a)) (F0 m 4 ls []) := by
    intro n
    induction n with
    | zero =>
      intro k hk_LP_loop u1 x1 H locs hP hS hm1 hk1 ls hl
      have hnb1 := SI_nb2 hm1
      refine lv_iload_n hx hb dX6_reminds_4 rfl (lv_at hl 0 rfl) ?_
      refine lv_aload_n hx hb dX6_reminds_5 rfl (lv_at hl 2 rfl) ?_
      refine g_get S hK hP (i := 0) (by omega) mC0 rfl inlX6 0 (by decide) k_67 (v := .ref (a 1)) rfl dX6_reminds_6 ?_
      refine lv_bipush (v := 6) hx hb dX6_reminds_9 (by decide) ?_
      refine g_aldN S hK hP (i := 1) (by omega) mC1 (k := 6) (by omega) (by decide) (v := u1 1 6) (rfl) dX6_reminds_11 ?_
      refine r_top (v := nI (sN (u1 1) 6)) (SI_nb hm1) ?_
      refine lv_icmp_ge (tgt := 96) hx hb dX6_reminds_12 (by decide) (fun _ => ?_) (fun c => absurd ((nI_leI (a := (sN (u1 1) 6)) (b := k) (by omega) (by omega)).mpr (by omega)) c)
      refine lv_iload_n hx hb dX6_reminds_96 rfl (lv_at hl 1 rfl) ?_
      exact e_int S hr hlk rfl hK hS (gP_eq (show w_X6_reminds_loop 0 k u1 x1 = u1 from rfl) hP) (show v_X6_reminds_loop 0 k u1 x1 = x1 from rfl).symm dX6_reminds_97
    | succ n ih_LP_loop =>
      intro k hk_LP_loop u1 x1 H locs hP hS hm1 hk1 ls hl
      have hnb1 := SI_nb2 hm1
      refine lv_iload_n hx hb dX6_reminds_4 rfl (lv_at hl 0 rfl) ?_
      refine lv_aload_n hx hb dX6_reminds_5 rfl (lv_at hl 2 rfl) ?_
      refine g_get S hK hP (i := 0) (by omega) mC0 rfl inlX6 0 (by decide) k_67 (v := .ref (a 1)) rfl dX6_reminds_6 ?_
      refine lv_bipush (v := 6) hx hb dX6_reminds_9 (by decide) ?_
      refine g_aldN S hK hP (i := 1) (by omega) mC1 (k := 6) (by omega) (by decide) (v := u1 1 6) (rfl) dX6_reminds_11 ?_
      refine r_top (v := nI (sN (u1 1) 6)) (SI_nb hm1) ?_
      refine lv_icmp_ge (tgt := 96) hx hb dX6_reminds_12 (by decide) (fun c => absurd c (fun z => absurd ((nI_leI (a := (sN (u1 1) 6)) (b := k) (by omega) (by omega)).mp z) (by omega))) (fun _ => ?_)
      refine lv_aload_n hx hb dX6_reminds_15 rfl (lv_at hl 2 rfl) ?_
      refine lv_iload_n hx hb dX6_reminds_16 rfl (lv_at hl 0 rfl) ?_
      refine r_callI S hK hP (c_X6_why l G a hI u1 k (by omega) ) (r_cw S k_413 k_410 k_411 k_412 k_5 q_X6_why ⟨Nat.le_of_ble_eq_true rfl, Nat.le_of_ble_eq_true rfl⟩ rfl rfl) (g_recv hK hP (i := 0) (by omega) mC0 rfl) rfl hl.1 rfl (Nat.le_of_ble_eq_true rfl) dX6_reminds_17 ⟨Nat.zero_le _, Nat.zero_le _⟩ hS (fun _ h => h) (fun H locs hP _ _ hS => ?_)
      have hP : mP G a u1 H := hP
      refine lv_if_ne (tgt := 90) hx hb dX6_reminds_20 (by decide) (fun c1 => ?_) (fun c1 => ?_)
      · skip
        refine lv_iinc (v := nI (k + 1)) (lv' := [(2, .int (nI (k + 1))), (1, .int x1), (0, .ref (a 0))]) hx hb dX6_reminds_90 hl (k := 0) rfl (nI_1 _) (by decide) rfl (fun ls hl => ?_)
        refine lv_goto (tgt := 4) hx hb dX6_reminds_93 (by decide) ?_
        refine q_eqI (show v_X6_reminds_loop (n + 1) k u1 x1 = v_X6_reminds_loop n (k + 1) u1 x1 from (if_neg c1).trans rfl) (show w_X6_reminds_loop (n + 1) k u1 x1 = w_X6_reminds_loop n (k + 1) u1 x1 from (if_neg c1).trans rfl) ?_
        exact ih_LP_loop (k + 1) trivial _ _ _ _ hP hS hm1 (by omega) ls (lv_sub hl [0, 1, 2] rfl)
      · skip
        refine lv_aload_n hx hb dX6_reminds_23 rfl (lv_at hl 2 rfl) ?_
        refine g_get S hK hP (i := 0) (by omega) mC0 rfl inlX6 0 (by decide) k_67 (v := .ref (a 1)) rfl dX6_reminds_24 ?_
        refine lv_iload_n hx hb dX6_reminds_27 rfl (lv_at hl 0 rfl) ?_
        refine lv_bipush (v := 8) hx hb dX6_reminds_28 (by decide) ?_
        refine r_callS S hK hP (c_X6_of l G (mP G a u1) (gA 8 a) k 8 trivial trivial ) (r_cs S k_221 k_219 k_220 k_5 q_X6_of ⟨Nat.le_of_ble_eq_true rfl, Nat.le_of_ble_eq_true rfl⟩ rfl rfl) rfl hl.1 rfl (Nat.le_of_ble_eq_true rfl) dX6_reminds_30 ⟨Nat.zero_le _, Nat.zero_le _⟩ hS (fun _ h => h) (fun H locs hP _ _ hS => ?_)
        have hP : mP G a u1 H := hP
        refine r_top (v := nI (233 + 12 * k + 8)) rfl ?_
        refine lv_dup2_11 hx hb dX6_reminds_33 rfl rfl ?_
        refine g_aldN S hK hP (i := 1) (by omega) mC1 (k := 233 + 12 * k + 8) (by omega) (by decide) (v := u1 1 (233 + 12 * k + 8)) (rfl) dX6_reminds_34 ?_
        refine lv_aload_n hx hb dX6_reminds_35 rfl (lv_at hl 2 rfl) ?_
        refine g_get S hK hP (i := 0) (by omega) mC0 rfl inlX6 0 (by decide) k_67 (v := .ref (a 1)) rfl dX6_reminds_36 ?_
        refine lv_iload_n hx hb dX6_reminds_39 rfl (lv_at hl 0 rfl) ?_
        refine lv_bipush (v := 9) hx hb dX6_reminds_40 (by decide) ?_
        refine r_callS S hK hP (c_X6_of l G (mP G a u1) (gA 8 a) k 9 trivial trivial ) (r_cs S k_221 k_219 k_220 k_5 q_X6_of ⟨Nat.le_of_ble_eq_true rfl, Nat.le_of_ble_eq_true rfl⟩ rfl rfl) rfl hl.1 rfl (Nat.le_of_ble_eq_true rfl) dX6_reminds_42 ⟨Nat.zero_le _, Nat.zero_le _⟩ hS (fun _ h => h) (fun H locs hP _ _ hS => ?_)
        have hP : mP G a u1 H := hP
        refine r_top (v := nI (233 + 12 * k + 9)) rfl ?_
        refine g_aldN S hK hP (i := 1) (by omega) mC1 (k := 233 + 12 * k + 9) (by omega) (by decide) (v := u1 1 (233 + 12 * k + 9)) (rfl) dX6_reminds_45 ?_
        refine lv_aload_n hx hb dX6_reminds_46 rfl (lv_at hl 2 rfl) ?_
        refine g_get S hK hP (i := 0) (by omega) mC0 rfl inlX6 0 (by decide) k_67 (v := .ref (a 1)) rfl dX6_reminds_47 ?_
        refine lv_iconst (v := 4) hx hb dX6_reminds_50 (by decide) ?_
        refine g_aldN S hK hP (i := 1) (by omega) mC1 (k := 4) (by omega) (by decide) (v := u1 1 4) (rfl) dX6_reminds_51 ?_
        refine lv_imul hx hb dX6_reminds_52 ?_
        refine lv_iadd hx hb dX6_reminds_53 ?_
        refine g_astN S hK hP hI hS (i := 1) (by omega) mC1 (k := 233 + 12 * k + 8) (by omega) (by decide) dX6_reminds_54 (fun H locs hP hS => ?_)
        have hP : mP G a (up u1 1 (233 + 12 * k + 8) ((u1 1 (233 + 12 * k + 8)) + ((u1 1 (233 + 12 * k + 9)) * (u1 1 4)))) H := hP
        refine lv_aload_n hx hb dX6_reminds_55 rfl (lv_at hl 2 rfl) ?_
        refine g_get S hK hP (i := 0) (by omega) mC0 rfl inlX6 0 (by decide) k_67 (v := .ref (a 1)) rfl dX6_reminds_56 ?_
        refine lv_iload_n hx hb dX6_reminds_59 rfl (lv_at hl 0 rfl) ?_
        refine lv_bipush (v := 9) hx hb dX6_reminds_60 (by decide) ?_
        refine r_callS S hK hP (c_X6_of l G (mP G a (up u1 1 (233 + 12 * k + 8) ((u1 1 (233 + 12 * k + 8)) + ((u1 1 (233 + 12 * k + 9)) * (u1 1 4))))) (gA 8 a) k 9 trivial trivial ) (r_cs S k_221 k_219 k_220 k_5 q_X6_of ⟨Nat.le_of_ble_eq_true rfl, Nat.le_of_ble_eq_true rfl⟩ rfl rfl) rfl hl.1 rfl (Nat.le_of_ble_eq_true rfl) dX6_reminds_62 ⟨Nat.zero_le _, Nat.zero_le _⟩ hS (fun _ h => h) (fun H locs hP _ _ hS => ?_)
        have hP : mP G a (up u1 1 (233 + 12 * k + 8) ((u1 1 (233 + 12 * k + 8)) + ((u1 1 (233 + 12 * k + 9)) * (u1 1 4)))) H := hP
        refine r_top (v := nI (233 + 12 * k + 9)) rfl ?_
        refine lv_dup2_11 hx hb dX6_reminds_65 rfl rfl ?_
        refine g_aldN S hK hP (i := 1) (by omega) mC1 (k := 233 + 12 * k + 9) (by omega) (by decide) (v := u1 1 (233 + 12 * k + 9)) ((up_nk (by omega)).trans rfl) dX6_reminds_66 ?_
        refine lv_iconst (v := 1) hx hb dX6_reminds_67 (by decide) ?_
        refine lv_iadd hx hb dX6_reminds_68 ?_
        refine g_astN S hK hP hI hS (i := 1) (by omega) mC1 (k := 233 + 12 * k + 9) (by omega) (by decide) dX6_reminds_69 (fun H locs hP hS => ?_)
        have hP : mP G a (up (up u1 1 (233 + 12 * k + 8) ((u1 1 (233 + 12 * k + 8)) + ((u1 1 (233 + 12 * k + 9)) * (u1 1 4)))) 1 (233 + 12 * k + 9) ((u1 1 (233 + 12 * k + 9)) + (1 : Int32))) H := hP
        refine lv_aload_n hx hb dX6_reminds_70 rfl (lv_at hl 2 rfl) ?_
        refine g_get S hK hP (i := 0) (by omega) mC0 rfl inlX6 0 (by decide) k_67 (v := .ref (a 1)) rfl dX6_reminds_71 ?_
        refine lv_iload_n hx hb dX6_reminds_74 rfl (lv_at hl 0 rfl) ?_
        refine lv_bipush (v := 10) hx hb dX6_reminds_75 (by decide) ?_
        refine r_callS S hK hP (c_X6_of l G (mP G a (up (up u1 1 (233 + 12 * k + 8) ((u1 1 (233 + 12 * k + 8)) + ((u1 1 (233 + 12 * k + 9)) * (u1 1 4)))) 1 (233 + 12 * k + 9) ((u1 1 (233 + 12 * k + 9)) + (1 : Int32)))) (gA 8 a) k 10 trivial trivial ) (r_cs S k_221 k_219 k_220 k_5 q_X6_of ⟨Nat.le_of_ble_eq_true rfl, Nat.le_of_ble_eq_true rfl⟩ rfl rfl) rfl hl.1 rfl (Nat.le_of_ble_eq_true rfl) dX6_reminds_77 ⟨Nat.zero_le _, Nat.zero_le _⟩ hS (fun _ h => h) (fun H locs hP _ _ hS => ?_)
        have hP : mP G a (up (up u1 1 (233 + 12 * k + 8) ((u1 1 (233 + 12 * k + 8)) + ((u1 1 (233 + 12 * k + 9)) * (u1 1 4)))) 1 (233 + 12 * k + 9) ((u1 1 (233 + 12 * k + 9)) + (1 : Int32))) H := hP
        refine r_top (v := nI (233 + 12 * k + 10)) rfl ?_
        refine lv_aload_n hx hb dX6_reminds_80 rfl (lv_at hl 2 rfl) ?_
        refine g_get S hK hP (i := 0) (by omega) mC0 rfl inlX6 0 (by decide) k_67 (v := .ref (a 1)) rfl dX6_reminds_81 ?_
        refine lv_iconst (v := 0) hx hb dX6_reminds_84 (by decide) ?_
        refine g_aldN S hK hP (i := 1) (by omega) mC1 (k := 0) (by omega) (by decide) (v := u1 1 0) ((up_nk (by omega)).trans ((up_nk (by omega)).trans rfl)) dX6_reminds_85 ?_
        refine g_astN S hK hP hI hS (i := 1) (by omega) mC1 (k := 233 + 12 * k + 10) (by omega) (by decide) dX6_reminds_86 (fun H locs hP hS => ?_)
        have hP : mP G a (up (up (up u1 1 (233 + 12 * k + 8) ((u1 1 (233 + 12 * k + 8)) + ((u1 1 (233 + 12 * k + 9)) * (u1 1 4)))) 1 (233 + 12 * k + 9) ((u1 1 (233 + 12 * k + 9)) + (1 : Int32))) 1 (233 + 12 * k + 10) (u1 1 0)) H := hP
        refine lv_iinc (v := x1 + 1) (lv' := [(1, .int (x1 + 1)), (2, .int (nI k)), (0, .ref (a 0))]) hx hb dX6_reminds_87 hl (k := 1) rfl rfl (by decide) rfl (fun ls hl => ?_)
        refine lv_iinc (v := nI (k + 1)) (lv' := [(2, .int (nI (k + 1))), (1, .int (x1 + 1)), (0, .ref (a 0))]) hx hb dX6_reminds_90 hl (k := 1) rfl (nI_1 _) (by decide) rfl (fun ls hl => ?_)
        refine lv_goto (tgt := 4) hx hb dX6_reminds_93 (by decide) ?_
        refine q_eqI (show v_X6_reminds_loop (n + 1) k u1 x1 = v_X6_reminds_loop n (k + 1) (up (up (up u1 1 (233 + 12 * k + 8) ((u1 1 (233 + 12 * k + 8)) + ((u1 1 (233 + 12 * k + 9)) * (u1 1 4)))) 1 (233 + 12 * k + 9) ((u1 1 (233 + 12 * k + 9)) + (1 : Int32))) 1 (233 + 12 * k + 10) (u1 1 0)) (x1 + 1) from (if_pos c1).trans rfl) (show w_X6_reminds_loop (n + 1) k u1 x1 = w_X6_reminds_loop n (k + 1) (up (up (up u1 1 (233 + 12 * k + 8) ((u1 1 (233 + 12 * k + 8)) + ((u1 1 (233 + 12 * k + 9)) * (u1 1 4)))) 1 (233 + 12 * k + 9) ((u1 1 (233 + 12 * k + 9)) + (1 : Int32))) 1 (233 + 12 * k + 10) (u1 1 0)) (x1 + 1) from (if_pos c1).trans rfl) ?_
        exact ih_LP_loop (k + 1) trivial _ _ _ _ hP hS (SI_rem hm1 (by omega)) (by rw [nb_rem]; omega) ls (lv_sub hl [0, 1, 2] rfl)
  refine q_eqI (show v_X6_reminds u  = v_X6_reminds_loop (sN (u 1) 6) 0 u (0 : Int32) from rfl) (show w_X6_reminds u  = w_X6_reminds_loop (sN (u 1) 6) 0 u (0 : Int32) from rfl) ?_
  exact LP_loop (sN (u 1) 6) 0 trivial _ _ _ _ hP hS hm (Nat.zero_add _) ls (lv_sub hl [0, 1, 2] rfl)

def v_X6_oldestOpen_loop (u : Nat → Nat → Int32) (p1 : Int32) : Nat → Int32 → Int32
  | 0, x2 => x2
  | n + 1, x2 => if v_X6_isOpenOf u n p1 = 0 then (v_X6_oldestOpen_loop u p1 n x2) else v_X6_oldestOpen_loop u p1 n (nI n)
def v_X6_oldestOpen (u : Nat → Nat → Int32) (p1 : Int32) : Int32 := v_X6_oldestOpen_loop u p1 (sN (u 1) 6) (-5 : Int32)
theorem q_X6_oldestOpen : yX6_oldestOpen.cls ≠ "java/lang/invoke/MethodHandle" ∧ yX6_oldestOpen.cls ≠ "java/lang/invoke/VarHandle" ∧ (parseMethodDescriptor yX6_oldestOpen.desc).map (fun d => d.parameters.length) = some 1 := ⟨by decide, by decide, by decide +kernel⟩
set_option maxHeartbeats 4000000 in
set_option maxRecDepth 100000 in
theorem c_X6_oldestOpen (l : Launch) (G : kG) (a : Nat → Nat) (hI : gI 8 a) (u : Nat → Nat → Int32) (p1 : Int32) (hm : SI (u 1)) : Met l yX6_oldestOpen (Cond.code yX6_oldestOpen cX6_oldestOpen 4 (some .int) :: BIG) (rmK 3) (pcG G (mP G a u) [.ref (a 0), .int p1]) (qcI G (gA 8 a) (mP G a u) (v_X6_oldestOpen u p1)) 0 0 (gA 8 a) := by
  refine m_start (by decide) (Nat.le_of_ble_eq_true rfl) ?_
  have hnb := SI_nb2 hm
  intro p e s m args below meth c S hr hlk hnm hP hK ls hl
  have hx := S.1
  have hb := S.2.1
  have hown := S.2.2.2.1
  have hS : va_S (gA 8 a) s.heap s.heap [] := va_S.rf
  have hl : lv_has ls 4 [(0, .ref (a 0)), (1, .int p1)] := hl
  refine lv_bipush (v := -5) hx hb dX6_oldestOpen_0 (by decide) ?_
  refine lv_istore_n (lv' := [(2, .int (-5 : Int32)), (0, .ref (a 0)), (1, .int p1)]) hx hb dX6_oldestOpen_2 rfl hl (by decide) rfl (fun ls hl => ?_)
  refine lv_aload_n hx hb dX6_oldestOpen_3 rfl (lv_at hl 1 rfl) ?_
  refine g_get S hK hP (i := 0) (by omega) mC0 rfl inlX6 0 (by decide) k_67 (v := .ref (a 1)) rfl dX6_oldestOpen_4 ?_
  refine lv_bipush (v := 6) hx hb dX6_oldestOpen_7 (by decide) ?_
  refine g_aldN S hK hP (i := 1) (by omega) mC1 (k := 6) (by omega) (by decide) (v := u 1 6) (rfl) dX6_oldestOpen_9 ?_
  refine r_top (v := nI (sN (u 1) 6)) (SI_nb hm) ?_
  refine lv_iconst (v := 1) hx hb dX6_oldestOpen_10 (by decide) ?_
  refine lv_isub hx hb dX6_oldestOpen_11 ?_
  refine lv_istore_n (lv' := [(3, .int ((nI (sN (u 1) 6)) - (1 : Int32))), (2, .int (-5 : Int32)), (0, .ref (a 0)), (1, .int p1)]) hx hb dX6_oldestOpen_12 rfl hl (by decide) rfl (fun ls hl => ?_)
  have LP_loop : ∀ (n : Nat), n ≤ 40 → ∀ (x2 : Int32) (H : Heap) (locs : List Loc), mP G a u H → va_S (gA 8 a) s.heap H locs → ∀ ls : Array Slot, lv_has ls 4 [(3, .int (nI (n) - (1 : Int32))), (2, .int x2), (0, .ref (a 0)), (1, .int p1)] → W p l e (rmK 3) s m args below meth c H locs 0 0 (MQ below (qcI G (gA 8 a) (mP G a u) (v_X6_oldestOpen_loop u p1 n x2)) args s 0 0 (gA 8 a)) (F0 m 13 ls []) := by
    intro n
    induction n with
    | zero =>
      intro  hk_LP_loop x2 H locs hP hS ls hl
      refine lv_iload_n hx hb dX6_oldestOpen_13 rfl (lv_at hl 0 rfl) ?_
      refine r_top (v := -1) (by decide) ?_
      refine lv_if_lt (tgt := 38) hx hb dX6_oldestOpen_14 (by decide) (fun _ => ?_) (fun c => absurd (by decide) c)
      refine lv_iload_n hx hb dX6_oldestOpen_38 rfl (lv_at hl 1 rfl) ?_
      exact e_int S hr hlk rfl hK hS hP (show v_X6_oldestOpen_loop u p1 0 x2 = x2 from rfl).symm dX6_oldestOpen_39
    | succ n ih_LP_loop =>
      intro  hk_LP_loop x2 H locs hP hS ls hl
      refine lv_iload_n hx hb dX6_oldestOpen_13 rfl (lv_at hl 0 rfl) ?_
      refine r_top (v := nI n) (nI_pred n) ?_
      refine lv_if_lt (tgt := 38) hx hb dX6_oldestOpen_14 (by decide) (fun c => absurd c (fun z => absurd ((nI_ltI (a := n) (b := 0) (by omega) (by omega)).mp z) (by omega))) (fun _ => ?_)
      refine lv_aload_n hx hb dX6_oldestOpen_17 rfl (lv_at hl 2 rfl) ?_
      refine lv_iload_n hx hb dX6_oldestOpen_18 rfl (lv_at hl 0 rfl) ?_
      refine r_top (v := nI n) (nI_pred n) ?_
      refine lv_iload_n hx hb dX6_oldestOpen_19 rfl (lv_at hl 3 rfl) ?_
      refine r_callI S hK hP (c_X6_isOpenOf l G a hI u n (by omega) _ ) (r_cw S k_286 k_283 k_284 k_285 k_5 q_X6_isOpenOf ⟨Nat.le_of_ble_eq_true rfl, Nat.le_of_ble_eq_true rfl⟩ rfl rfl) (g_recv hK hP (i := 0) (by omega) mC0 rfl) rfl hl.1 rfl (Nat.le_of_ble_eq_true rfl) dX6_oldestOpen_20 ⟨Nat.zero_le _, Nat.zero_le _⟩ hS (fun _ h => h) (fun H locs hP _ _ hS => ?_)
      have hP : mP G a u H := hP
      refine lv_if_eq (tgt := 30) hx hb dX6_oldestOpen_23 (by decide) (fun c1 => ?_) (fun c1 => ?_)
      · skip
        refine lv_iload_n hx hb dX6_oldestOpen_30 rfl (lv_at hl 1 rfl) ?_
        refine lv_istore_n (lv' := [(2, .int x2), (3, .int (nI (n + 1) - (1 : Int32))), (0, .ref (a 0)), (1, .int p1)]) hx hb dX6_oldestOpen_31 rfl hl (by decide) rfl (fun ls hl => ?_)
        refine lv_iinc (v := nI (n) - (1 : Int32)) (lv' := [(3, .int (nI (n) - (1 : Int32))), (2, .int x2), (0, .ref (a 0)), (1, .int p1)]) hx hb dX6_oldestOpen_32 hl (k := 1) rfl (dn_step n) (by decide) rfl (fun ls hl => ?_)
        refine lv_goto (tgt := 13) hx hb dX6_oldestOpen_35 (by decide) ?_
        refine q_eqI (show v_X6_oldestOpen_loop u p1 (n + 1) x2 = v_X6_oldestOpen_loop u p1 n x2 from (if_pos c1).trans rfl) rfl ?_
        exact ih_LP_loop  (by omega) _ _ _ hP hS ls (lv_sub hl [0, 1, 2, 3] rfl)
      · skip
        refine lv_iload_n hx hb dX6_oldestOpen_26 rfl (lv_at hl 0 rfl) ?_
        refine r_top (v := nI n) (nI_pred n) ?_
        refine lv_goto (tgt := 31) hx hb dX6_oldestOpen_27 (by decide) ?_
        refine lv_istore_n (lv' := [(2, .int (nI n)), (3, .int (nI (n + 1) - (1 : Int32))), (0, .ref (a 0)), (1, .int p1)]) hx hb dX6_oldestOpen_31 rfl hl (by decide) rfl (fun ls hl => ?_)
        refine lv_iinc (v := nI (n) - (1 : Int32)) (lv' := [(3, .int (nI (n) - (1 : Int32))), (2, .int (nI n)), (0, .ref (a 0)), (1, .int p1)]) hx hb dX6_oldestOpen_32 hl (k := 1) rfl (dn_step n) (by decide) rfl (fun ls hl => ?_)
        refine lv_goto (tgt := 13) hx hb dX6_oldestOpen_35 (by decide) ?_
        refine q_eqI (show v_X6_oldestOpen_loop u p1 (n + 1) x2 = v_X6_oldestOpen_loop u p1 n (nI n) from (if_neg c1).trans rfl) rfl ?_
        exact ih_LP_loop  (by omega) _ _ _ hP hS ls (lv_sub hl [0, 1, 2, 3] rfl)
  refine q_eqI (show v_X6_oldestOpen u p1 = v_X6_oldestOpen_loop u p1 (sN (u 1) 6) (-5 : Int32) from rfl) rfl ?_
  exact LP_loop (sN (u 1) 6)  hnb _ _ _ hP hS ls (lv_sub hl [0, 1, 2, 3] rfl)

def v_X6_settles_loop (u : Nat → Nat → Int32) (p1 : Int32) : Nat → Nat → Int32 → Int32
  | 0, k, x2 => x2
  | n + 1, k, x2 => if v_X6_isOpenOf u k p1 = 0 then (v_X6_settles_loop u p1 n (k + 1) (x2 + (0 : Int32))) else v_X6_settles_loop u p1 n (k + 1) (x2 + ((v_X6_owedOn u k) - (v_X6_discountOf u k)))
def v_X6_settles (u : Nat → Nat → Int32) (p1 : Int32) : Int32 := if v_X6_isCustomer p1 = 0 then (-1 : Int32) else v_X6_settles_loop u p1 (sN (u 1) 6) 0 (0 : Int32)
theorem q_X6_settles : yX6_settles.cls ≠ "java/lang/invoke/MethodHandle" ∧ yX6_settles.cls ≠ "java/lang/invoke/VarHandle" ∧ (parseMethodDescriptor yX6_settles.desc).map (fun d => d.parameters.length) = some 1 := ⟨by decide, by decide, by decide +kernel⟩
set_option maxHeartbeats 4000000 in
set_option maxRecDepth 100000 in
theorem c_X6_settles (l : Launch) (G : kG) (a : Nat → Nat) (hI : gI 8 a) (u : Nat → Nat → Int32) (p1 : Int32) (hm : SI (u 1)) : Met l yX6_settles (Cond.code yX6_settles cX6_settles 4 (some .int) :: BIG) (rmK 5) (pcG G (mP G a u) [.ref (a 0), .int p1]) (qcI G (gA 8 a) (mP G a u) (v_X6_settles u p1)) 0 0 (gA 8 a) := by
  refine m_start (by decide) (Nat.le_of_ble_eq_true rfl) ?_
  have hnb := SI_nb2 hm
  intro p e s m args below meth c S hr hlk hnm hP hK ls hl
  have hx := S.1
  have hb := S.2.1
  have hown := S.2.2.2.1
  have hS : va_S (gA 8 a) s.heap s.heap [] := va_S.rf
  have hl : lv_has ls 4 [(0, .ref (a 0)), (1, .int p1)] := hl
  refine lv_iload_n hx hb dX6_settles_0 rfl (lv_at hl 1 rfl) ?_
  refine r_callS S hK hP (c_X6_isCustomer l G (mP G a u) (gA 8 a) _ ) (r_cs S k_195 k_193 k_194 k_5 q_X6_isCustomer ⟨Nat.le_of_ble_eq_true rfl, Nat.le_of_ble_eq_true rfl⟩ rfl rfl) rfl hl.1 rfl (Nat.le_of_ble_eq_true rfl) dX6_settles_1 ⟨Nat.zero_le _, Nat.zero_le _⟩ hS (fun _ h => h) (fun H locs hP _ _ hS => ?_)
  have hP : mP G a u H := hP
  refine lv_if_ne (tgt := 9) hx hb dX6_settles_4 (by decide) (fun c1 => ?_) (fun c1 => ?_)
  · skip
    refine lv_iconst (v := 0) hx hb dX6_settles_9 (by decide) ?_
    refine lv_istore_n (lv' := [(2, .int (0 : Int32)), (0, .ref (a 0)), (1, .int p1)]) hx hb dX6_settles_10 rfl hl (by decide) rfl (fun ls hl => ?_)
    refine lv_iconst (v := 0) hx hb dX6_settles_11 (by decide) ?_
    refine lv_istore_n (lv' := [(3, .int (0 : Int32)), (2, .int (0 : Int32)), (0, .ref (a 0)), (1, .int p1)]) hx hb dX6_settles_12 rfl hl (by decide) rfl (fun ls hl => ?_)
    have LP_loop : ∀ (n : Nat) (k : Nat), k + n = sN (u 1) 6 → ∀ (x2 : Int32) (H : Heap) (locs : List Loc), mP G a u H → va_S (gA 8 a) s.heap H locs → ∀ ls : Array Slot, lv_has ls 4 [(3, .int (nI k)), (2, .int x2), (0, .ref (a 0)), (1, .int p1)] → W p l e (rmK 5) s m args below meth c H locs 0 0 (MQ below (qcI G (gA 8 a) (mP G a u) (v_X6_settles_loop u p1 n k x2)) args s 0 0 (gA 8 a)) (F0 m 13 ls []) := by
      intro n
      induction n with
      | zero =>
        intro k hk_LP_loop x2 H locs hP hS ls hl
        refine lv_iload_n hx hb dX6_settles_13 rfl (lv_at hl 0 rfl) ?_
        refine lv_aload_n hx hb dX6_settles_14 rfl (lv_at hl 2 rfl) ?_
        refine g_get S hK hP (i := 0) (by omega) mC0 rfl inlX6 0 (by decide) k_67 (v := .ref (a 1)) rfl dX6_settles_15 ?_
        refine lv_bipush (v := 6) hx hb dX6_settles_18 (by decide) ?_
        refine g_aldN S hK hP (i := 1) (by omega) mC1 (k := 6) (by omega) (by decide) (v := u 1 6) (rfl) dX6_settles_20 ?_
        refine r_top (v := nI (sN (u 1) 6)) (SI_nb hm) ?_
        refine lv_icmp_ge (tgt := 57) hx hb dX6_settles_21 (by decide) (fun _ => ?_) (fun c => absurd ((nI_leI (a := (sN (u 1) 6)) (b := k) (by omega) (by omega)).mpr (by omega)) c)
        refine lv_iload_n hx hb dX6_settles_57 rfl (lv_at hl 1 rfl) ?_
        exact e_int S hr hlk rfl hK hS hP (show v_X6_settles_loop u p1 0 k x2 = x2 from rfl).symm dX6_settles_58
      | succ n ih_LP_loop =>
        intro k hk_LP_loop x2 H locs hP hS ls hl
        refine lv_iload_n hx hb dX6_settles_13 rfl (lv_at hl 0 rfl) ?_
        refine lv_aload_n hx hb dX6_settles_14 rfl (lv_at hl 2 rfl) ?_
        refine g_get S hK hP (i := 0) (by omega) mC0 rfl inlX6 0 (by decide) k_67 (v := .ref (a 1)) rfl dX6_settles_15 ?_
        refine lv_bipush (v := 6) hx hb dX6_settles_18 (by decide) ?_
        refine g_aldN S hK hP (i := 1) (by omega) mC1 (k := 6) (by omega) (by decide) (v := u 1 6) (rfl) dX6_settles_20 ?_
        refine r_top (v := nI (sN (u 1) 6)) (SI_nb hm) ?_
        refine lv_icmp_ge (tgt := 57) hx hb dX6_settles_21 (by decide) (fun c => absurd c (fun z => absurd ((nI_leI (a := (sN (u 1) 6)) (b := k) (by omega) (by omega)).mp z) (by omega))) (fun _ => ?_)
        refine lv_iload_n hx hb dX6_settles_24 rfl (lv_at hl 1 rfl) ?_
        refine lv_aload_n hx hb dX6_settles_25 rfl (lv_at hl 2 rfl) ?_
        refine lv_iload_n hx hb dX6_settles_26 rfl (lv_at hl 0 rfl) ?_
        refine lv_iload_n hx hb dX6_settles_27 rfl (lv_at hl 3 rfl) ?_
        refine r_callI S hK hP (c_X6_isOpenOf l G a hI u k (by omega) _ ) (r_cw S k_286 k_283 k_284 k_285 k_5 q_X6_isOpenOf ⟨Nat.le_of_ble_eq_true rfl, Nat.le_of_ble_eq_true rfl⟩ rfl rfl) (g_recv hK hP (i := 0) (by omega) mC0 rfl) rfl hl.1 rfl (Nat.le_of_ble_eq_true rfl) dX6_settles_28 ⟨Nat.zero_le _, Nat.zero_le _⟩ hS (fun _ h => h) (fun H locs hP _ _ hS => ?_)
        have hP : mP G a u H := hP
        refine lv_if_eq (tgt := 48) hx hb dX6_settles_31 (by decide) (fun c2 => ?_) (fun c2 => ?_)
        · skip
          refine lv_iconst (v := 0) hx hb dX6_settles_48 (by decide) ?_
          refine lv_iadd hx hb dX6_settles_49 ?_
          refine lv_istore_n (lv' := [(2, .int (x2 + (0 : Int32))), (3, .int (nI k)), (0, .ref (a 0)), (1, .int p1)]) hx hb dX6_settles_50 rfl hl (by decide) rfl (fun ls hl => ?_)
          refine lv_iinc (v := nI (k + 1)) (lv' := [(3, .int (nI (k + 1))), (2, .int (x2 + (0 : Int32))), (0, .ref (a 0)), (1, .int p1)]) hx hb dX6_settles_51 hl (k := 1) rfl (nI_1 _) (by decide) rfl (fun ls hl => ?_)
          refine lv_goto (tgt := 13) hx hb dX6_settles_54 (by decide) ?_
          refine q_eqI (show v_X6_settles_loop u p1 (n + 1) k x2 = v_X6_settles_loop u p1 n (k + 1) (x2 + (0 : Int32)) from (if_pos c2).trans rfl) rfl ?_
          exact ih_LP_loop (k + 1) (by omega) _ _ _ hP hS ls (lv_sub hl [0, 1, 2, 3] rfl)
        · skip
          refine lv_aload_n hx hb dX6_settles_34 rfl (lv_at hl 2 rfl) ?_
          refine lv_iload_n hx hb dX6_settles_35 rfl (lv_at hl 0 rfl) ?_
          refine r_callI S hK hP (c_X6_owedOn l G a hI u k (by omega) ) (r_cw S k_245 k_242 k_243 k_244 k_5 q_X6_owedOn ⟨Nat.le_of_ble_eq_true rfl, Nat.le_of_ble_eq_true rfl⟩ rfl rfl) (g_recv hK hP (i := 0) (by omega) mC0 rfl) rfl hl.1 rfl (Nat.le_of_ble_eq_true rfl) dX6_settles_36 ⟨Nat.zero_le _, Nat.zero_le _⟩ hS (fun _ h => h) (fun H locs hP _ _ hS => ?_)
          have hP : mP G a u H := hP
          refine lv_aload_n hx hb dX6_settles_39 rfl (lv_at hl 2 rfl) ?_
          refine lv_iload_n hx hb dX6_settles_40 rfl (lv_at hl 0 rfl) ?_
          refine r_callI S hK hP (c_X6_discountOf l G a hI u k (by omega) ) (r_cw S k_229 k_226 k_227 k_228 k_5 q_X6_discountOf ⟨Nat.le_of_ble_eq_true rfl, Nat.le_of_ble_eq_true rfl⟩ rfl rfl) (g_recv hK hP (i := 0) (by omega) mC0 rfl) rfl hl.1 rfl (Nat.le_of_ble_eq_true rfl) dX6_settles_41 ⟨Nat.zero_le _, Nat.zero_le _⟩ hS (fun _ h => h) (fun H locs hP _ _ hS => ?_)
          have hP : mP G a u H := hP
          refine lv_isub hx hb dX6_settles_44 ?_
          refine lv_goto (tgt := 49) hx hb dX6_settles_45 (by decide) ?_
          refine lv_iadd hx hb dX6_settles_49 ?_
          refine lv_istore_n (lv' := [(2, .int (x2 + ((v_X6_owedOn u k) - (v_X6_discountOf u k)))), (3, .int (nI k)), (0, .ref (a 0)), (1, .int p1)]) hx hb dX6_settles_50 rfl hl (by decide) rfl (fun ls hl => ?_)
          refine lv_iinc (v := nI (k + 1)) (lv' := [(3, .int (nI (k + 1))), (2, .int (x2 + ((v_X6_owedOn u k) - (v_X6_discountOf u k)))), (0, .ref (a 0)), (1, .int p1)]) hx hb dX6_settles_51 hl (k := 1) rfl (nI_1 _) (by decide) rfl (fun ls hl => ?_)
          refine lv_goto (tgt := 13) hx hb dX6_settles_54 (by decide) ?_
          refine q_eqI (show v_X6_settles_loop u p1 (n + 1) k x2 = v_X6_settles_loop u p1 n (k + 1) (x2 + ((v_X6_owedOn u k) - (v_X6_discountOf u k))) from (if_neg c2).trans rfl) rfl ?_
          exact ih_LP_loop (k + 1) (by omega) _ _ _ hP hS ls (lv_sub hl [0, 1, 2, 3] rfl)
    refine q_eqI (show v_X6_settles u p1 = v_X6_settles_loop u p1 (sN (u 1) 6) 0 (0 : Int32) from (if_neg c1).trans rfl) rfl ?_
    exact LP_loop (sN (u 1) 6) 0 (by omega) _ _ _ hP hS ls (lv_sub hl [0, 1, 2, 3] rfl)
  · skip
    refine lv_iconst (v := -1) hx hb dX6_settles_7 (by decide) ?_
    exact e_int S hr hlk rfl hK hS hP (show v_X6_settles u p1 = (-1 : Int32) from (if_pos c1).trans rfl).symm dX6_settles_8

def v_X6_worst_loop (u : Nat → Nat → Int32) : Nat → Nat → Int32 → Int32 → Int32
  | 0, k, x1, x2 => x1
  | n + 1, k, x1, x2 => if v_X6_owedBy u (nI k) (0 : Int32) ≤ x2 then (v_X6_worst_loop u n (k + 1) x1 x2) else v_X6_worst_loop u n (k + 1) (nI k) (v_X6_owedBy u (nI k) (0 : Int32))
def v_X6_worst (u : Nat → Nat → Int32) : Int32 := v_X6_worst_loop u 8 0 (-5 : Int32) (0 : Int32)
theorem q_X6_worst : yX6_worst.cls ≠ "java/lang/invoke/MethodHandle" ∧ yX6_worst.cls ≠ "java/lang/invoke/VarHandle" ∧ (parseMethodDescriptor yX6_worst.desc).map (fun d => d.parameters.length) = some 0 := ⟨by decide, by decide, by decide +kernel⟩
set_option maxHeartbeats 4000000 in
set_option maxRecDepth 100000 in
theorem c_X6_worst (l : Launch) (G : kG) (a : Nat → Nat) (hI : gI 8 a) (u : Nat → Nat → Int32) (hm : SI (u 1)) : Met l yX6_worst (Cond.code yX6_worst cX6_worst 5 (some .int) :: BIG) (rmK 5) (pcG G (mP G a u) [.ref (a 0)]) (qcI G (gA 8 a) (mP G a u) (v_X6_worst u)) 0 0 (gA 8 a) := by
  refine m_start (by decide) (Nat.le_of_ble_eq_true rfl) ?_
  intro p e s m args below meth c S hr hlk hnm hP hK ls hl
  have hx := S.1
  have hb := S.2.1
  have hown := S.2.2.2.1
  have hS : va_S (gA 8 a) s.heap s.heap [] := va_S.rf
  have hl : lv_has ls 5 [(0, .ref (a 0))] := hl
  refine lv_bipush (v := -5) hx hb dX6_worst_0 (by decide) ?_
  refine lv_istore_n (lv' := [(1, .int (-5 : Int32)), (0, .ref (a 0))]) hx hb dX6_worst_2 rfl hl (by decide) rfl (fun ls hl => ?_)
  refine lv_iconst (v := 0) hx hb dX6_worst_3 (by decide) ?_
  refine lv_istore_n (lv' := [(2, .int (0 : Int32)), (1, .int (-5 : Int32)), (0, .ref (a 0))]) hx hb dX6_worst_4 rfl hl (by decide) rfl (fun ls hl => ?_)
  refine lv_iconst (v := 0) hx hb dX6_worst_5 (by decide) ?_
  refine lv_istore_n (lv' := [(3, .int (0 : Int32)), (2, .int (0 : Int32)), (1, .int (-5 : Int32)), (0, .ref (a 0))]) hx hb dX6_worst_6 rfl hl (by decide) rfl (fun ls hl => ?_)
  have LP_loop : ∀ (n : Nat) (k : Nat), k + n = 8 → ∀ (x1 : Int32) (x2 : Int32) (H : Heap) (locs : List Loc), mP G a u H → va_S (gA 8 a) s.heap H locs → ∀ ls : Array Slot, lv_has ls 5 [(3, .int (nI k)), (2, .int x2), (1, .int x1), (0, .ref (a 0))] → W p l e (rmK 5) s m args below meth c H locs 0 0 (MQ below (qcI G (gA 8 a) (mP G a u) (v_X6_worst_loop u n k x1 x2)) args s 0 0 (gA 8 a)) (F0 m 7 ls []) := by
    intro n
    induction n with
    | zero =>
      intro k hk_LP_loop x1 x2 H locs hP hS ls hl
      refine lv_iload_n hx hb dX6_worst_7 rfl (lv_at hl 0 rfl) ?_
      refine lv_bipush (v := 8) hx hb dX6_worst_8 (by decide) ?_
      refine lv_icmp_ge (tgt := 52) hx hb dX6_worst_10 (by decide) (fun _ => ?_) (fun c => absurd ((nI_leI (a := 8) (b := k) (by omega) (by omega)).mpr (by omega)) c)
      refine lv_iload_n hx hb dX6_worst_52 rfl (lv_at hl 2 rfl) ?_
      exact e_int S hr hlk rfl hK hS hP (show v_X6_worst_loop u 0 k x1 x2 = x1 from rfl).symm dX6_worst_53
    | succ n ih_LP_loop =>
      intro k hk_LP_loop x1 x2 H locs hP hS ls hl
      refine lv_iload_n hx hb dX6_worst_7 rfl (lv_at hl 0 rfl) ?_
      refine lv_bipush (v := 8) hx hb dX6_worst_8 (by decide) ?_
      refine lv_icmp_ge (tgt := 52) hx hb dX6_worst_10 (by decide) (fun c => absurd c (fun z => absurd ((nI_leI (a := 8) (b := k) (by omega) (by omega)).mp z) (by omega))) (fun _ => ?_)
      refine lv_aload_n hx hb dX6_worst_13 rfl (lv_at hl 3 rfl) ?_
      refine lv_iload_n hx hb dX6_worst_14 rfl (lv_at hl 0 rfl) ?_
      refine lv_iconst (v := 0) hx hb dX6_worst_15 (by decide) ?_
      refine r_callI S hK hP (c_X6_owedBy l G a hI u _ _ hm) (r_cw S k_716 k_713 k_714 k_715 k_5 q_X6_owedBy ⟨Nat.le_of_ble_eq_true rfl, Nat.le_of_ble_eq_true rfl⟩ rfl rfl) (g_recv hK hP (i := 0) (by omega) mC0 rfl) rfl hl.1 rfl (Nat.le_of_ble_eq_true rfl) dX6_worst_16 ⟨Nat.zero_le _, Nat.zero_le _⟩ hS (fun _ h => h) (fun H locs hP _ _ hS => ?_)
      have hP : mP G a u H := hP
      refine lv_istore (lv' := [(4, .int (v_X6_owedBy u (nI k) (0 : Int32))), (3, .int (nI k)), (2, .int x2), (1, .int x1), (0, .ref (a 0))]) hx hb dX6_worst_19 hl (by decide) rfl (fun ls hl => ?_)
      refine lv_iload hx hb dX6_worst_21 (lv_at hl 0 rfl) ?_
      refine lv_iload_n hx hb dX6_worst_23 rfl (lv_at hl 2 rfl) ?_
      refine lv_icmp_le (tgt := 31) hx hb dX6_worst_24 (by decide) (fun c1 => ?_) (fun c1 => ?_)
      · skip
        refine lv_iload_n hx hb dX6_worst_31 rfl (lv_at hl 3 rfl) ?_
        refine lv_istore_n (lv' := [(1, .int x1), (4, .int (v_X6_owedBy u (nI k) (0 : Int32))), (3, .int (nI k)), (2, .int x2), (0, .ref (a 0))]) hx hb dX6_worst_32 rfl hl (by decide) rfl (fun ls hl => ?_)
        refine lv_iload hx hb dX6_worst_33 (lv_at hl 1 rfl) ?_
        refine lv_iload_n hx hb dX6_worst_35 rfl (lv_at hl 3 rfl) ?_
        refine lv_icmp_le (tgt := 44) hx hb dX6_worst_36 (by decide) (fun _ => ?_) (fun c => absurd c1 c)
        refine lv_iload_n hx hb dX6_worst_44 rfl (lv_at hl 3 rfl) ?_
        refine lv_istore_n (lv' := [(2, .int x2), (1, .int x1), (4, .int (v_X6_owedBy u (nI k) (0 : Int32))), (3, .int (nI k)), (0, .ref (a 0))]) hx hb dX6_worst_45 rfl hl (by decide) rfl (fun ls hl => ?_)
        refine lv_iinc (v := nI (k + 1)) (lv' := [(3, .int (nI (k + 1))), (2, .int x2), (1, .int x1), (4, .int (v_X6_owedBy u (nI k) (0 : Int32))), (0, .ref (a 0))]) hx hb dX6_worst_46 hl (k := 3) rfl (nI_1 _) (by decide) rfl (fun ls hl => ?_)
        refine lv_goto (tgt := 7) hx hb dX6_worst_49 (by decide) ?_
        refine q_eqI (show v_X6_worst_loop u (n + 1) k x1 x2 = v_X6_worst_loop u n (k + 1) x1 x2 from (if_pos c1).trans rfl) rfl ?_
        exact ih_LP_loop (k + 1) (by omega) _ _ _ _ hP hS ls (lv_sub hl [0, 1, 2, 4] rfl)
      · skip
        refine lv_iload_n hx hb dX6_worst_27 rfl (lv_at hl 1 rfl) ?_
        refine lv_goto (tgt := 32) hx hb dX6_worst_28 (by decide) ?_
        refine lv_istore_n (lv' := [(1, .int (nI k)), (4, .int (v_X6_owedBy u (nI k) (0 : Int32))), (3, .int (nI k)), (2, .int x2), (0, .ref (a 0))]) hx hb dX6_worst_32 rfl hl (by decide) rfl (fun ls hl => ?_)
        refine lv_iload hx hb dX6_worst_33 (lv_at hl 1 rfl) ?_
        refine lv_iload_n hx hb dX6_worst_35 rfl (lv_at hl 3 rfl) ?_
        refine lv_icmp_le (tgt := 44) hx hb dX6_worst_36 (by decide) (fun c => absurd c c1) (fun _ => ?_)
        refine lv_iload hx hb dX6_worst_39 (lv_at hl 1 rfl) ?_
        refine lv_goto (tgt := 45) hx hb dX6_worst_41 (by decide) ?_
        refine lv_istore_n (lv' := [(2, .int (v_X6_owedBy u (nI k) (0 : Int32))), (1, .int (nI k)), (4, .int (v_X6_owedBy u (nI k) (0 : Int32))), (3, .int (nI k)), (0, .ref (a 0))]) hx hb dX6_worst_45 rfl hl (by decide) rfl (fun ls hl => ?_)
        refine lv_iinc (v := nI (k + 1)) (lv' := [(3, .int (nI (k + 1))), (2, .int (v_X6_owedBy u (nI k) (0 : Int32))), (1, .int (nI k)), (4, .int (v_X6_owedBy u (nI k) (0 : Int32))), (0, .ref (a 0))]) hx hb dX6_worst_46 hl (k := 3) rfl (nI_1 _) (by decide) rfl (fun ls hl => ?_)
        refine lv_goto (tgt := 7) hx hb dX6_worst_49 (by decide) ?_
        refine q_eqI (show v_X6_worst_loop u (n + 1) k x1 x2 = v_X6_worst_loop u n (k + 1) (nI k) (v_X6_owedBy u (nI k) (0 : Int32)) from (if_neg c1).trans rfl) rfl ?_
        exact ih_LP_loop (k + 1) (by omega) _ _ _ _ hP hS ls (lv_sub hl [0, 1, 2, 4] rfl)
  refine q_eqI (show v_X6_worst u  = v_X6_worst_loop u 8 0 (-5 : Int32) (0 : Int32) from rfl) rfl ?_
  exact LP_loop 8 0 (by omega) _ _ _ _ hP hS ls (lv_sub hl [0, 1, 2, 3] rfl)
