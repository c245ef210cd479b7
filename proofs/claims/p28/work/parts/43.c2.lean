def v_X2_add_loop (z : CS) (r1 : Nat) : Nat → Nat → (CS) → Nat
  | 0, k, z1 => z.1 (2 + 0)
  | n + 1, k, z1 => v_X2_add_loop z r1 n (k + 1) (zR z1 (2 + k) (z1.1 (2 + (k + 1))))
def w_X2_add_loop (z : CS) (r1 : Nat) : Nat → Nat → (CS) → (CS)
  | 0, k, z1 => zR z1 (2 + 3) r1
  | n + 1, k, z1 => w_X2_add_loop z r1 n (k + 1) (zR z1 (2 + k) (z1.1 (2 + (k + 1))))
def v_X2_add (z : CS) (r1 : Nat) : Nat := if z.2 7 1 1 < 0 then (v_X2_add_loop z r1 3 0 z) else if (4 : Int32) ≤ z.2 7 1 1 then (v_X2_add_loop z r1 3 0 z) else z.1 (2 + (z.2 7 1 1).toNatClampNeg)
def w_X2_add (z : CS) (r1 : Nat) : CS := if z.2 7 1 1 < 0 then (w_X2_add_loop z r1 3 0 z) else if (4 : Int32) ≤ z.2 7 1 1 then (w_X2_add_loop z r1 3 0 z) else w7 (zR z (2 + (z.2 7 1 1).toNatClampNeg) r1) 1 1 ((z.2 7 1 1) + (1 : Int32))
theorem q_X2_add : yX2_add.cls ≠ "java/lang/invoke/MethodHandle" ∧ yX2_add.cls ≠ "java/lang/invoke/VarHandle" ∧ (parseMethodDescriptor yX2_add.desc).map (fun d => d.parameters.length) = some 1 := ⟨by decide, by decide, by decide +kernel⟩
set_option maxHeartbeats 4000000 in
set_option maxRecDepth 100000 in
theorem c_X2_add (l : Launch) (G : kG) (a : Nat → Nat) (hI : gI 334 a) (z : CS) (r1 : Nat) (hr1 : r1 < 7) (hR : RI z.1) : Met l yX2_add (Cond.code yX2_add cX2_add 4 (some (.object "InvoiceBook$Book")) :: BIG) (rmK 0) (pcG G (cP G a z) [.ref (a 330), .ref (a (47 * r1))]) (qcQ G (gA 334 a) (cP G a (w_X2_add z r1)) (some (a (47 * (v_X2_add z r1))))) 0 0 (gA 334 a) := by
  refine m_start (by decide) (Nat.le_of_ble_eq_true rfl) ?_
  intro p e s m args below meth c S hr hlk hnm hP hK ls hl
  have hx := S.1
  have hb := S.2.1
  have hown := S.2.2.2.1
  have hS : va_S (gA 334 a) s.heap s.heap [] := va_S.rf
  have hl : lv_has ls 4 [(0, .ref (a 330)), (1, .ref (a (47 * r1)))] := hl
  refine lv_aload_n hx hb dX2_add_0 rfl (lv_at hl 0 rfl) ?_
  refine g_get S hK hP (i := 330) (by omega) cC1 rfl inlX2 1 (by decide) k_271 (v := .int (z.2 7 1 1)) (congrArg Value.int (Eq.trans (congrFun (fl_7 (t := 1) (by decide)) 1) (rfl))) dX2_add_1 ?_
  refine lv_if_lt (tgt := 51) hx hb dX2_add_4 (by decide) (fun c1 => ?_) (fun c1 => ?_)
  · skip
    refine lv_aload_n hx hb dX2_add_51 rfl (lv_at hl 0 rfl) ?_
    refine g_get S hK hP (i := 330) (by omega) cC1 rfl inlX2 0 (by decide) k_53 (v := .ref (a 331)) rfl dX2_add_52 ?_
    refine lv_iconst (v := 0) hx hb dX2_add_55 (by decide) ?_
    refine c_kaldN S hK hP (k := 0) (by omega) dX2_add_56 ?_
    refine lv_astore_n (lv' := [(2, .ref (a (47 * (z.1 (2 + 0))))), (0, .ref (a 330)), (1, .ref (a (47 * r1)))]) hx hb dX2_add_57 rfl hl (by decide) rfl (fun ls hl => ?_)
    refine lv_iconst (v := 1) hx hb dX2_add_58 (by decide) ?_
    refine lv_istore_n (lv' := [(3, .int (1 : Int32)), (2, .ref (a (47 * (z.1 (2 + 0))))), (0, .ref (a 330)), (1, .ref (a (47 * r1)))]) hx hb dX2_add_59 rfl hl (by decide) rfl (fun ls hl => ?_)
    have LP_loop : ∀ (n : Nat) (k : Nat), k + n = 3 → ∀ (z1 : CS) (H : Heap) (locs : List Loc), cP G a z1 H → va_S (gA 334 a) s.heap H locs → RI z1.1 → ∀ ls : Array Slot, lv_has ls 4 [(3, .int (nI (k + 1))), (2, .ref (a (47 * (z.1 (2 + 0))))), (0, .ref (a 330)), (1, .ref (a (47 * r1)))] → W p l e (rmK 0) s m args below meth c H locs 0 0 (MQ below (qcQ G (gA 334 a) (cP G a (w_X2_add_loop z r1 n k z1)) (some (a (47 * (v_X2_add_loop z r1 n k z1))))) args s 0 0 (gA 334 a)) (F0 m 60 ls []) := by
      intro n
      induction n with
      | zero =>
        intro k hk_LP_loop z1 H locs hP hS hRk ls hl
        refine lv_iload_n hx hb dX2_add_60 rfl (lv_at hl 0 rfl) ?_
        refine lv_aload_n hx hb dX2_add_61 rfl (lv_at hl 2 rfl) ?_
        refine g_get S hK hP (i := 330) (by omega) cC1 rfl inlX2 0 (by decide) k_53 (v := .ref (a 331)) rfl dX2_add_62 ?_
        refine g_alen S hK hP (i := 331) (by omega) (cC2 _) 3 rfl (v := 4) rfl dX2_add_65 ?_
        refine lv_icmp_ge (tgt := 89) hx hb dX2_add_66 (by decide) (fun _ => ?_) (fun c => absurd ((nI_leI (a := 4) (b := (k + 1)) (by omega) (by omega)).mpr (by omega)) c)
        refine lv_aload_n hx hb dX2_add_89 rfl (lv_at hl 2 rfl) ?_
        refine g_get S hK hP (i := 330) (by omega) cC1 rfl inlX2 0 (by decide) k_53 (v := .ref (a 331)) rfl dX2_add_90 ?_
        refine lv_aload_n hx hb dX2_add_93 rfl (lv_at hl 2 rfl) ?_
        refine g_get S hK hP (i := 330) (by omega) cC1 rfl inlX2 0 (by decide) k_53 (v := .ref (a 331)) rfl dX2_add_94 ?_
        refine g_alen S hK hP (i := 331) (by omega) (cC2 _) 3 rfl (v := 4) rfl dX2_add_97 ?_
        refine lv_iconst (v := 1) hx hb dX2_add_98 (by decide) ?_
        refine lv_isub hx hb dX2_add_99 ?_
        refine r_top (v := 3) (by decide) ?_
        refine lv_aload_n hx hb dX2_add_100 rfl (lv_at hl 3 rfl) ?_
        refine c_kastN S hK hP hI hS (r := r1) hr1 (k := 3) (by omega) dX2_add_101 (fun H locs hP hS => ?_)
        have hP : cP G a (zR z1 (2 + 3) r1) H := hP
        refine lv_aload_n hx hb dX2_add_102 rfl (lv_at hl 1 rfl) ?_
        exact e_ref (v := some (a (47 * (z.1 (2 + 0))))) S hr (Or.inl ⟨_, rfl⟩) hlk hK hS (cP_eq (show w_X2_add_loop z r1 0 k z1 = zR z1 (2 + 3) r1 from rfl) hP) (congrArg (fun o : Nat => some (a (47 * o))) (show v_X2_add_loop z r1 0 k z1 = z.1 (2 + 0) from rfl).symm) dX2_add_103
      | succ n ih_LP_loop =>
        intro k hk_LP_loop z1 H locs hP hS hRk ls hl
        refine lv_iload_n hx hb dX2_add_60 rfl (lv_at hl 0 rfl) ?_
        refine lv_aload_n hx hb dX2_add_61 rfl (lv_at hl 2 rfl) ?_
        refine g_get S hK hP (i := 330) (by omega) cC1 rfl inlX2 0 (by decide) k_53 (v := .ref (a 331)) rfl dX2_add_62 ?_
        refine g_alen S hK hP (i := 331) (by omega) (cC2 _) 3 rfl (v := 4) rfl dX2_add_65 ?_
        refine lv_icmp_ge (tgt := 89) hx hb dX2_add_66 (by decide) (fun c => absurd c (fun z => absurd ((nI_leI (a := 4) (b := (k + 1)) (by omega) (by omega)).mp z) (by omega))) (fun _ => ?_)
        refine lv_aload_n hx hb dX2_add_69 rfl (lv_at hl 2 rfl) ?_
        refine g_get S hK hP (i := 330) (by omega) cC1 rfl inlX2 0 (by decide) k_53 (v := .ref (a 331)) rfl dX2_add_70 ?_
        refine lv_iload_n hx hb dX2_add_73 rfl (lv_at hl 0 rfl) ?_
        refine lv_iconst (v := 1) hx hb dX2_add_74 (by decide) ?_
        refine lv_isub hx hb dX2_add_75 ?_
        refine r_top (v := nI k) (nI_pred k) ?_
        refine lv_aload_n hx hb dX2_add_76 rfl (lv_at hl 2 rfl) ?_
        refine g_get S hK hP (i := 330) (by omega) cC1 rfl inlX2 0 (by decide) k_53 (v := .ref (a 331)) rfl dX2_add_77 ?_
        refine lv_iload_n hx hb dX2_add_80 rfl (lv_at hl 0 rfl) ?_
        refine c_kaldN S hK hP (k := k + 1) (by omega) dX2_add_81 ?_
        refine c_kastN S hK hP hI hS (r := z1.1 (2 + (k + 1))) (hRk (2 + (k + 1)) (by omega)) (k := k) (by omega) dX2_add_82 (fun H locs hP hS => ?_)
        have hP : cP G a (zR z1 (2 + k) (z1.1 (2 + (k + 1)))) H := hP
        refine lv_iinc (v := nI (k + 1 + 1)) (lv' := [(3, .int (nI (k + 1 + 1))), (2, .ref (a (47 * (z.1 (2 + 0))))), (0, .ref (a 330)), (1, .ref (a (47 * r1)))]) hx hb dX2_add_83 hl (k := 0) rfl (nI_1 _) (by decide) rfl (fun ls hl => ?_)
        refine lv_goto (tgt := 60) hx hb dX2_add_86 (by decide) ?_
        refine q_eqQz (show v_X2_add_loop z r1 (n + 1) k z1 = v_X2_add_loop z r1 n (k + 1) (zR z1 (2 + k) (z1.1 (2 + (k + 1)))) from rfl) (show w_X2_add_loop z r1 (n + 1) k z1 = w_X2_add_loop z r1 n (k + 1) (zR z1 (2 + k) (z1.1 (2 + (k + 1)))) from rfl) ?_
        exact ih_LP_loop (k + 1) (by omega) _ _ _ hP hS (RI_up hRk (hRk _ (by omega))) ls (lv_sub hl [0, 1, 2, 3] rfl)
    refine q_eqQz (show v_X2_add z r1 = v_X2_add_loop z r1 3 0 z from (if_pos c1).trans rfl) (show w_X2_add z r1 = w_X2_add_loop z r1 3 0 z from (if_pos c1).trans rfl) ?_
    exact LP_loop 3 0 (by omega) _ _ _ hP hS hR ls (lv_sub hl [0, 1, 2, 3] rfl)
  · skip
    refine lv_aload_n hx hb dX2_add_7 rfl (lv_at hl 0 rfl) ?_
    refine g_get S hK hP (i := 330) (by omega) cC1 rfl inlX2 1 (by decide) k_271 (v := .int (z.2 7 1 1)) (congrArg Value.int (Eq.trans (congrFun (fl_7 (t := 1) (by decide)) 1) (rfl))) dX2_add_8 ?_
    refine lv_aload_n hx hb dX2_add_11 rfl (lv_at hl 0 rfl) ?_
    refine g_get S hK hP (i := 330) (by omega) cC1 rfl inlX2 0 (by decide) k_53 (v := .ref (a 331)) rfl dX2_add_12 ?_
    refine g_alen S hK hP (i := 331) (by omega) (cC2 _) 3 rfl (v := 4) rfl dX2_add_15 ?_
    refine lv_icmp_ge (tgt := 51) hx hb dX2_add_16 (by decide) (fun c2 => ?_) (fun c2 => ?_)
    · skip
      refine lv_aload_n hx hb dX2_add_51 rfl (lv_at hl 0 rfl) ?_
      refine g_get S hK hP (i := 330) (by omega) cC1 rfl inlX2 0 (by decide) k_53 (v := .ref (a 331)) rfl dX2_add_52 ?_
      refine lv_iconst (v := 0) hx hb dX2_add_55 (by decide) ?_
      refine c_kaldN S hK hP (k := 0) (by omega) dX2_add_56 ?_
      refine lv_astore_n (lv' := [(2, .ref (a (47 * (z.1 (2 + 0))))), (0, .ref (a 330)), (1, .ref (a (47 * r1)))]) hx hb dX2_add_57 rfl hl (by decide) rfl (fun ls hl => ?_)
      refine lv_iconst (v := 1) hx hb dX2_add_58 (by decide) ?_
      refine lv_istore_n (lv' := [(3, .int (1 : Int32)), (2, .ref (a (47 * (z.1 (2 + 0))))), (0, .ref (a 330)), (1, .ref (a (47 * r1)))]) hx hb dX2_add_59 rfl hl (by decide) rfl (fun ls hl => ?_)
      have LP_loop : ∀ (n : Nat) (k : Nat), k + n = 3 → ∀ (z1 : CS) (H : Heap) (locs : List Loc), cP G a z1 H → va_S (gA 334 a) s.heap H locs → RI z1.1 → ∀ ls : Array Slot, lv_has ls 4 [(3, .int (nI (k + 1))), (2, .ref (a (47 * (z.1 (2 + 0))))), (0, .ref (a 330)), (1, .ref (a (47 * r1)))] → W p l e (rmK 0) s m args below meth c H locs 0 0 (MQ below (qcQ G (gA 334 a) (cP G a (w_X2_add_loop z r1 n k z1)) (some (a (47 * (v_X2_add_loop z r1 n k z1))))) args s 0 0 (gA 334 a)) (F0 m 60 ls []) := by
        intro n
        induction n with
        | zero =>
          intro k hk_LP_loop z1 H locs hP hS hRk ls hl
          refine lv_iload_n hx hb dX2_add_60 rfl (lv_at hl 0 rfl) ?_
          refine lv_aload_n hx hb dX2_add_61 rfl (lv_at hl 2 rfl) ?_
          refine g_get S hK hP (i := 330) (by omega) cC1 rfl inlX2 0 (by decide) k_53 (v := .ref (a 331)) rfl dX2_add_62 ?_
          refine g_alen S hK hP (i := 331) (by omega) (cC2 _) 3 rfl (v := 4) rfl dX2_add_65 ?_
          refine lv_icmp_ge (tgt := 89) hx hb dX2_add_66 (by decide) (fun _ => ?_) (fun c => absurd ((nI_leI (a := 4) (b := (k + 1)) (by omega) (by omega)).mpr (by omega)) c)
          refine lv_aload_n hx hb dX2_add_89 rfl (lv_at hl 2 rfl) ?_
          refine g_get S hK hP (i := 330) (by omega) cC1 rfl inlX2 0 (by decide) k_53 (v := .ref (a 331)) rfl dX2_add_90 ?_
          refine lv_aload_n hx hb dX2_add_93 rfl (lv_at hl 2 rfl) ?_
          refine g_get S hK hP (i := 330) (by omega) cC1 rfl inlX2 0 (by decide) k_53 (v := .ref (a 331)) rfl dX2_add_94 ?_
          refine g_alen S hK hP (i := 331) (by omega) (cC2 _) 3 rfl (v := 4) rfl dX2_add_97 ?_
          refine lv_iconst (v := 1) hx hb dX2_add_98 (by decide) ?_
          refine lv_isub hx hb dX2_add_99 ?_
          refine r_top (v := 3) (by decide) ?_
          refine lv_aload_n hx hb dX2_add_100 rfl (lv_at hl 3 rfl) ?_
          refine c_kastN S hK hP hI hS (r := r1) hr1 (k := 3) (by omega) dX2_add_101 (fun H locs hP hS => ?_)
          have hP : cP G a (zR z1 (2 + 3) r1) H := hP
          refine lv_aload_n hx hb dX2_add_102 rfl (lv_at hl 1 rfl) ?_
          exact e_ref (v := some (a (47 * (z.1 (2 + 0))))) S hr (Or.inl ⟨_, rfl⟩) hlk hK hS (cP_eq (show w_X2_add_loop z r1 0 k z1 = zR z1 (2 + 3) r1 from rfl) hP) (congrArg (fun o : Nat => some (a (47 * o))) (show v_X2_add_loop z r1 0 k z1 = z.1 (2 + 0) from rfl).symm) dX2_add_103
        | succ n ih_LP_loop =>
          intro k hk_LP_loop z1 H locs hP hS hRk ls hl
          refine lv_iload_n hx hb dX2_add_60 rfl (lv_at hl 0 rfl) ?_
          refine lv_aload_n hx hb dX2_add_61 rfl (lv_at hl 2 rfl) ?_
          refine g_get S hK hP (i := 330) (by omega) cC1 rfl inlX2 0 (by decide) k_53 (v := .ref (a 331)) rfl dX2_add_62 ?_
          refine g_alen S hK hP (i := 331) (by omega) (cC2 _) 3 rfl (v := 4) rfl dX2_add_65 ?_
          refine lv_icmp_ge (tgt := 89) hx hb dX2_add_66 (by decide) (fun c => absurd c (fun z => absurd ((nI_leI (a := 4) (b := (k + 1)) (by omega) (by omega)).mp z) (by omega))) (fun _ => ?_)
          refine lv_aload_n hx hb dX2_add_69 rfl (lv_at hl 2 rfl) ?_
          refine g_get S hK hP (i := 330) (by omega) cC1 rfl inlX2 0 (by decide) k_53 (v := .ref (a 331)) rfl dX2_add_70 ?_
          refine lv_iload_n hx hb dX2_add_73 rfl (lv_at hl 0 rfl) ?_
          refine lv_iconst (v := 1) hx hb dX2_add_74 (by decide) ?_
          refine lv_isub hx hb dX2_add_75 ?_
          refine r_top (v := nI k) (nI_pred k) ?_
          refine lv_aload_n hx hb dX2_add_76 rfl (lv_at hl 2 rfl) ?_
          refine g_get S hK hP (i := 330) (by omega) cC1 rfl inlX2 0 (by decide) k_53 (v := .ref (a 331)) rfl dX2_add_77 ?_
          refine lv_iload_n hx hb dX2_add_80 rfl (lv_at hl 0 rfl) ?_
          refine c_kaldN S hK hP (k := k + 1) (by omega) dX2_add_81 ?_
          refine c_kastN S hK hP hI hS (r := z1.1 (2 + (k + 1))) (hRk (2 + (k + 1)) (by omega)) (k := k) (by omega) dX2_add_82 (fun H locs hP hS => ?_)
          have hP : cP G a (zR z1 (2 + k) (z1.1 (2 + (k + 1)))) H := hP
          refine lv_iinc (v := nI (k + 1 + 1)) (lv' := [(3, .int (nI (k + 1 + 1))), (2, .ref (a (47 * (z.1 (2 + 0))))), (0, .ref (a 330)), (1, .ref (a (47 * r1)))]) hx hb dX2_add_83 hl (k := 0) rfl (nI_1 _) (by decide) rfl (fun ls hl => ?_)
          refine lv_goto (tgt := 60) hx hb dX2_add_86 (by decide) ?_
          refine q_eqQz (show v_X2_add_loop z r1 (n + 1) k z1 = v_X2_add_loop z r1 n (k + 1) (zR z1 (2 + k) (z1.1 (2 + (k + 1)))) from rfl) (show w_X2_add_loop z r1 (n + 1) k z1 = w_X2_add_loop z r1 n (k + 1) (zR z1 (2 + k) (z1.1 (2 + (k + 1)))) from rfl) ?_
          exact ih_LP_loop (k + 1) (by omega) _ _ _ hP hS (RI_up hRk (hRk _ (by omega))) ls (lv_sub hl [0, 1, 2, 3] rfl)
      refine q_eqQz (show v_X2_add z r1 = v_X2_add_loop z r1 3 0 z from (if_neg c1).trans ((if_pos c2).trans rfl)) (show w_X2_add z r1 = w_X2_add_loop z r1 3 0 z from (if_neg c1).trans ((if_pos c2).trans rfl)) ?_
      exact LP_loop 3 0 (by omega) _ _ _ hP hS hR ls (lv_sub hl [0, 1, 2, 3] rfl)
    · skip
      refine lv_aload_n hx hb dX2_add_19 rfl (lv_at hl 0 rfl) ?_
      refine g_get S hK hP (i := 330) (by omega) cC1 rfl inlX2 0 (by decide) k_53 (v := .ref (a 331)) rfl dX2_add_20 ?_
      refine lv_aload_n hx hb dX2_add_23 rfl (lv_at hl 0 rfl) ?_
      refine g_get S hK hP (i := 330) (by omega) cC1 rfl inlX2 1 (by decide) k_271 (v := .int (z.2 7 1 1)) (congrArg Value.int (Eq.trans (congrFun (fl_7 (t := 1) (by decide)) 1) (rfl))) dX2_add_24 ?_
      have hvp : vp_in (z.2 7 1 1) 4 := (vp_of (vp_lo1 c1) (vp_hi1 (n := 4) c2 rfl (by decide)))
      have hvl := vp_lt hvp
      refine c_kald S hK hP hvp dX2_add_27 ?_
      refine lv_astore_n (lv' := [(2, .ref (a (47 * (z.1 (2 + (z.2 7 1 1).toNatClampNeg))))), (0, .ref (a 330)), (1, .ref (a (47 * r1)))]) hx hb dX2_add_28 rfl hl (by decide) rfl (fun ls hl => ?_)
      refine lv_aload_n hx hb dX2_add_29 rfl (lv_at hl 1 rfl) ?_
      refine g_get S hK hP (i := 330) (by omega) cC1 rfl inlX2 0 (by decide) k_53 (v := .ref (a 331)) rfl dX2_add_30 ?_
      refine lv_aload_n hx hb dX2_add_33 rfl (lv_at hl 1 rfl) ?_
      refine g_get S hK hP (i := 330) (by omega) cC1 rfl inlX2 1 (by decide) k_271 (v := .int (z.2 7 1 1)) (congrArg Value.int (Eq.trans (congrFun (fl_7 (t := 1) (by decide)) 1) (rfl))) dX2_add_34 ?_
      refine lv_aload_n hx hb dX2_add_37 rfl (lv_at hl 2 rfl) ?_
      refine c_kast S hK hP hI hS (r := r1) hr1 (vp_of (vp_lo1 c1) (vp_hi1 (n := 4) c2 rfl (by decide))) dX2_add_38 (fun H locs hP hS => ?_)
      have hP : cP G a (zR z (2 + (z.2 7 1 1).toNatClampNeg) r1) H := hP
      refine lv_aload_n hx hb dX2_add_39 rfl (lv_at hl 1 rfl) ?_
      refine lv_dup hx hb dX2_add_40 rfl ?_
      refine g_get S hK hP (i := 330) (by omega) cC1 rfl inlX2 1 (by decide) k_271 (v := .int (z.2 7 1 1)) (congrArg Value.int (Eq.trans (congrFun (fl_7 (t := 1) (by decide)) 1) (rfl))) dX2_add_41 ?_
      refine lv_iconst (v := 1) hx hb dX2_add_44 (by decide) ?_
      refine lv_iadd hx hb dX2_add_45 ?_
      refine c_put7 (t := 1) (by decide) S hK hP hI hS cC1 rfl inlX2 tyX2 tyX2_ok nmX2 hF_n 1 (by decide) k_271 rfl pI rfl rfl (fun _ => rfl) dX2_add_46 (fun H locs hP hS => ?_)
      have hP : cP G a (w7 (zR z (2 + (z.2 7 1 1).toNatClampNeg) r1) 1 1 ((z.2 7 1 1) + (1 : Int32))) H := hP
      refine lv_aload_n hx hb dX2_add_49 rfl (lv_at hl 0 rfl) ?_
      exact e_ref (v := some (a (47 * (z.1 (2 + (z.2 7 1 1).toNatClampNeg))))) S hr (Or.inl ⟨_, rfl⟩) hlk hK hS (cP_eq (show w_X2_add z r1 = w7 (zR z (2 + (z.2 7 1 1).toNatClampNeg) r1) 1 1 ((z.2 7 1 1) + (1 : Int32)) from (if_neg c1).trans ((if_neg c2).trans rfl)) hP) (congrArg (fun o : Nat => some (a (47 * o))) (show v_X2_add z r1 = z.1 (2 + (z.2 7 1 1).toNatClampNeg) from (if_neg c1).trans ((if_neg c2).trans rfl)).symm) dX2_add_50

def v_X2_takeLatest (z : CS) (r1 : Nat) : Nat := if z.2 7 1 1 ≤ 0 then r1 else if z.2 7 1 1 ≤ (4 : Int32) then ((w7 z 1 1 ((z.2 7 1 1) - (1 : Int32))).1 (2 + ((z.2 7 1 1) - (1 : Int32)).toNatClampNeg)) else r1
def w_X2_takeLatest (z : CS) (r1 : Nat) : CS := if z.2 7 1 1 ≤ 0 then z else if z.2 7 1 1 ≤ (4 : Int32) then (zR (w7 z 1 1 ((z.2 7 1 1) - (1 : Int32))) (2 + ((z.2 7 1 1) - (1 : Int32)).toNatClampNeg) r1) else z
theorem q_X2_takeLatest : yX2_takeLatest.cls ≠ "java/lang/invoke/MethodHandle" ∧ yX2_takeLatest.cls ≠ "java/lang/invoke/VarHandle" ∧ (parseMethodDescriptor yX2_takeLatest.desc).map (fun d => d.parameters.length) = some 1 := ⟨by decide, by decide, by decide +kernel⟩
set_option maxHeartbeats 4000000 in
set_option maxRecDepth 100000 in
theorem c_X2_takeLatest (l : Launch) (G : kG) (a : Nat → Nat) (hI : gI 334 a) (z : CS) (r1 : Nat) (hr1 : r1 < 7) (hR : RI z.1) : Met l yX2_takeLatest (Cond.code yX2_takeLatest cX2_takeLatest 3 (some (.object "InvoiceBook$Book")) :: BIG) (rmK 0) (pcG G (cP G a z) [.ref (a 330), .ref (a (47 * r1))]) (qcQ G (gA 334 a) (cP G a (w_X2_takeLatest z r1)) (some (a (47 * (v_X2_takeLatest z r1))))) 0 0 (gA 334 a) := by
  refine m_start (by decide) (Nat.le_of_ble_eq_true rfl) ?_
  intro p e s m args below meth c S hr hlk hnm hP hK ls hl
  have hx := S.1
  have hb := S.2.1
  have hown := S.2.2.2.1
  have hS : va_S (gA 334 a) s.heap s.heap [] := va_S.rf
  have hl : lv_has ls 3 [(0, .ref (a 330)), (1, .ref (a (47 * r1)))] := hl
  refine lv_aload_n hx hb dX2_takeLatest_0 rfl (lv_at hl 0 rfl) ?_
  refine g_get S hK hP (i := 330) (by omega) cC1 rfl inlX2 1 (by decide) k_271 (v := .int (z.2 7 1 1)) (congrArg Value.int (Eq.trans (congrFun (fl_7 (t := 1) (by decide)) 1) (rfl))) dX2_takeLatest_1 ?_
  refine lv_if_le (tgt := 19) hx hb dX2_takeLatest_4 (by decide) (fun c1 => ?_) (fun c1 => ?_)
  · skip
    refine lv_aload_n hx hb dX2_takeLatest_19 rfl (lv_at hl 1 rfl) ?_
    exact e_ref (v := some (a (47 * r1))) S hr (Or.inl ⟨_, rfl⟩) hlk hK hS (cP_eq (show w_X2_takeLatest z r1 = z from (if_pos c1).trans rfl) hP) (congrArg (fun o : Nat => some (a (47 * o))) (show v_X2_takeLatest z r1 = r1 from (if_pos c1).trans rfl).symm) dX2_takeLatest_20
  · skip
    refine lv_aload_n hx hb dX2_takeLatest_7 rfl (lv_at hl 0 rfl) ?_
    refine g_get S hK hP (i := 330) (by omega) cC1 rfl inlX2 1 (by decide) k_271 (v := .int (z.2 7 1 1)) (congrArg Value.int (Eq.trans (congrFun (fl_7 (t := 1) (by decide)) 1) (rfl))) dX2_takeLatest_8 ?_
    refine lv_aload_n hx hb dX2_takeLatest_11 rfl (lv_at hl 0 rfl) ?_
    refine g_get S hK hP (i := 330) (by omega) cC1 rfl inlX2 0 (by decide) k_53 (v := .ref (a 331)) rfl dX2_takeLatest_12 ?_
    refine g_alen S hK hP (i := 331) (by omega) (cC2 _) 3 rfl (v := 4) rfl dX2_takeLatest_15 ?_
    refine lv_icmp_le (tgt := 21) hx hb dX2_takeLatest_16 (by decide) (fun c2 => ?_) (fun c2 => ?_)
    · skip
      refine lv_aload_n hx hb dX2_takeLatest_21 rfl (lv_at hl 0 rfl) ?_
      refine lv_dup hx hb dX2_takeLatest_22 rfl ?_
      refine g_get S hK hP (i := 330) (by omega) cC1 rfl inlX2 1 (by decide) k_271 (v := .int (z.2 7 1 1)) (congrArg Value.int (Eq.trans (congrFun (fl_7 (t := 1) (by decide)) 1) (rfl))) dX2_takeLatest_23 ?_
      refine lv_iconst (v := 1) hx hb dX2_takeLatest_26 (by decide) ?_
      refine lv_isub hx hb dX2_takeLatest_27 ?_
      refine c_put7 (t := 1) (by decide) S hK hP hI hS cC1 rfl inlX2 tyX2 tyX2_ok nmX2 hF_n 1 (by decide) k_271 rfl pI rfl rfl (fun _ => rfl) dX2_takeLatest_28 (fun H locs hP hS => ?_)
      have hP : cP G a (w7 z 1 1 ((z.2 7 1 1) - (1 : Int32))) H := hP
      refine lv_aload_n hx hb dX2_takeLatest_31 rfl (lv_at hl 0 rfl) ?_
      refine g_get S hK hP (i := 330) (by omega) cC1 rfl inlX2 0 (by decide) k_53 (v := .ref (a 331)) rfl dX2_takeLatest_32 ?_
      refine lv_aload_n hx hb dX2_takeLatest_35 rfl (lv_at hl 0 rfl) ?_
      refine g_get S hK hP (i := 330) (by omega) cC1 rfl inlX2 1 (by decide) k_271 (v := .int ((z.2 7 1 1) - (1 : Int32))) (congrArg Value.int (Eq.trans (congrFun (fl_7 (t := 1) (by decide)) 1) (w7_same))) dX2_takeLatest_36 ?_
      have hvp : vp_in ((z.2 7 1 1) - (1 : Int32)) 4 := (vp_dec c1 c2)
      have hvl := vp_lt hvp
      refine c_kald S hK hP hvp dX2_takeLatest_39 ?_
      refine lv_astore_n (lv' := [(2, .ref (a (47 * ((w7 z 1 1 ((z.2 7 1 1) - (1 : Int32))).1 (2 + ((z.2 7 1 1) - (1 : Int32)).toNatClampNeg))))), (0, .ref (a 330)), (1, .ref (a (47 * r1)))]) hx hb dX2_takeLatest_40 rfl hl (by decide) rfl (fun ls hl => ?_)
      refine lv_aload_n hx hb dX2_takeLatest_41 rfl (lv_at hl 1 rfl) ?_
      refine g_get S hK hP (i := 330) (by omega) cC1 rfl inlX2 0 (by decide) k_53 (v := .ref (a 331)) rfl dX2_takeLatest_42 ?_
      refine lv_aload_n hx hb dX2_takeLatest_45 rfl (lv_at hl 1 rfl) ?_
      refine g_get S hK hP (i := 330) (by omega) cC1 rfl inlX2 1 (by decide) k_271 (v := .int ((z.2 7 1 1) - (1 : Int32))) (congrArg Value.int (Eq.trans (congrFun (fl_7 (t := 1) (by decide)) 1) (w7_same))) dX2_takeLatest_46 ?_
      refine lv_aload_n hx hb dX2_takeLatest_49 rfl (lv_at hl 2 rfl) ?_
      refine c_kast S hK hP hI hS (r := r1) hr1 (vp_dec c1 c2) dX2_takeLatest_50 (fun H locs hP hS => ?_)
      have hP : cP G a (zR (w7 z 1 1 ((z.2 7 1 1) - (1 : Int32))) (2 + ((z.2 7 1 1) - (1 : Int32)).toNatClampNeg) r1) H := hP
      refine lv_aload_n hx hb dX2_takeLatest_51 rfl (lv_at hl 0 rfl) ?_
      exact e_ref (v := some (a (47 * ((w7 z 1 1 ((z.2 7 1 1) - (1 : Int32))).1 (2 + ((z.2 7 1 1) - (1 : Int32)).toNatClampNeg))))) S hr (Or.inl ⟨_, rfl⟩) hlk hK hS (cP_eq (show w_X2_takeLatest z r1 = zR (w7 z 1 1 ((z.2 7 1 1) - (1 : Int32))) (2 + ((z.2 7 1 1) - (1 : Int32)).toNatClampNeg) r1 from (if_neg c1).trans ((if_pos c2).trans rfl)) hP) (congrArg (fun o : Nat => some (a (47 * o))) (show v_X2_takeLatest z r1 = (w7 z 1 1 ((z.2 7 1 1) - (1 : Int32))).1 (2 + ((z.2 7 1 1) - (1 : Int32)).toNatClampNeg) from (if_neg c1).trans ((if_pos c2).trans rfl)).symm) dX2_takeLatest_52
    · skip
      refine lv_aload_n hx hb dX2_takeLatest_19 rfl (lv_at hl 1 rfl) ?_
      exact e_ref (v := some (a (47 * r1))) S hr (Or.inl ⟨_, rfl⟩) hlk hK hS (cP_eq (show w_X2_takeLatest z r1 = z from (if_neg c1).trans ((if_neg c2).trans rfl)) hP) (congrArg (fun o : Nat => some (a (47 * o))) (show v_X2_takeLatest z r1 = r1 from (if_neg c1).trans ((if_neg c2).trans rfl)).symm) dX2_takeLatest_20
