theorem readThing_SI {u : Nat → Nat → Int32} (h : SI (u 1)) : SI (w_X6_readThing u 1) := by
  rw [readThing_o (by decide) (by decide)]; exact h
theorem TI_up14 {u : Nat → Nat → Int32} {v : Int32} (h : TI (u 0)) : TI (up u 0 14 v 0) := TI_eq h (up_nk (by decide)) (up_nk (by decide))
theorem TI_pr2 {u u' : Nat → Nat → Int32} (h : PR2 u u') (hT : TI (u 0)) : TI (u' 0) := by
  rw [h.2.1 0 (by decide) (by decide)]; exact hT
theorem SI_up0 {u : Nat → Nat → Int32} {k : Nat} {v : Int32} (h : SI (u 1)) : SI (up u 0 k v 1) := by
  rw [up_oi (by decide)]; exact h
theorem SI_takes {u : Nat → Nat → Int32} {a b : Int32} (h : SI (u 1)) : SI (w_X6_takes u a b 1) := by
  rw [takes_o (by decide)]; exact h
theorem pos_14 {u : Nat → Nat → Int32} {v : Int32} : sN (up u 0 14 v 0) 11 = sN (u 0) 11 := congrArg Int32.toNatClampNeg (up_nk (by decide))
theorem pos_14d {u u' : Nat → Nat → Int32} {v : Int32} (h : PR2 u u') : sN (up u' 0 14 v 0) 11 = sN (u 0) 11 := by
  rw [pos_14, h.2.1 0 (by decide) (by decide)]
theorem sm_14 {u : Nat → Nat → Int32} {v : Int32} : sm u (up u 0 14 v) := ⟨(up_nk (by decide)).symm, (up_nk (by decide)).symm, (up_nk (by decide)).symm, (up_oi (by decide)).symm⟩
theorem sm_pr2 {u u' : Nat → Nat → Int32} (h : PR2 u u') : sm u u' := ⟨by rw [h.2.1 0 (by decide) (by decide)], by rw [h.2.1 0 (by decide) (by decide)], by rw [h.2.1 0 (by decide) (by decide)], (h.2.1 6 (by decide) (by decide)).symm⟩
theorem goes_f {u R M : Nat → Nat → Int32} {n : Nat} (h : 61 ≤ sN (u 0) 11 + (n + 1)) (h2 : sN (u 0) 11 ≤ sN (R 0) 11) (h3 : sN (M 0) 11 = sN (R 0) 11) (hT : TI (M 0)) (hok : w_X6_takes M (59 : Int32) (59 : Int32) 0 12 = 0) : 61 ≤ sN (w_X6_takes M (59 : Int32) (59 : Int32) 0) 11 + n := by
  rw [takes_pos1 hT (by decide) hok]; omega
theorem goes_PV {u D : Nat → Nat → Int32} {n : Nat} {v : Int32} (h : PV (n + 1) u) (hs : sm (w_X6_readThing u) D) (hlt : ¬ D 0 8 ≤ D 0 11) : PV n (w_X6_takes (up D 0 14 v) (59 : Int32) (59 : Int32)) := by
  rcases h.2.2 with h1 | ⟨h1, h2⟩
  · exact absurd (by rw [← hs.1, ← hs.2.1]; exact h1) hlt
  · exact PV_sm n _ _ (cg_takes (hs.tr sm_14)) h2
theorem TI_st {u : Nat → Nat → Int32} {w v : Int32} (h : LI (u 0)) : TI (up (up (up u 0 11 (0 : Int32)) 0 12 w) 0 14 v 0) := by
  obtain ⟨n, h1, h2⟩ := h
  exact ⟨0, n, Nat.zero_le _, h1, (up_nk (by decide)).trans ((up_nk (by decide)).trans up_same), (up_nk (by decide)).trans ((up_nk (by decide)).trans ((up_nk (by decide)).trans h2))⟩
/-- the start of a run through the text -/
def gst (u : Nat → Nat → Int32) : Nat → Nat → Int32 := up (up (up u 0 11 (0 : Int32)) 0 12 (0 : Int32)) 0 14 (0 : Int32)
def v_X6_goes_loop (p1 : Int32) : Nat → (Nat → Nat → Int32) → Int32 → Int32 → Int32
  | 0, u1, x2, x3 => x2
  | n + 1, u1, x2, x3 => if x3 = 0 then x2 else if p1 = 0 then (if (w_X6_readThing u1) 0 12 = 0 then (if (w_X6_readThing u1) 0 8 ≤ (w_X6_readThing u1) 0 11 then (v_X6_goes_loop p1 n (up (w_X6_readThing u1) 0 14 (0 : Int32)) (x2 + (1 : Int32)) (0 : Int32)) else if (w_X6_takes (up (w_X6_readThing u1) 0 14 (0 : Int32)) (59 : Int32) (59 : Int32)) 0 12 = 0 then (v_X6_goes_loop p1 n (w_X6_takes (up (w_X6_readThing u1) 0 14 (0 : Int32)) (59 : Int32) (59 : Int32)) (x2 + (1 : Int32)) (1 : Int32)) else v_X6_goes_loop p1 n (w_X6_takes (up (w_X6_readThing u1) 0 14 (0 : Int32)) (59 : Int32) (59 : Int32)) (x2 + (1 : Int32)) (0 : Int32)) else v_X6_goes_loop p1 n (up (w_X6_readThing u1) 0 14 (0 : Int32)) (x2 + (1 : Int32)) (0 : Int32)) else if 0 ≤ v_X6_does (w_X6_readThing u1) then (if (w_X6_does (w_X6_readThing u1)) 0 12 = 0 then (if (w_X6_does (w_X6_readThing u1)) 0 8 ≤ (w_X6_does (w_X6_readThing u1)) 0 11 then (v_X6_goes_loop p1 n (up (w_X6_does (w_X6_readThing u1)) 0 14 (0 : Int32)) (x2 + (1 : Int32)) (0 : Int32)) else if (w_X6_takes (up (w_X6_does (w_X6_readThing u1)) 0 14 (0 : Int32)) (59 : Int32) (59 : Int32)) 0 12 = 0 then (v_X6_goes_loop p1 n (w_X6_takes (up (w_X6_does (w_X6_readThing u1)) 0 14 (0 : Int32)) (59 : Int32) (59 : Int32)) (x2 + (1 : Int32)) (1 : Int32)) else v_X6_goes_loop p1 n (w_X6_takes (up (w_X6_does (w_X6_readThing u1)) 0 14 (0 : Int32)) (59 : Int32) (59 : Int32)) (x2 + (1 : Int32)) (0 : Int32)) else v_X6_goes_loop p1 n (up (w_X6_does (w_X6_readThing u1)) 0 14 (0 : Int32)) (x2 + (1 : Int32)) (0 : Int32)) else if v_X6_does (w_X6_readThing u1) = 0 then (if (w_X6_does (w_X6_readThing u1)) 0 12 = 0 then (if (w_X6_does (w_X6_readThing u1)) 0 8 ≤ (w_X6_does (w_X6_readThing u1)) 0 11 then (v_X6_goes_loop p1 n (up (w_X6_does (w_X6_readThing u1)) 0 14 (v_X6_does (w_X6_readThing u1))) (x2 + (0 : Int32)) (0 : Int32)) else if (w_X6_takes (up (w_X6_does (w_X6_readThing u1)) 0 14 (v_X6_does (w_X6_readThing u1))) (59 : Int32) (59 : Int32)) 0 12 = 0 then (v_X6_goes_loop p1 n (w_X6_takes (up (w_X6_does (w_X6_readThing u1)) 0 14 (v_X6_does (w_X6_readThing u1))) (59 : Int32) (59 : Int32)) (x2 + (0 : Int32)) (1 : Int32)) else v_X6_goes_loop p1 n (w_X6_takes (up (w_X6_does (w_X6_readThing u1)) 0 14 (v_X6_does (w_X6_readThing u1))) (59 : Int32) (59 : Int32)) (x2 + (0 : Int32)) (0 : Int32)) else v_X6_goes_loop p1 n (up (w_X6_does (w_X6_readThing u1)) 0 14 (v_X6_does (w_X6_readThing u1))) (x2 + (0 : Int32)) (0 : Int32)) else v_X6_goes_loop p1 n (up (w_X6_does (w_X6_readThing u1)) 0 14 (v_X6_does (w_X6_readThing u1))) (x2 + (0 : Int32)) (0 : Int32)
def w_X6_goes_loop (p1 : Int32) : Nat → (Nat → Nat → Int32) → Int32 → Int32 → (Nat → Nat → Int32)
  | 0, u1, x2, x3 => u1
  | n + 1, u1, x2, x3 => if x3 = 0 then u1 else if p1 = 0 then (if (w_X6_readThing u1) 0 12 = 0 then (if (w_X6_readThing u1) 0 8 ≤ (w_X6_readThing u1) 0 11 then (w_X6_goes_loop p1 n (up (w_X6_readThing u1) 0 14 (0 : Int32)) (x2 + (1 : Int32)) (0 : Int32)) else if (w_X6_takes (up (w_X6_readThing u1) 0 14 (0 : Int32)) (59 : Int32) (59 : Int32)) 0 12 = 0 then (w_X6_goes_loop p1 n (w_X6_takes (up (w_X6_readThing u1) 0 14 (0 : Int32)) (59 : Int32) (59 : Int32)) (x2 + (1 : Int32)) (1 : Int32)) else w_X6_goes_loop p1 n (w_X6_takes (up (w_X6_readThing u1) 0 14 (0 : Int32)) (59 : Int32) (59 : Int32)) (x2 + (1 : Int32)) (0 : Int32)) else w_X6_goes_loop p1 n (up (w_X6_readThing u1) 0 14 (0 : Int32)) (x2 + (1 : Int32)) (0 : Int32)) else if 0 ≤ v_X6_does (w_X6_readThing u1) then (if (w_X6_does (w_X6_readThing u1)) 0 12 = 0 then (if (w_X6_does (w_X6_readThing u1)) 0 8 ≤ (w_X6_does (w_X6_readThing u1)) 0 11 then (w_X6_goes_loop p1 n (up (w_X6_does (w_X6_readThing u1)) 0 14 (0 : Int32)) (x2 + (1 : Int32)) (0 : Int32)) else if (w_X6_takes (up (w_X6_does (w_X6_readThing u1)) 0 14 (0 : Int32)) (59 : Int32) (59 : Int32)) 0 12 = 0 then (w_X6_goes_loop p1 n (w_X6_takes (up (w_X6_does (w_X6_readThing u1)) 0 14 (0 : Int32)) (59 : Int32) (59 : Int32)) (x2 + (1 : Int32)) (1 : Int32)) else w_X6_goes_loop p1 n (w_X6_takes (up (w_X6_does (w_X6_readThing u1)) 0 14 (0 : Int32)) (59 : Int32) (59 : Int32)) (x2 + (1 : Int32)) (0 : Int32)) else w_X6_goes_loop p1 n (up (w_X6_does (w_X6_readThing u1)) 0 14 (0 : Int32)) (x2 + (1 : Int32)) (0 : Int32)) else if v_X6_does (w_X6_readThing u1) = 0 then (if (w_X6_does (w_X6_readThing u1)) 0 12 = 0 then (if (w_X6_does (w_X6_readThing u1)) 0 8 ≤ (w_X6_does (w_X6_readThing u1)) 0 11 then (w_X6_goes_loop p1 n (up (w_X6_does (w_X6_readThing u1)) 0 14 (v_X6_does (w_X6_readThing u1))) (x2 + (0 : Int32)) (0 : Int32)) else if (w_X6_takes (up (w_X6_does (w_X6_readThing u1)) 0 14 (v_X6_does (w_X6_readThing u1))) (59 : Int32) (59 : Int32)) 0 12 = 0 then (w_X6_goes_loop p1 n (w_X6_takes (up (w_X6_does (w_X6_readThing u1)) 0 14 (v_X6_does (w_X6_readThing u1))) (59 : Int32) (59 : Int32)) (x2 + (0 : Int32)) (1 : Int32)) else w_X6_goes_loop p1 n (w_X6_takes (up (w_X6_does (w_X6_readThing u1)) 0 14 (v_X6_does (w_X6_readThing u1))) (59 : Int32) (59 : Int32)) (x2 + (0 : Int32)) (0 : Int32)) else w_X6_goes_loop p1 n (up (w_X6_does (w_X6_readThing u1)) 0 14 (v_X6_does (w_X6_readThing u1))) (x2 + (0 : Int32)) (0 : Int32)) else w_X6_goes_loop p1 n (up (w_X6_does (w_X6_readThing u1)) 0 14 (v_X6_does (w_X6_readThing u1))) (x2 + (0 : Int32)) (0 : Int32)
def v_X6_goes (u : Nat → Nat → Int32) (p1 : Int32) : Int32 := v_X6_goes_loop p1 61 (up (up (up u 0 11 (0 : Int32)) 0 12 (0 : Int32)) 0 14 (0 : Int32)) (0 : Int32) (1 : Int32)
def w_X6_goes (u : Nat → Nat → Int32) (p1 : Int32) : Nat → Nat → Int32 := w_X6_goes_loop p1 61 (up (up (up u 0 11 (0 : Int32)) 0 12 (0 : Int32)) 0 14 (0 : Int32)) (0 : Int32) (1 : Int32)
theorem q_X6_goes : yX6_goes.cls ≠ "java/lang/invoke/MethodHandle" ∧ yX6_goes.cls ≠ "java/lang/invoke/VarHandle" ∧ (parseMethodDescriptor yX6_goes.desc).map (fun d => d.parameters.length) = some 1 := ⟨by decide, by decide, by decide +kernel⟩
set_option maxHeartbeats 4000000 in
set_option maxRecDepth 100000 in
theorem c_X6_goes (l : Launch) (G : kG) (a : Nat → Nat) (hI : gI 8 a) (u : Nat → Nat → Int32) (p1 : Int32) (hm : SI (u 1)) (hLI : LI (u 0)) (hPV : ¬ p1 = 0 → PV 61 (gst u)) : Met l yX6_goes (Cond.code yX6_goes cX6_goes 6 (some .int) :: BIG) (rmK 10) (pcG G (mP G a u) [.ref (a 0), .int p1]) (qcI G (gA 8 a) (mP G a (w_X6_goes u p1)) (v_X6_goes u p1)) 0 0 (gA 8 a) := by
  refine m_start (by decide) (Nat.le_of_ble_eq_true rfl) ?_
  intro p e s m args below meth c S hr hlk hnm hP hK ls hl
  have hx := S.1
  have hb := S.2.1
  have hown := S.2.2.2.1
  have hS : va_S (gA 8 a) s.heap s.heap [] := va_S.rf
  have hl : lv_has ls 6 [(0, .ref (a 0)), (1, .int p1)] := hl
  refine lv_aload_n hx hb dX6_goes_0 rfl (lv_at hl 0 rfl) ?_
  refine lv_iconst (v := 0) hx hb dX6_goes_1 (by decide) ?_
  refine g_put S hK hP hI hS (i := 0) (by omega) mC0 rfl inlX6 tyX6 tyX6_ok nmX6 mF_n 11 (by decide) k_588 rfl pI rfl rfl (fun _ => rfl) dX6_goes_2 (fun H locs hP hS => ?_)
  have hP : mP G a (up u 0 11 (0 : Int32)) H := hP
  refine lv_aload_n hx hb dX6_goes_5 rfl (lv_at hl 0 rfl) ?_
  refine lv_iconst (v := 0) hx hb dX6_goes_6 (by decide) ?_
  refine g_put S hK hP hI hS (i := 0) (by omega) mC0 rfl inlX6 tyX6 tyX6_ok nmX6 mF_n 12 (by decide) k_587 rfl pZ rfl rfl (fun _ => rfl) dX6_goes_7 (fun H locs hP hS => ?_)
  have hP : mP G a (up (up u 0 11 (0 : Int32)) 0 12 (0 : Int32)) H := hP
  refine lv_aload_n hx hb dX6_goes_10 rfl (lv_at hl 0 rfl) ?_
  refine lv_iconst (v := 0) hx hb dX6_goes_11 (by decide) ?_
  refine g_put S hK hP hI hS (i := 0) (by omega) mC0 rfl inlX6 tyX6 tyX6_ok nmX6 mF_n 14 (by decide) k_589 rfl pI rfl rfl (fun _ => rfl) dX6_goes_12 (fun H locs hP hS => ?_)
  have hP : mP G a (up (up (up u 0 11 (0 : Int32)) 0 12 (0 : Int32)) 0 14 (0 : Int32)) H := hP
  refine lv_iconst (v := 0) hx hb dX6_goes_15 (by decide) ?_
  refine lv_istore_n (lv' := [(2, .int (0 : Int32)), (0, .ref (a 0)), (1, .int p1)]) hx hb dX6_goes_16 rfl hl (by decide) rfl (fun ls hl => ?_)
  refine lv_iconst (v := 1) hx hb dX6_goes_17 (by decide) ?_
  refine lv_istore_n (lv' := [(3, .int (1 : Int32)), (2, .int (0 : Int32)), (0, .ref (a 0)), (1, .int p1)]) hx hb dX6_goes_18 rfl hl (by decide) rfl (fun ls hl => ?_)
  have LP_loop : ∀ (n : Nat), True → ∀ (u1 : Nat → Nat → Int32) (x2 : Int32) (x3 : Int32) (H : Heap) (locs : List Loc), mP G a u1 H → va_S (gA 8 a) s.heap H locs → TI (u1 0) → SI (u1 1) → x3 = 0 ∨ u1 0 12 = 0 → x3 = 0 ∨ 61 ≤ sN (u1 0) 11 + n → x3 = 0 ∨ p1 = 0 ∨ PV n u1 → ∀ ls : Array Slot, lv_has ls 6 [(3, .int x3), (2, .int x2), (0, .ref (a 0)), (1, .int p1)] → W p l e (rmK 10) s m args below meth c H locs 0 0 (MQ below (qcI G (gA 8 a) (mP G a (w_X6_goes_loop p1 n u1 x2 x3)) (v_X6_goes_loop p1 n u1 x2 x3)) args s 0 0 (gA 8 a)) (F0 m 19 ls []) := by
    intro n
    induction n with
    | zero =>
      intro  hk_LP_loop u1 x2 x3 H locs hP hS hT1 hm1 hw1 hf hPV1 ls hl
      have h60 := TI_60 hT1
      have hle := TI_le hT1
      refine lv_iload_n hx hb dX6_goes_19 rfl (lv_at hl 0 rfl) ?_
      refine lv_if_eq (tgt := 130) hx hb dX6_goes_20 (by decide) (fun _ => ?_) (fun c => absurd (hf.elim id (fun z => absurd z (by omega))) c)
      refine lv_iload_n hx hb dX6_goes_130 rfl (lv_at hl 1 rfl) ?_
      exact e_int S hr hlk rfl hK hS (gP_eq (show w_X6_goes_loop p1 0 u1 x2 x3 = u1 from rfl) hP) (show v_X6_goes_loop p1 0 u1 x2 x3 = x2 from rfl).symm dX6_goes_131
    | succ n ih_LP_loop =>
      intro  hk_LP_loop u1 x2 x3 H locs hP hS hT1 hm1 hw1 hf hPV1 ls hl
      have h60 := TI_60 hT1
      have hle := TI_le hT1
      refine lv_iload_n hx hb dX6_goes_19 rfl (lv_at hl 0 rfl) ?_
      refine lv_if_eq (tgt := 130) hx hb dX6_goes_20 (by decide) (fun c1 => ?_) (fun c1 => ?_)
      · skip
        refine lv_iload_n hx hb dX6_goes_130 rfl (lv_at hl 1 rfl) ?_
        exact e_int S hr hlk rfl hK hS (gP_eq (show w_X6_goes_loop p1 (n + 1) u1 x2 x3 = u1 from (if_pos c1).trans rfl) hP) (show v_X6_goes_loop p1 (n + 1) u1 x2 x3 = x2 from (if_pos c1).trans rfl).symm dX6_goes_131
      · skip
        refine lv_aload_n hx hb dX6_goes_23 rfl (lv_at hl 2 rfl) ?_
        refine r_callV S hK hP (c_X6_readThing l G a hI u1 hT1) (r_cw S k_597 k_594 k_595 k_596 k_5 q_X6_readThing ⟨Nat.le_of_ble_eq_true rfl, Nat.le_of_ble_eq_true rfl⟩ rfl rfl) (g_recv hK hP (i := 0) (by omega) mC0 rfl) rfl hl.1 rfl (Nat.le_of_ble_eq_true rfl) dX6_goes_24 ⟨Nat.zero_le _, Nat.zero_le _⟩ hS (fun _ h => h) (fun H locs hP _ _ hS => ?_)
        have hP : mP G a (w_X6_readThing u1) H := hP
        have hw := hw1.resolve_left c1
        have hMV := readThing_MV hT1 hw
        have hmR : SI (w_X6_readThing u1 1) := readThing_SI hm1
        refine lv_iload_n hx hb dX6_goes_27 rfl (lv_at hl 3 rfl) ?_
        refine lv_if_eq (tgt := 38) hx hb dX6_goes_28 (by decide) (fun c2 => ?_) (fun c2 => ?_)
        · skip
          refine lv_iconst (v := 0) hx hb dX6_goes_38 (by decide) ?_
          refine lv_istore (lv' := [(4, .int (0 : Int32)), (3, .int x3), (2, .int x2), (0, .ref (a 0)), (1, .int p1)]) hx hb dX6_goes_39 hl (by decide) rfl (fun ls hl => ?_)
          refine lv_aload_n hx hb dX6_goes_41 rfl (lv_at hl 3 rfl) ?_
          refine lv_iload hx hb dX6_goes_42 (lv_at hl 0 rfl) ?_
          refine lv_if_ge (tgt := 52) hx hb dX6_goes_44 (by decide) (fun _ => ?_) (fun c => absurd (by decide) c)
          refine lv_iconst (v := 0) hx hb dX6_goes_52 (by decide) ?_
          refine g_put S hK hP hI hS (i := 0) (by omega) mC0 rfl inlX6 tyX6 tyX6_ok nmX6 mF_n 14 (by decide) k_589 rfl pI rfl rfl (fun _ => rfl) dX6_goes_53 (fun H locs hP hS => ?_)
          have hP : mP G a (up (w_X6_readThing u1) 0 14 (0 : Int32)) H := hP
          refine lv_iload_n hx hb dX6_goes_56 rfl (lv_at hl 2 rfl) ?_
          refine lv_iload hx hb dX6_goes_57 (lv_at hl 0 rfl) ?_
          refine lv_if_ge (tgt := 66) hx hb dX6_goes_59 (by decide) (fun _ => ?_) (fun c => absurd (by decide) c)
          refine lv_iconst (v := 1) hx hb dX6_goes_66 (by decide) ?_
          refine lv_iadd hx hb dX6_goes_67 ?_
          refine lv_istore_n (lv' := [(2, .int (x2 + (1 : Int32))), (4, .int (0 : Int32)), (3, .int x3), (0, .ref (a 0)), (1, .int p1)]) hx hb dX6_goes_68 rfl hl (by decide) rfl (fun ls hl => ?_)
          refine lv_aload_n hx hb dX6_goes_69 rfl (lv_at hl 3 rfl) ?_
          refine g_get S hK hP (i := 0) (by omega) mC0 rfl inlX6 14 (by decide) k_589 (v := .int (0 : Int32)) (congrArg Value.int (up_same)) dX6_goes_70 ?_
          refine lv_if_ne (tgt := 98) hx hb dX6_goes_73 (by decide) (fun c => absurd (by decide) c) (fun _ => ?_)
          refine lv_aload_n hx hb dX6_goes_76 rfl (lv_at hl 3 rfl) ?_
          refine g_get S hK hP (i := 0) (by omega) mC0 rfl inlX6 12 (by decide) k_587 (v := .int ((w_X6_readThing u1) 0 12)) (congrArg Value.int ((up_nk (by omega)).trans rfl)) dX6_goes_77 ?_
          refine lv_if_ne (tgt := 98) hx hb dX6_goes_80 (by decide) (fun c3 => ?_) (fun c3 => ?_)
          · skip
            refine lv_iconst (v := 0) hx hb dX6_goes_98 (by decide) ?_
            refine lv_istore_n (lv' := [(3, .int (0 : Int32)), (2, .int (x2 + (1 : Int32))), (4, .int (0 : Int32)), (0, .ref (a 0)), (1, .int p1)]) hx hb dX6_goes_99 rfl hl (by decide) rfl (fun ls hl => ?_)
            refine lv_iload_n hx hb dX6_goes_100 rfl (lv_at hl 0 rfl) ?_
            refine lv_if_eq (tgt := 127) hx hb dX6_goes_101 (by decide) (fun _ => ?_) (fun c => absurd (by decide) c)
            refine lv_goto (tgt := 19) hx hb dX6_goes_127 (by decide) ?_
            refine q_eqI (show v_X6_goes_loop p1 (n + 1) u1 x2 x3 = v_X6_goes_loop p1 n (up (w_X6_readThing u1) 0 14 (0 : Int32)) (x2 + (1 : Int32)) (0 : Int32) from (if_neg c1).trans ((if_pos c2).trans ((if_neg c3).trans rfl))) (show w_X6_goes_loop p1 (n + 1) u1 x2 x3 = w_X6_goes_loop p1 n (up (w_X6_readThing u1) 0 14 (0 : Int32)) (x2 + (1 : Int32)) (0 : Int32) from (if_neg c1).trans ((if_pos c2).trans ((if_neg c3).trans rfl))) ?_
            exact ih_LP_loop  trivial _ _ _ _ _ hP hS (TI_up14 hMV.1) (SI_up0 hmR) (Or.inl rfl) (Or.inl rfl) (Or.inl rfl) ls (lv_sub hl [0, 1, 3, 4] rfl)
          · skip
            refine lv_aload_n hx hb dX6_goes_83 rfl (lv_at hl 3 rfl) ?_
            refine g_get S hK hP (i := 0) (by omega) mC0 rfl inlX6 11 (by decide) k_588 (v := .int ((w_X6_readThing u1) 0 11)) (congrArg Value.int ((up_nk (by omega)).trans rfl)) dX6_goes_84 ?_
            refine lv_aload_n hx hb dX6_goes_87 rfl (lv_at hl 3 rfl) ?_
            refine g_get S hK hP (i := 0) (by omega) mC0 rfl inlX6 8 (by decide) k_502 (v := .int ((w_X6_readThing u1) 0 8)) (congrArg Value.int ((up_nk (by omega)).trans rfl)) dX6_goes_88 ?_
            refine lv_icmp_ge (tgt := 98) hx hb dX6_goes_91 (by decide) (fun c4 => ?_) (fun c4 => ?_)
            · skip
              refine lv_iconst (v := 0) hx hb dX6_goes_98 (by decide) ?_
              refine lv_istore_n (lv' := [(3, .int (0 : Int32)), (2, .int (x2 + (1 : Int32))), (4, .int (0 : Int32)), (0, .ref (a 0)), (1, .int p1)]) hx hb dX6_goes_99 rfl hl (by decide) rfl (fun ls hl => ?_)
              refine lv_iload_n hx hb dX6_goes_100 rfl (lv_at hl 0 rfl) ?_
              refine lv_if_eq (tgt := 127) hx hb dX6_goes_101 (by decide) (fun _ => ?_) (fun c => absurd (by decide) c)
              refine lv_goto (tgt := 19) hx hb dX6_goes_127 (by decide) ?_
              refine q_eqI (show v_X6_goes_loop p1 (n + 1) u1 x2 x3 = v_X6_goes_loop p1 n (up (w_X6_readThing u1) 0 14 (0 : Int32)) (x2 + (1 : Int32)) (0 : Int32) from (if_neg c1).trans ((if_pos c2).trans ((if_pos c3).trans ((if_pos c4).trans rfl)))) (show w_X6_goes_loop p1 (n + 1) u1 x2 x3 = w_X6_goes_loop p1 n (up (w_X6_readThing u1) 0 14 (0 : Int32)) (x2 + (1 : Int32)) (0 : Int32) from (if_neg c1).trans ((if_pos c2).trans ((if_pos c3).trans ((if_pos c4).trans rfl)))) ?_
              exact ih_LP_loop  trivial _ _ _ _ _ hP hS (TI_up14 hMV.1) (SI_up0 hmR) (Or.inl rfl) (Or.inl rfl) (Or.inl rfl) ls (lv_sub hl [0, 1, 3, 4] rfl)
            · skip
              refine lv_iconst (v := 1) hx hb dX6_goes_94 (by decide) ?_
              refine lv_goto (tgt := 99) hx hb dX6_goes_95 (by decide) ?_
              refine lv_istore_n (lv' := [(3, .int (1 : Int32)), (2, .int (x2 + (1 : Int32))), (4, .int (0 : Int32)), (0, .ref (a 0)), (1, .int p1)]) hx hb dX6_goes_99 rfl hl (by decide) rfl (fun ls hl => ?_)
              refine lv_iload_n hx hb dX6_goes_100 rfl (lv_at hl 0 rfl) ?_
              refine lv_if_eq (tgt := 127) hx hb dX6_goes_101 (by decide) (fun c => absurd c (by decide)) (fun _ => ?_)
              refine lv_aload_n hx hb dX6_goes_104 rfl (lv_at hl 3 rfl) ?_
              refine lv_bipush (v := 59) hx hb dX6_goes_105 (by decide) ?_
              refine lv_bipush (v := 59) hx hb dX6_goes_107 (by decide) ?_
              refine r_callI S hK hP (c_X6_takes l G a hI (up (w_X6_readThing u1) 0 14 (0 : Int32)) _ _ (TI_up14 hMV.1)) (r_cw S k_605 k_602 k_603 k_604 k_5 q_X6_takes ⟨Nat.le_of_ble_eq_true rfl, Nat.le_of_ble_eq_true rfl⟩ rfl rfl) (g_recv hK hP (i := 0) (by omega) mC0 rfl) rfl hl.1 rfl (Nat.le_of_ble_eq_true rfl) dX6_goes_109 ⟨Nat.zero_le _, Nat.zero_le _⟩ hS (fun _ h => h) (fun H locs hP _ _ hS => ?_)
              have hP : mP G a (w_X6_takes (up (w_X6_readThing u1) 0 14 (0 : Int32)) (59 : Int32) (59 : Int32)) H := hP
              refine lv_istore (lv' := [(5, .int (v_X6_takes (up (w_X6_readThing u1) 0 14 (0 : Int32)) (59 : Int32) (59 : Int32))), (3, .int (1 : Int32)), (2, .int (x2 + (1 : Int32))), (4, .int (0 : Int32)), (0, .ref (a 0)), (1, .int p1)]) hx hb dX6_goes_112 hl (by decide) rfl (fun ls hl => ?_)
              refine lv_aload_n hx hb dX6_goes_114 rfl (lv_at hl 4 rfl) ?_
              refine g_get S hK hP (i := 0) (by omega) mC0 rfl inlX6 12 (by decide) k_587 (v := .int ((w_X6_takes (up (w_X6_readThing u1) 0 14 (0 : Int32)) (59 : Int32) (59 : Int32)) 0 12)) rfl dX6_goes_115 ?_
              refine lv_if_ne (tgt := 125) hx hb dX6_goes_118 (by decide) (fun c5 => ?_) (fun c5 => ?_)
              · skip
                refine lv_iconst (v := 0) hx hb dX6_goes_125 (by decide) ?_
                refine lv_istore_n (lv' := [(3, .int (0 : Int32)), (5, .int (v_X6_takes (up (w_X6_readThing u1) 0 14 (0 : Int32)) (59 : Int32) (59 : Int32))), (2, .int (x2 + (1 : Int32))), (4, .int (0 : Int32)), (0, .ref (a 0)), (1, .int p1)]) hx hb dX6_goes_126 rfl hl (by decide) rfl (fun ls hl => ?_)
                refine lv_goto (tgt := 19) hx hb dX6_goes_127 (by decide) ?_
                refine q_eqI (show v_X6_goes_loop p1 (n + 1) u1 x2 x3 = v_X6_goes_loop p1 n (w_X6_takes (up (w_X6_readThing u1) 0 14 (0 : Int32)) (59 : Int32) (59 : Int32)) (x2 + (1 : Int32)) (0 : Int32) from (if_neg c1).trans ((if_pos c2).trans ((if_pos c3).trans ((if_neg c4).trans ((if_neg c5).trans rfl))))) (show w_X6_goes_loop p1 (n + 1) u1 x2 x3 = w_X6_goes_loop p1 n (w_X6_takes (up (w_X6_readThing u1) 0 14 (0 : Int32)) (59 : Int32) (59 : Int32)) (x2 + (1 : Int32)) (0 : Int32) from (if_neg c1).trans ((if_pos c2).trans ((if_pos c3).trans ((if_neg c4).trans ((if_neg c5).trans rfl))))) ?_
                exact ih_LP_loop  trivial _ _ _ _ _ hP hS (takes_TI (TI_up14 hMV.1) (by decide)) (SI_takes (SI_up0 hmR)) (Or.inl rfl) (Or.inl rfl) (Or.inl rfl) ls (lv_sub hl [0, 2, 4, 5] rfl)
              · skip
                refine lv_iconst (v := 1) hx hb dX6_goes_121 (by decide) ?_
                refine lv_goto (tgt := 126) hx hb dX6_goes_122 (by decide) ?_
                refine lv_istore_n (lv' := [(3, .int (1 : Int32)), (5, .int (v_X6_takes (up (w_X6_readThing u1) 0 14 (0 : Int32)) (59 : Int32) (59 : Int32))), (2, .int (x2 + (1 : Int32))), (4, .int (0 : Int32)), (0, .ref (a 0)), (1, .int p1)]) hx hb dX6_goes_126 rfl hl (by decide) rfl (fun ls hl => ?_)
                refine lv_goto (tgt := 19) hx hb dX6_goes_127 (by decide) ?_
                refine q_eqI (show v_X6_goes_loop p1 (n + 1) u1 x2 x3 = v_X6_goes_loop p1 n (w_X6_takes (up (w_X6_readThing u1) 0 14 (0 : Int32)) (59 : Int32) (59 : Int32)) (x2 + (1 : Int32)) (1 : Int32) from (if_neg c1).trans ((if_pos c2).trans ((if_pos c3).trans ((if_neg c4).trans ((if_pos c5).trans rfl))))) (show w_X6_goes_loop p1 (n + 1) u1 x2 x3 = w_X6_goes_loop p1 n (w_X6_takes (up (w_X6_readThing u1) 0 14 (0 : Int32)) (59 : Int32) (59 : Int32)) (x2 + (1 : Int32)) (1 : Int32) from (if_neg c1).trans ((if_pos c2).trans ((if_pos c3).trans ((if_neg c4).trans ((if_pos c5).trans rfl))))) ?_
                exact ih_LP_loop  trivial _ _ _ _ _ hP hS (takes_TI (TI_up14 hMV.1) (by decide)) (SI_takes (SI_up0 hmR)) (Or.inr c5) (Or.inr (goes_f (hf.resolve_left c1) hMV.2 pos_14 (TI_up14 hMV.1) c5)) (Or.inr (Or.inl c2)) ls (lv_sub hl [0, 2, 4, 5] rfl)
        · skip
          have hPn := (hPV1.resolve_left c1).resolve_left c2
          have hDR := (readThing_HV hw hPn.2.1).toHD
          have hP2 := does_PR2 hmR hDR
          refine lv_aload_n hx hb dX6_goes_31 rfl (lv_at hl 2 rfl) ?_
          refine r_callI S hK hP (c_X6_does l G a hI (w_X6_readThing u1) hmR hDR) (r_cw S k_617 k_614 k_615 k_616 k_5 q_X6_does ⟨Nat.le_of_ble_eq_true rfl, Nat.le_of_ble_eq_true rfl⟩ rfl rfl) (g_recv hK hP (i := 0) (by omega) mC0 rfl) rfl hl.1 rfl (Nat.le_of_ble_eq_true rfl) dX6_goes_32 ⟨Nat.zero_le _, Nat.zero_le _⟩ hS (fun _ h => h) (fun H locs hP _ _ hS => ?_)
          have hP : mP G a (w_X6_does (w_X6_readThing u1)) H := hP
          refine lv_goto (tgt := 39) hx hb dX6_goes_35 (by decide) ?_
          refine lv_istore (lv' := [(4, .int (v_X6_does (w_X6_readThing u1))), (3, .int x3), (2, .int x2), (0, .ref (a 0)), (1, .int p1)]) hx hb dX6_goes_39 hl (by decide) rfl (fun ls hl => ?_)
          refine lv_aload_n hx hb dX6_goes_41 rfl (lv_at hl 3 rfl) ?_
          refine lv_iload hx hb dX6_goes_42 (lv_at hl 0 rfl) ?_
          refine lv_if_ge (tgt := 52) hx hb dX6_goes_44 (by decide) (fun c6 => ?_) (fun c6 => ?_)
          · skip
            refine lv_iconst (v := 0) hx hb dX6_goes_52 (by decide) ?_
            refine g_put S hK hP hI hS (i := 0) (by omega) mC0 rfl inlX6 tyX6 tyX6_ok nmX6 mF_n 14 (by decide) k_589 rfl pI rfl rfl (fun _ => rfl) dX6_goes_53 (fun H locs hP hS => ?_)
            have hP : mP G a (up (w_X6_does (w_X6_readThing u1)) 0 14 (0 : Int32)) H := hP
            refine lv_iload_n hx hb dX6_goes_56 rfl (lv_at hl 2 rfl) ?_
            refine lv_iload hx hb dX6_goes_57 (lv_at hl 0 rfl) ?_
            refine lv_if_ge (tgt := 66) hx hb dX6_goes_59 (by decide) (fun _ => ?_) (fun c => absurd c6 c)
            refine lv_iconst (v := 1) hx hb dX6_goes_66 (by decide) ?_
            refine lv_iadd hx hb dX6_goes_67 ?_
            refine lv_istore_n (lv' := [(2, .int (x2 + (1 : Int32))), (4, .int (v_X6_does (w_X6_readThing u1))), (3, .int x3), (0, .ref (a 0)), (1, .int p1)]) hx hb dX6_goes_68 rfl hl (by decide) rfl (fun ls hl => ?_)
            refine lv_aload_n hx hb dX6_goes_69 rfl (lv_at hl 3 rfl) ?_
            refine g_get S hK hP (i := 0) (by omega) mC0 rfl inlX6 14 (by decide) k_589 (v := .int (0 : Int32)) (congrArg Value.int (up_same)) dX6_goes_70 ?_
            refine lv_if_ne (tgt := 98) hx hb dX6_goes_73 (by decide) (fun c => absurd (by decide) c) (fun _ => ?_)
            refine lv_aload_n hx hb dX6_goes_76 rfl (lv_at hl 3 rfl) ?_
            refine g_get S hK hP (i := 0) (by omega) mC0 rfl inlX6 12 (by decide) k_587 (v := .int ((w_X6_does (w_X6_readThing u1)) 0 12)) (congrArg Value.int ((up_nk (by omega)).trans rfl)) dX6_goes_77 ?_
            refine lv_if_ne (tgt := 98) hx hb dX6_goes_80 (by decide) (fun c7 => ?_) (fun c7 => ?_)
            · skip
              refine lv_iconst (v := 0) hx hb dX6_goes_98 (by decide) ?_
              refine lv_istore_n (lv' := [(3, .int (0 : Int32)), (2, .int (x2 + (1 : Int32))), (4, .int (v_X6_does (w_X6_readThing u1))), (0, .ref (a 0)), (1, .int p1)]) hx hb dX6_goes_99 rfl hl (by decide) rfl (fun ls hl => ?_)
              refine lv_iload_n hx hb dX6_goes_100 rfl (lv_at hl 0 rfl) ?_
              refine lv_if_eq (tgt := 127) hx hb dX6_goes_101 (by decide) (fun _ => ?_) (fun c => absurd (by decide) c)
              refine lv_goto (tgt := 19) hx hb dX6_goes_127 (by decide) ?_
              refine q_eqI (show v_X6_goes_loop p1 (n + 1) u1 x2 x3 = v_X6_goes_loop p1 n (up (w_X6_does (w_X6_readThing u1)) 0 14 (0 : Int32)) (x2 + (1 : Int32)) (0 : Int32) from (if_neg c1).trans ((if_neg c2).trans ((if_pos c6).trans ((if_neg c7).trans rfl)))) (show w_X6_goes_loop p1 (n + 1) u1 x2 x3 = w_X6_goes_loop p1 n (up (w_X6_does (w_X6_readThing u1)) 0 14 (0 : Int32)) (x2 + (1 : Int32)) (0 : Int32) from (if_neg c1).trans ((if_neg c2).trans ((if_pos c6).trans ((if_neg c7).trans rfl)))) ?_
              exact ih_LP_loop  trivial _ _ _ _ _ hP hS (TI_up14 (TI_pr2 hP2 hMV.1)) (SI_up0 hP2.1) (Or.inl rfl) (Or.inl rfl) (Or.inl rfl) ls (lv_sub hl [0, 1, 3, 4] rfl)
            · skip
              refine lv_aload_n hx hb dX6_goes_83 rfl (lv_at hl 3 rfl) ?_
              refine g_get S hK hP (i := 0) (by omega) mC0 rfl inlX6 11 (by decide) k_588 (v := .int ((w_X6_does (w_X6_readThing u1)) 0 11)) (congrArg Value.int ((up_nk (by omega)).trans rfl)) dX6_goes_84 ?_
              refine lv_aload_n hx hb dX6_goes_87 rfl (lv_at hl 3 rfl) ?_
              refine g_get S hK hP (i := 0) (by omega) mC0 rfl inlX6 8 (by decide) k_502 (v := .int ((w_X6_does (w_X6_readThing u1)) 0 8)) (congrArg Value.int ((up_nk (by omega)).trans rfl)) dX6_goes_88 ?_
              refine lv_icmp_ge (tgt := 98) hx hb dX6_goes_91 (by decide) (fun c8 => ?_) (fun c8 => ?_)
              · skip
                refine lv_iconst (v := 0) hx hb dX6_goes_98 (by decide) ?_
                refine lv_istore_n (lv' := [(3, .int (0 : Int32)), (2, .int (x2 + (1 : Int32))), (4, .int (v_X6_does (w_X6_readThing u1))), (0, .ref (a 0)), (1, .int p1)]) hx hb dX6_goes_99 rfl hl (by decide) rfl (fun ls hl => ?_)
                refine lv_iload_n hx hb dX6_goes_100 rfl (lv_at hl 0 rfl) ?_
                refine lv_if_eq (tgt := 127) hx hb dX6_goes_101 (by decide) (fun _ => ?_) (fun c => absurd (by decide) c)
                refine lv_goto (tgt := 19) hx hb dX6_goes_127 (by decide) ?_
                refine q_eqI (show v_X6_goes_loop p1 (n + 1) u1 x2 x3 = v_X6_goes_loop p1 n (up (w_X6_does (w_X6_readThing u1)) 0 14 (0 : Int32)) (x2 + (1 : Int32)) (0 : Int32) from (if_neg c1).trans ((if_neg c2).trans ((if_pos c6).trans ((if_pos c7).trans ((if_pos c8).trans rfl))))) (show w_X6_goes_loop p1 (n + 1) u1 x2 x3 = w_X6_goes_loop p1 n (up (w_X6_does (w_X6_readThing u1)) 0 14 (0 : Int32)) (x2 + (1 : Int32)) (0 : Int32) from (if_neg c1).trans ((if_neg c2).trans ((if_pos c6).trans ((if_pos c7).trans ((if_pos c8).trans rfl))))) ?_
                exact ih_LP_loop  trivial _ _ _ _ _ hP hS (TI_up14 (TI_pr2 hP2 hMV.1)) (SI_up0 hP2.1) (Or.inl rfl) (Or.inl rfl) (Or.inl rfl) ls (lv_sub hl [0, 1, 3, 4] rfl)
              · skip
                refine lv_iconst (v := 1) hx hb dX6_goes_94 (by decide) ?_
                refine lv_goto (tgt := 99) hx hb dX6_goes_95 (by decide) ?_
                refine lv_istore_n (lv' := [(3, .int (1 : Int32)), (2, .int (x2 + (1 : Int32))), (4, .int (v_X6_does (w_X6_readThing u1))), (0, .ref (a 0)), (1, .int p1)]) hx hb dX6_goes_99 rfl hl (by decide) rfl (fun ls hl => ?_)
                refine lv_iload_n hx hb dX6_goes_100 rfl (lv_at hl 0 rfl) ?_
                refine lv_if_eq (tgt := 127) hx hb dX6_goes_101 (by decide) (fun c => absurd c (by decide)) (fun _ => ?_)
                refine lv_aload_n hx hb dX6_goes_104 rfl (lv_at hl 3 rfl) ?_
                refine lv_bipush (v := 59) hx hb dX6_goes_105 (by decide) ?_
                refine lv_bipush (v := 59) hx hb dX6_goes_107 (by decide) ?_
                refine r_callI S hK hP (c_X6_takes l G a hI (up (w_X6_does (w_X6_readThing u1)) 0 14 (0 : Int32)) _ _ (TI_up14 (TI_pr2 hP2 hMV.1))) (r_cw S k_605 k_602 k_603 k_604 k_5 q_X6_takes ⟨Nat.le_of_ble_eq_true rfl, Nat.le_of_ble_eq_true rfl⟩ rfl rfl) (g_recv hK hP (i := 0) (by omega) mC0 rfl) rfl hl.1 rfl (Nat.le_of_ble_eq_true rfl) dX6_goes_109 ⟨Nat.zero_le _, Nat.zero_le _⟩ hS (fun _ h => h) (fun H locs hP _ _ hS => ?_)
                have hP : mP G a (w_X6_takes (up (w_X6_does (w_X6_readThing u1)) 0 14 (0 : Int32)) (59 : Int32) (59 : Int32)) H := hP
                refine lv_istore (lv' := [(5, .int (v_X6_takes (up (w_X6_does (w_X6_readThing u1)) 0 14 (0 : Int32)) (59 : Int32) (59 : Int32))), (3, .int (1 : Int32)), (2, .int (x2 + (1 : Int32))), (4, .int (v_X6_does (w_X6_readThing u1))), (0, .ref (a 0)), (1, .int p1)]) hx hb dX6_goes_112 hl (by decide) rfl (fun ls hl => ?_)
                refine lv_aload_n hx hb dX6_goes_114 rfl (lv_at hl 4 rfl) ?_
                refine g_get S hK hP (i := 0) (by omega) mC0 rfl inlX6 12 (by decide) k_587 (v := .int ((w_X6_takes (up (w_X6_does (w_X6_readThing u1)) 0 14 (0 : Int32)) (59 : Int32) (59 : Int32)) 0 12)) rfl dX6_goes_115 ?_
                refine lv_if_ne (tgt := 125) hx hb dX6_goes_118 (by decide) (fun c9 => ?_) (fun c9 => ?_)
                · skip
                  refine lv_iconst (v := 0) hx hb dX6_goes_125 (by decide) ?_
                  refine lv_istore_n (lv' := [(3, .int (0 : Int32)), (5, .int (v_X6_takes (up (w_X6_does (w_X6_readThing u1)) 0 14 (0 : Int32)) (59 : Int32) (59 : Int32))), (2, .int (x2 + (1 : Int32))), (4, .int (v_X6_does (w_X6_readThing u1))), (0, .ref (a 0)), (1, .int p1)]) hx hb dX6_goes_126 rfl hl (by decide) rfl (fun ls hl => ?_)
                  refine lv_goto (tgt := 19) hx hb dX6_goes_127 (by decide) ?_
                  refine q_eqI (show v_X6_goes_loop p1 (n + 1) u1 x2 x3 = v_X6_goes_loop p1 n (w_X6_takes (up (w_X6_does (w_X6_readThing u1)) 0 14 (0 : Int32)) (59 : Int32) (59 : Int32)) (x2 + (1 : Int32)) (0 : Int32) from (if_neg c1).trans ((if_neg c2).trans ((if_pos c6).trans ((if_pos c7).trans ((if_neg c8).trans ((if_neg c9).trans rfl)))))) (show w_X6_goes_loop p1 (n + 1) u1 x2 x3 = w_X6_goes_loop p1 n (w_X6_takes (up (w_X6_does (w_X6_readThing u1)) 0 14 (0 : Int32)) (59 : Int32) (59 : Int32)) (x2 + (1 : Int32)) (0 : Int32) from (if_neg c1).trans ((if_neg c2).trans ((if_pos c6).trans ((if_pos c7).trans ((if_neg c8).trans ((if_neg c9).trans rfl)))))) ?_
                  exact ih_LP_loop  trivial _ _ _ _ _ hP hS (takes_TI (TI_up14 (TI_pr2 hP2 hMV.1)) (by decide)) (SI_takes (SI_up0 hP2.1)) (Or.inl rfl) (Or.inl rfl) (Or.inl rfl) ls (lv_sub hl [0, 2, 4, 5] rfl)
                · skip
                  refine lv_iconst (v := 1) hx hb dX6_goes_121 (by decide) ?_
                  refine lv_goto (tgt := 126) hx hb dX6_goes_122 (by decide) ?_
                  refine lv_istore_n (lv' := [(3, .int (1 : Int32)), (5, .int (v_X6_takes (up (w_X6_does (w_X6_readThing u1)) 0 14 (0 : Int32)) (59 : Int32) (59 : Int32))), (2, .int (x2 + (1 : Int32))), (4, .int (v_X6_does (w_X6_readThing u1))), (0, .ref (a 0)), (1, .int p1)]) hx hb dX6_goes_126 rfl hl (by decide) rfl (fun ls hl => ?_)
                  refine lv_goto (tgt := 19) hx hb dX6_goes_127 (by decide) ?_
                  refine q_eqI (show v_X6_goes_loop p1 (n + 1) u1 x2 x3 = v_X6_goes_loop p1 n (w_X6_takes (up (w_X6_does (w_X6_readThing u1)) 0 14 (0 : Int32)) (59 : Int32) (59 : Int32)) (x2 + (1 : Int32)) (1 : Int32) from (if_neg c1).trans ((if_neg c2).trans ((if_pos c6).trans ((if_pos c7).trans ((if_neg c8).trans ((if_pos c9).trans rfl)))))) (show w_X6_goes_loop p1 (n + 1) u1 x2 x3 = w_X6_goes_loop p1 n (w_X6_takes (up (w_X6_does (w_X6_readThing u1)) 0 14 (0 : Int32)) (59 : Int32) (59 : Int32)) (x2 + (1 : Int32)) (1 : Int32) from (if_neg c1).trans ((if_neg c2).trans ((if_pos c6).trans ((if_pos c7).trans ((if_neg c8).trans ((if_pos c9).trans rfl)))))) ?_
                  exact ih_LP_loop  trivial _ _ _ _ _ hP hS (takes_TI (TI_up14 (TI_pr2 hP2 hMV.1)) (by decide)) (SI_takes (SI_up0 hP2.1)) (Or.inr c9) (Or.inr (goes_f (hf.resolve_left c1) hMV.2 (pos_14d hP2) (TI_up14 (TI_pr2 hP2 hMV.1)) c9)) (Or.inr (Or.inr (goes_PV hPn (sm_pr2 hP2) c8))) ls (lv_sub hl [0, 2, 4, 5] rfl)
          · skip
            refine lv_iload hx hb dX6_goes_47 (lv_at hl 0 rfl) ?_
            refine lv_goto (tgt := 53) hx hb dX6_goes_49 (by decide) ?_
            refine g_put S hK hP hI hS (i := 0) (by omega) mC0 rfl inlX6 tyX6 tyX6_ok nmX6 mF_n 14 (by decide) k_589 rfl pI rfl rfl (fun _ => rfl) dX6_goes_53 (fun H locs hP hS => ?_)
            have hP : mP G a (up (w_X6_does (w_X6_readThing u1)) 0 14 (v_X6_does (w_X6_readThing u1))) H := hP
            refine lv_iload_n hx hb dX6_goes_56 rfl (lv_at hl 2 rfl) ?_
            refine lv_iload hx hb dX6_goes_57 (lv_at hl 0 rfl) ?_
            refine lv_if_ge (tgt := 66) hx hb dX6_goes_59 (by decide) (fun c => absurd c c6) (fun _ => ?_)
            refine lv_iconst (v := 0) hx hb dX6_goes_62 (by decide) ?_
            refine lv_goto (tgt := 67) hx hb dX6_goes_63 (by decide) ?_
            refine lv_iadd hx hb dX6_goes_67 ?_
            refine lv_istore_n (lv' := [(2, .int (x2 + (0 : Int32))), (4, .int (v_X6_does (w_X6_readThing u1))), (3, .int x3), (0, .ref (a 0)), (1, .int p1)]) hx hb dX6_goes_68 rfl hl (by decide) rfl (fun ls hl => ?_)
            refine lv_aload_n hx hb dX6_goes_69 rfl (lv_at hl 3 rfl) ?_
            refine g_get S hK hP (i := 0) (by omega) mC0 rfl inlX6 14 (by decide) k_589 (v := .int (v_X6_does (w_X6_readThing u1))) (congrArg Value.int (up_same)) dX6_goes_70 ?_
            refine lv_if_ne (tgt := 98) hx hb dX6_goes_73 (by decide) (fun c10 => ?_) (fun c10 => ?_)
            · skip
              refine lv_iconst (v := 0) hx hb dX6_goes_98 (by decide) ?_
              refine lv_istore_n (lv' := [(3, .int (0 : Int32)), (2, .int (x2 + (0 : Int32))), (4, .int (v_X6_does (w_X6_readThing u1))), (0, .ref (a 0)), (1, .int p1)]) hx hb dX6_goes_99 rfl hl (by decide) rfl (fun ls hl => ?_)
              refine lv_iload_n hx hb dX6_goes_100 rfl (lv_at hl 0 rfl) ?_
              refine lv_if_eq (tgt := 127) hx hb dX6_goes_101 (by decide) (fun _ => ?_) (fun c => absurd (by decide) c)
              refine lv_goto (tgt := 19) hx hb dX6_goes_127 (by decide) ?_
              refine q_eqI (show v_X6_goes_loop p1 (n + 1) u1 x2 x3 = v_X6_goes_loop p1 n (up (w_X6_does (w_X6_readThing u1)) 0 14 (v_X6_does (w_X6_readThing u1))) (x2 + (0 : Int32)) (0 : Int32) from (if_neg c1).trans ((if_neg c2).trans ((if_neg c6).trans ((if_neg c10).trans rfl)))) (show w_X6_goes_loop p1 (n + 1) u1 x2 x3 = w_X6_goes_loop p1 n (up (w_X6_does (w_X6_readThing u1)) 0 14 (v_X6_does (w_X6_readThing u1))) (x2 + (0 : Int32)) (0 : Int32) from (if_neg c1).trans ((if_neg c2).trans ((if_neg c6).trans ((if_neg c10).trans rfl)))) ?_
              exact ih_LP_loop  trivial _ _ _ _ _ hP hS (TI_up14 (TI_pr2 hP2 hMV.1)) (SI_up0 hP2.1) (Or.inl rfl) (Or.inl rfl) (Or.inl rfl) ls (lv_sub hl [0, 1, 3, 4] rfl)
            · skip
              refine lv_aload_n hx hb dX6_goes_76 rfl (lv_at hl 3 rfl) ?_
              refine g_get S hK hP (i := 0) (by omega) mC0 rfl inlX6 12 (by decide) k_587 (v := .int ((w_X6_does (w_X6_readThing u1)) 0 12)) (congrArg Value.int ((up_nk (by omega)).trans rfl)) dX6_goes_77 ?_
              refine lv_if_ne (tgt := 98) hx hb dX6_goes_80 (by decide) (fun c11 => ?_) (fun c11 => ?_)
              · skip
                refine lv_iconst (v := 0) hx hb dX6_goes_98 (by decide) ?_
                refine lv_istore_n (lv' := [(3, .int (0 : Int32)), (2, .int (x2 + (0 : Int32))), (4, .int (v_X6_does (w_X6_readThing u1))), (0, .ref (a 0)), (1, .int p1)]) hx hb dX6_goes_99 rfl hl (by decide) rfl (fun ls hl => ?_)
                refine lv_iload_n hx hb dX6_goes_100 rfl (lv_at hl 0 rfl) ?_
                refine lv_if_eq (tgt := 127) hx hb dX6_goes_101 (by decide) (fun _ => ?_) (fun c => absurd (by decide) c)
                refine lv_goto (tgt := 19) hx hb dX6_goes_127 (by decide) ?_
                refine q_eqI (show v_X6_goes_loop p1 (n + 1) u1 x2 x3 = v_X6_goes_loop p1 n (up (w_X6_does (w_X6_readThing u1)) 0 14 (v_X6_does (w_X6_readThing u1))) (x2 + (0 : Int32)) (0 : Int32) from (if_neg c1).trans ((if_neg c2).trans ((if_neg c6).trans ((if_pos c10).trans ((if_neg c11).trans rfl))))) (show w_X6_goes_loop p1 (n + 1) u1 x2 x3 = w_X6_goes_loop p1 n (up (w_X6_does (w_X6_readThing u1)) 0 14 (v_X6_does (w_X6_readThing u1))) (x2 + (0 : Int32)) (0 : Int32) from (if_neg c1).trans ((if_neg c2).trans ((if_neg c6).trans ((if_pos c10).trans ((if_neg c11).trans rfl))))) ?_
                exact ih_LP_loop  trivial _ _ _ _ _ hP hS (TI_up14 (TI_pr2 hP2 hMV.1)) (SI_up0 hP2.1) (Or.inl rfl) (Or.inl rfl) (Or.inl rfl) ls (lv_sub hl [0, 1, 3, 4] rfl)
              · skip
                refine lv_aload_n hx hb dX6_goes_83 rfl (lv_at hl 3 rfl) ?_
                refine g_get S hK hP (i := 0) (by omega) mC0 rfl inlX6 11 (by decide) k_588 (v := .int ((w_X6_does (w_X6_readThing u1)) 0 11)) (congrArg Value.int ((up_nk (by omega)).trans rfl)) dX6_goes_84 ?_
                refine lv_aload_n hx hb dX6_goes_87 rfl (lv_at hl 3 rfl) ?_
                refine g_get S hK hP (i := 0) (by omega) mC0 rfl inlX6 8 (by decide) k_502 (v := .int ((w_X6_does (w_X6_readThing u1)) 0 8)) (congrArg Value.int ((up_nk (by omega)).trans rfl)) dX6_goes_88 ?_
                refine lv_icmp_ge (tgt := 98) hx hb dX6_goes_91 (by decide) (fun c12 => ?_) (fun c12 => ?_)
                · skip
                  refine lv_iconst (v := 0) hx hb dX6_goes_98 (by decide) ?_
                  refine lv_istore_n (lv' := [(3, .int (0 : Int32)), (2, .int (x2 + (0 : Int32))), (4, .int (v_X6_does (w_X6_readThing u1))), (0, .ref (a 0)), (1, .int p1)]) hx hb dX6_goes_99 rfl hl (by decide) rfl (fun ls hl => ?_)
                  refine lv_iload_n hx hb dX6_goes_100 rfl (lv_at hl 0 rfl) ?_
                  refine lv_if_eq (tgt := 127) hx hb dX6_goes_101 (by decide) (fun _ => ?_) (fun c => absurd (by decide) c)
                  refine lv_goto (tgt := 19) hx hb dX6_goes_127 (by decide) ?_
                  refine q_eqI (show v_X6_goes_loop p1 (n + 1) u1 x2 x3 = v_X6_goes_loop p1 n (up (w_X6_does (w_X6_readThing u1)) 0 14 (v_X6_does (w_X6_readThing u1))) (x2 + (0 : Int32)) (0 : Int32) from (if_neg c1).trans ((if_neg c2).trans ((if_neg c6).trans ((if_pos c10).trans ((if_pos c11).trans ((if_pos c12).trans rfl)))))) (show w_X6_goes_loop p1 (n + 1) u1 x2 x3 = w_X6_goes_loop p1 n (up (w_X6_does (w_X6_readThing u1)) 0 14 (v_X6_does (w_X6_readThing u1))) (x2 + (0 : Int32)) (0 : Int32) from (if_neg c1).trans ((if_neg c2).trans ((if_neg c6).trans ((if_pos c10).trans ((if_pos c11).trans ((if_pos c12).trans rfl)))))) ?_
                  exact ih_LP_loop  trivial _ _ _ _ _ hP hS (TI_up14 (TI_pr2 hP2 hMV.1)) (SI_up0 hP2.1) (Or.inl rfl) (Or.inl rfl) (Or.inl rfl) ls (lv_sub hl [0, 1, 3, 4] rfl)
                · skip
                  refine lv_iconst (v := 1) hx hb dX6_goes_94 (by decide) ?_
                  refine lv_goto (tgt := 99) hx hb dX6_goes_95 (by decide) ?_
                  refine lv_istore_n (lv' := [(3, .int (1 : Int32)), (2, .int (x2 + (0 : Int32))), (4, .int (v_X6_does (w_X6_readThing u1))), (0, .ref (a 0)), (1, .int p1)]) hx hb dX6_goes_99 rfl hl (by decide) rfl (fun ls hl => ?_)
                  refine lv_iload_n hx hb dX6_goes_100 rfl (lv_at hl 0 rfl) ?_
                  refine lv_if_eq (tgt := 127) hx hb dX6_goes_101 (by decide) (fun c => absurd c (by decide)) (fun _ => ?_)
                  refine lv_aload_n hx hb dX6_goes_104 rfl (lv_at hl 3 rfl) ?_
                  refine lv_bipush (v := 59) hx hb dX6_goes_105 (by decide) ?_
                  refine lv_bipush (v := 59) hx hb dX6_goes_107 (by decide) ?_
                  refine r_callI S hK hP (c_X6_takes l G a hI (up (w_X6_does (w_X6_readThing u1)) 0 14 (v_X6_does (w_X6_readThing u1))) _ _ (TI_up14 (TI_pr2 hP2 hMV.1))) (r_cw S k_605 k_602 k_603 k_604 k_5 q_X6_takes ⟨Nat.le_of_ble_eq_true rfl, Nat.le_of_ble_eq_true rfl⟩ rfl rfl) (g_recv hK hP (i := 0) (by omega) mC0 rfl) rfl hl.1 rfl (Nat.le_of_ble_eq_true rfl) dX6_goes_109 ⟨Nat.zero_le _, Nat.zero_le _⟩ hS (fun _ h => h) (fun H locs hP _ _ hS => ?_)
                  have hP : mP G a (w_X6_takes (up (w_X6_does (w_X6_readThing u1)) 0 14 (v_X6_does (w_X6_readThing u1))) (59 : Int32) (59 : Int32)) H := hP
                  refine lv_istore (lv' := [(5, .int (v_X6_takes (up (w_X6_does (w_X6_readThing u1)) 0 14 (v_X6_does (w_X6_readThing u1))) (59 : Int32) (59 : Int32))), (3, .int (1 : Int32)), (2, .int (x2 + (0 : Int32))), (4, .int (v_X6_does (w_X6_readThing u1))), (0, .ref (a 0)), (1, .int p1)]) hx hb dX6_goes_112 hl (by decide) rfl (fun ls hl => ?_)
                  refine lv_aload_n hx hb dX6_goes_114 rfl (lv_at hl 4 rfl) ?_
                  refine g_get S hK hP (i := 0) (by omega) mC0 rfl inlX6 12 (by decide) k_587 (v := .int ((w_X6_takes (up (w_X6_does (w_X6_readThing u1)) 0 14 (v_X6_does (w_X6_readThing u1))) (59 : Int32) (59 : Int32)) 0 12)) rfl dX6_goes_115 ?_
                  refine lv_if_ne (tgt := 125) hx hb dX6_goes_118 (by decide) (fun c13 => ?_) (fun c13 => ?_)
                  · skip
                    refine lv_iconst (v := 0) hx hb dX6_goes_125 (by decide) ?_
                    refine lv_istore_n (lv' := [(3, .int (0 : Int32)), (5, .int (v_X6_takes (up (w_X6_does (w_X6_readThing u1)) 0 14 (v_X6_does (w_X6_readThing u1))) (59 : Int32) (59 : Int32))), (2, .int (x2 + (0 : Int32))), (4, .int (v_X6_does (w_X6_readThing u1))), (0, .ref (a 0)), (1, .int p1)]) hx hb dX6_goes_126 rfl hl (by decide) rfl (fun ls hl => ?_)
                    refine lv_goto (tgt := 19) hx hb dX6_goes_127 (by decide) ?_
                    refine q_eqI (show v_X6_goes_loop p1 (n + 1) u1 x2 x3 = v_X6_goes_loop p1 n (w_X6_takes (up (w_X6_does (w_X6_readThing u1)) 0 14 (v_X6_does (w_X6_readThing u1))) (59 : Int32) (59 : Int32)) (x2 + (0 : Int32)) (0 : Int32) from (if_neg c1).trans ((if_neg c2).trans ((if_neg c6).trans ((if_pos c10).trans ((if_pos c11).trans ((if_neg c12).trans ((if_neg c13).trans rfl))))))) (show w_X6_goes_loop p1 (n + 1) u1 x2 x3 = w_X6_goes_loop p1 n (w_X6_takes (up (w_X6_does (w_X6_readThing u1)) 0 14 (v_X6_does (w_X6_readThing u1))) (59 : Int32) (59 : Int32)) (x2 + (0 : Int32)) (0 : Int32) from (if_neg c1).trans ((if_neg c2).trans ((if_neg c6).trans ((if_pos c10).trans ((if_pos c11).trans ((if_neg c12).trans ((if_neg c13).trans rfl))))))) ?_
                    exact ih_LP_loop  trivial _ _ _ _ _ hP hS (takes_TI (TI_up14 (TI_pr2 hP2 hMV.1)) (by decide)) (SI_takes (SI_up0 hP2.1)) (Or.inl rfl) (Or.inl rfl) (Or.inl rfl) ls (lv_sub hl [0, 2, 4, 5] rfl)
                  · skip
                    refine lv_iconst (v := 1) hx hb dX6_goes_121 (by decide) ?_
                    refine lv_goto (tgt := 126) hx hb dX6_goes_122 (by decide) ?_
                    refine lv_istore_n (lv' := [(3, .int (1 : Int32)), (5, .int (v_X6_takes (up (w_X6_does (w_X6_readThing u1)) 0 14 (v_X6_does (w_X6_readThing u1))) (59 : Int32) (59 : Int32))), (2, .int (x2 + (0 : Int32))), (4, .int (v_X6_does (w_X6_readThing u1))), (0, .ref (a 0)), (1, .int p1)]) hx hb dX6_goes_126 rfl hl (by decide) rfl (fun ls hl => ?_)
                    refine lv_goto (tgt := 19) hx hb dX6_goes_127 (by decide) ?_
                    refine q_eqI (show v_X6_goes_loop p1 (n + 1) u1 x2 x3 = v_X6_goes_loop p1 n (w_X6_takes (up (w_X6_does (w_X6_readThing u1)) 0 14 (v_X6_does (w_X6_readThing u1))) (59 : Int32) (59 : Int32)) (x2 + (0 : Int32)) (1 : Int32) from (if_neg c1).trans ((if_neg c2).trans ((if_neg c6).trans ((if_pos c10).trans ((if_pos c11).trans ((if_neg c12).trans ((if_pos c13).trans rfl))))))) (show w_X6_goes_loop p1 (n + 1) u1 x2 x3 = w_X6_goes_loop p1 n (w_X6_takes (up (w_X6_does (w_X6_readThing u1)) 0 14 (v_X6_does (w_X6_readThing u1))) (59 : Int32) (59 : Int32)) (x2 + (0 : Int32)) (1 : Int32) from (if_neg c1).trans ((if_neg c2).trans ((if_neg c6).trans ((if_pos c10).trans ((if_pos c11).trans ((if_neg c12).trans ((if_pos c13).trans rfl))))))) ?_
                    exact ih_LP_loop  trivial _ _ _ _ _ hP hS (takes_TI (TI_up14 (TI_pr2 hP2 hMV.1)) (by decide)) (SI_takes (SI_up0 hP2.1)) (Or.inr c13) (Or.inr (goes_f (hf.resolve_left c1) hMV.2 (pos_14d hP2) (TI_up14 (TI_pr2 hP2 hMV.1)) c13)) (Or.inr (Or.inr (goes_PV hPn (sm_pr2 hP2) c12))) ls (lv_sub hl [0, 2, 4, 5] rfl)
  refine q_eqI (show v_X6_goes u p1 = v_X6_goes_loop p1 61 (up (up (up u 0 11 (0 : Int32)) 0 12 (0 : Int32)) 0 14 (0 : Int32)) (0 : Int32) (1 : Int32) from rfl) (show w_X6_goes u p1 = w_X6_goes_loop p1 61 (up (up (up u 0 11 (0 : Int32)) 0 12 (0 : Int32)) 0 14 (0 : Int32)) (0 : Int32) (1 : Int32) from rfl) ?_
  exact LP_loop 61  trivial _ _ _ _ _ hP hS (TI_st hLI) (SI_up0 (SI_up0 (SI_up0 hm))) (Or.inr ((up_nk (by decide)).trans up_same)) (Or.inr (by omega)) (Or.inr ((Classical.em (p1 = 0)).elim Or.inl (fun z => Or.inr (hPV z)))) ls (lv_sub hl [0, 1, 2, 3] rfl)
