def wB (z : CS) (r t k : Nat) (v : Int32) : CS := zB z r (up (z.2 r) t k v)
def wC (z : CS) (r t r1 N : Nat) : CS := zB z r (upI (z.2 r) t (va_cpy (z.2 r1 t) (z.2 r t) 0 0 N))
def w7 (z : CS) (t k : Nat) (v : Int32) : CS := zB z 7 (up (z.2 7) t k v)
def w8 (z : CS) (k : Nat) (v : Int32) : CS := zB z 8 (up (z.2 8) 0 k v)
def RJ (R : Nat → Nat) : Prop := (∀ i j, i < 6 → j < 6 → R i = R j → i = j) ∧ ∀ k, k < 6 → R k ≠ 2
theorem RJ_ne {R : Nat → Nat} {i j : Nat} (h : RJ R) (hi : i < 6) (hj : j < 6) (hij : i ≠ j) : R i ≠ R j := fun z => hij (h.1 i j hi hj z)
theorem RI_up {R : Nat → Nat} {k v : Nat} (h : RI R) (hv : v < 7) : RI (upR R k v) := fun q hq => by
  unfold upR
  split
  · exact hv
  · exact h q hq
theorem w7_same {z : CS} {t k : Nat} {v : Int32} : (w7 z t k v).2 7 t k = v := by
  show upP z.2 7 (up (z.2 7) t k v) 7 t k = v
  rw [upP_same, up_same]
theorem w7_ne {z : CS} {t k t' k' : Nat} {v : Int32} (h : ¬ (t' = t ∧ k' = k)) : (w7 z t k v).2 7 t' k' = z.2 7 t' k' := by
  show upP z.2 7 (up (z.2 7) t k v) 7 t' k' = z.2 7 t' k'
  rw [upP_same]
  exact if_neg h
theorem vp_dec {x : Int32} (h : ¬ x ≤ 0) (h2 : x ≤ (4 : Int32)) : vp_in (x - (1 : Int32)) 4 := by
  obtain ⟨j, hj, rfl⟩ := nI_of2 (M := 4) (n := 4) (by decide) (fun z => h (Int32.le_of_lt z)) h2
  rcases Nat.eq_zero_or_pos j with e | e
  · exact absurd (by rw [e]; decide) h
  · obtain ⟨i, rfl⟩ : ∃ i, j = i + 1 := ⟨j - 1, by omega⟩
    rw [nI_pred]
    exact vp_in_nI (by omega) (by decide)
theorem wz_ne {z : CS} {r r1 : Nat} {b : Nat → Nat → Int32} (h : r1 ≠ r) : (zB z r b).2 r1 = z.2 r1 := upP_ne h

theorem pBk : parseFieldDescriptor "LInvoiceBook$Book;" = some (.object "InvoiceBook$Book") := by decide +kernel

def w_X0_copyFrom (z : CS) (r : Nat) (j : Nat) (r1 : Nat) (j1 : Nat) : CS := wB (wB (wB (wB (wB (wB (wB (wB (wB (wB (wB (wB (wB (wB z r (j + 7) 0 (z.2 r1 (j1 + 7) 0)) r (j + 7) 1 (z.2 r1 (j1 + 7) 1)) r (j + 7) 2 (z.2 r1 (j1 + 7) 2)) r (j + 7) 3 (z.2 r1 (j1 + 7) 3)) r (j + 7) 4 (z.2 r1 (j1 + 7) 4)) r (j + 7) 5 (z.2 r1 (j1 + 7) 5)) r (j + 7) 6 (z.2 r1 (j1 + 7) 6)) r (j + 7) 7 (z.2 r1 (j1 + 7) 7)) r (j + 7) 8 (z.2 r1 (j1 + 7) 8)) r (j + 7) 9 (z.2 r1 (j1 + 7) 9)) r (j + 7) 10 (z.2 r1 (j1 + 7) 10)) r (j + 7) 11 (z.2 r1 (j1 + 7) 11)) r (j + 7) 12 (z.2 r1 (j1 + 7) 12)) r (j + 7) 13 (z.2 r1 (j1 + 7) 13)
theorem q_X0_copyFrom : yX0_copyFrom.cls ≠ "java/lang/invoke/MethodHandle" ∧ yX0_copyFrom.cls ≠ "java/lang/invoke/VarHandle" ∧ (parseMethodDescriptor yX0_copyFrom.desc).map (fun d => d.parameters.length) = some 1 := ⟨by decide, by decide, by decide +kernel⟩
set_option maxHeartbeats 4000000 in
set_option maxRecDepth 100000 in
theorem c_X0_copyFrom (l : Launch) (G : kG) (a : Nat → Nat) (hI : gI 334 a) (z : CS) (r : Nat) (j : Nat) (r1 : Nat) (j1 : Nat) (hr_ : r < 7) (hj : j < 40) (hr1 : r1 < 7) (hj1 : j1 < 40) (hne : r1 ≠ r) : Met l yX0_copyFrom (Cond.code yX0_copyFrom cX0_copyFrom 2 none :: BIG) (rmK 0) (pcG G (cP G a z) [.ref (a (47 * r + (j + 7))), .ref (a (47 * r1 + (j1 + 7)))]) (qcV G (gA 334 a) (cP G a (w_X0_copyFrom z r j r1 j1))) 0 0 (gA 334 a) := by
  refine m_start (by decide) (Nat.le_of_ble_eq_true rfl) ?_
  intro p e s m args below meth c S hr hlk hnm hP hK ls hl
  have hx := S.1
  have hb := S.2.1
  have hown := S.2.2.2.1
  have hS : va_S (gA 334 a) s.heap s.heap [] := va_S.rf
  have hl : lv_has ls 2 [(0, .ref (a (47 * r + (j + 7)))), (1, .ref (a (47 * r1 + (j1 + 7))))] := hl
  refine lv_aload_n hx hb dX0_copyFrom_0 rfl (lv_at hl 0 rfl) ?_
  refine lv_aload_n hx hb dX0_copyFrom_1 rfl (lv_at hl 1 rfl) ?_
  have hB := cP_book (r := r1) hP hr1
  refine g_get S hK hB (i := j1 + 7) (by omega) bC7 rfl inlX0 0 (by decide) k_46 (v := .int (z.2 r1 (j1 + 7) 0)) rfl dX0_copyFrom_2 ?_
  refine c_putB (r := r) (t := j + 7) hr_ (by omega) S hK hP hI hS bC7 rfl inlX0 tyX0 tyX0_ok nmX0 iF_n 0 (by decide) k_46 rfl pI rfl rfl (fun _ => rfl) dX0_copyFrom_5 (fun H locs hP hS => ?_)
  have hP : cP G a (wB z r (j + 7) 0 (z.2 r1 (j1 + 7) 0)) H := hP
  refine lv_aload_n hx hb dX0_copyFrom_8 rfl (lv_at hl 0 rfl) ?_
  refine lv_aload_n hx hb dX0_copyFrom_9 rfl (lv_at hl 1 rfl) ?_
  have hB := cP_book (r := r1) hP hr1
  refine g_get S hK hB (i := j1 + 7) (by omega) bC7 rfl inlX0 1 (by decide) k_82 (v := .int (z.2 r1 (j1 + 7) 1)) (congrArg Value.int (congrFun (congrFun ((wz_ne hne)) (j1 + 7)) 1)) dX0_copyFrom_10 ?_
  refine c_putB (r := r) (t := j + 7) hr_ (by omega) S hK hP hI hS bC7 rfl inlX0 tyX0 tyX0_ok nmX0 iF_n 1 (by decide) k_82 rfl pI rfl rfl (fun _ => rfl) dX0_copyFrom_13 (fun H locs hP hS => ?_)
  have hP : cP G a (wB (wB z r (j + 7) 0 (z.2 r1 (j1 + 7) 0)) r (j + 7) 1 (z.2 r1 (j1 + 7) 1)) H := hP
  refine lv_aload_n hx hb dX0_copyFrom_16 rfl (lv_at hl 0 rfl) ?_
  refine lv_aload_n hx hb dX0_copyFrom_17 rfl (lv_at hl 1 rfl) ?_
  have hB := cP_book (r := r1) hP hr1
  refine g_get S hK hB (i := j1 + 7) (by omega) bC7 rfl inlX0 2 (by decide) k_304 (v := .int (z.2 r1 (j1 + 7) 2)) (congrArg Value.int (congrFun (congrFun ((wz_ne hne).trans ((wz_ne hne))) (j1 + 7)) 2)) dX0_copyFrom_18 ?_
  refine c_putB (r := r) (t := j + 7) hr_ (by omega) S hK hP hI hS bC7 rfl inlX0 tyX0 tyX0_ok nmX0 iF_n 2 (by decide) k_304 rfl pI rfl rfl (fun _ => rfl) dX0_copyFrom_21 (fun H locs hP hS => ?_)
  have hP : cP G a (wB (wB (wB z r (j + 7) 0 (z.2 r1 (j1 + 7) 0)) r (j + 7) 1 (z.2 r1 (j1 + 7) 1)) r (j + 7) 2 (z.2 r1 (j1 + 7) 2)) H := hP
  refine lv_aload_n hx hb dX0_copyFrom_24 rfl (lv_at hl 0 rfl) ?_
  refine lv_aload_n hx hb dX0_copyFrom_25 rfl (lv_at hl 1 rfl) ?_
  have hB := cP_book (r := r1) hP hr1
  refine g_get S hK hB (i := j1 + 7) (by omega) bC7 rfl inlX0 3 (by decide) k_305 (v := .int (z.2 r1 (j1 + 7) 3)) (congrArg Value.int (congrFun (congrFun ((wz_ne hne).trans ((wz_ne hne).trans ((wz_ne hne)))) (j1 + 7)) 3)) dX0_copyFrom_26 ?_
  refine c_putB (r := r) (t := j + 7) hr_ (by omega) S hK hP hI hS bC7 rfl inlX0 tyX0 tyX0_ok nmX0 iF_n 3 (by decide) k_305 rfl pI rfl rfl (fun _ => rfl) dX0_copyFrom_29 (fun H locs hP hS => ?_)
  have hP : cP G a (wB (wB (wB (wB z r (j + 7) 0 (z.2 r1 (j1 + 7) 0)) r (j + 7) 1 (z.2 r1 (j1 + 7) 1)) r (j + 7) 2 (z.2 r1 (j1 + 7) 2)) r (j + 7) 3 (z.2 r1 (j1 + 7) 3)) H := hP
  refine lv_aload_n hx hb dX0_copyFrom_32 rfl (lv_at hl 0 rfl) ?_
  refine lv_aload_n hx hb dX0_copyFrom_33 rfl (lv_at hl 1 rfl) ?_
  have hB := cP_book (r := r1) hP hr1
  refine g_get S hK hB (i := j1 + 7) (by omega) bC7 rfl inlX0 4 (by decide) k_306 (v := .int (z.2 r1 (j1 + 7) 4)) (congrArg Value.int (congrFun (congrFun ((wz_ne hne).trans ((wz_ne hne).trans ((wz_ne hne).trans ((wz_ne hne))))) (j1 + 7)) 4)) dX0_copyFrom_34 ?_
  refine c_putB (r := r) (t := j + 7) hr_ (by omega) S hK hP hI hS bC7 rfl inlX0 tyX0 tyX0_ok nmX0 iF_n 4 (by decide) k_306 rfl pI rfl rfl (fun _ => rfl) dX0_copyFrom_37 (fun H locs hP hS => ?_)
  have hP : cP G a (wB (wB (wB (wB (wB z r (j + 7) 0 (z.2 r1 (j1 + 7) 0)) r (j + 7) 1 (z.2 r1 (j1 + 7) 1)) r (j + 7) 2 (z.2 r1 (j1 + 7) 2)) r (j + 7) 3 (z.2 r1 (j1 + 7) 3)) r (j + 7) 4 (z.2 r1 (j1 + 7) 4)) H := hP
  refine lv_aload_n hx hb dX0_copyFrom_40 rfl (lv_at hl 0 rfl) ?_
  refine lv_aload_n hx hb dX0_copyFrom_41 rfl (lv_at hl 1 rfl) ?_
  have hB := cP_book (r := r1) hP hr1
  refine g_get S hK hB (i := j1 + 7) (by omega) bC7 rfl inlX0 5 (by decide) k_102 (v := .int (z.2 r1 (j1 + 7) 5)) (congrArg Value.int (congrFun (congrFun ((wz_ne hne).trans ((wz_ne hne).trans ((wz_ne hne).trans ((wz_ne hne).trans ((wz_ne hne)))))) (j1 + 7)) 5)) dX0_copyFrom_42 ?_
  refine c_putB (r := r) (t := j + 7) hr_ (by omega) S hK hP hI hS bC7 rfl inlX0 tyX0 tyX0_ok nmX0 iF_n 5 (by decide) k_102 rfl pI rfl rfl (fun _ => rfl) dX0_copyFrom_45 (fun H locs hP hS => ?_)
  have hP : cP G a (wB (wB (wB (wB (wB (wB z r (j + 7) 0 (z.2 r1 (j1 + 7) 0)) r (j + 7) 1 (z.2 r1 (j1 + 7) 1)) r (j + 7) 2 (z.2 r1 (j1 + 7) 2)) r (j + 7) 3 (z.2 r1 (j1 + 7) 3)) r (j + 7) 4 (z.2 r1 (j1 + 7) 4)) r (j + 7) 5 (z.2 r1 (j1 + 7) 5)) H := hP
  refine lv_aload_n hx hb dX0_copyFrom_48 rfl (lv_at hl 0 rfl) ?_
  refine lv_aload_n hx hb dX0_copyFrom_49 rfl (lv_at hl 1 rfl) ?_
  have hB := cP_book (r := r1) hP hr1
  refine g_get S hK hB (i := j1 + 7) (by omega) bC7 rfl inlX0 6 (by decide) k_92 (v := .int (z.2 r1 (j1 + 7) 6)) (congrArg Value.int (congrFun (congrFun ((wz_ne hne).trans ((wz_ne hne).trans ((wz_ne hne).trans ((wz_ne hne).trans ((wz_ne hne).trans ((wz_ne hne))))))) (j1 + 7)) 6)) dX0_copyFrom_50 ?_
  refine c_putB (r := r) (t := j + 7) hr_ (by omega) S hK hP hI hS bC7 rfl inlX0 tyX0 tyX0_ok nmX0 iF_n 6 (by decide) k_92 rfl pI rfl rfl (fun _ => rfl) dX0_copyFrom_53 (fun H locs hP hS => ?_)
  have hP : cP G a (wB (wB (wB (wB (wB (wB (wB z r (j + 7) 0 (z.2 r1 (j1 + 7) 0)) r (j + 7) 1 (z.2 r1 (j1 + 7) 1)) r (j + 7) 2 (z.2 r1 (j1 + 7) 2)) r (j + 7) 3 (z.2 r1 (j1 + 7) 3)) r (j + 7) 4 (z.2 r1 (j1 + 7) 4)) r (j + 7) 5 (z.2 r1 (j1 + 7) 5)) r (j + 7) 6 (z.2 r1 (j1 + 7) 6)) H := hP
  refine lv_aload_n hx hb dX0_copyFrom_56 rfl (lv_at hl 0 rfl) ?_
  refine lv_aload_n hx hb dX0_copyFrom_57 rfl (lv_at hl 1 rfl) ?_
  have hB := cP_book (r := r1) hP hr1
  refine g_get S hK hB (i := j1 + 7) (by omega) bC7 rfl inlX0 7 (by decide) k_93 (v := .int (z.2 r1 (j1 + 7) 7)) (congrArg Value.int (congrFun (congrFun ((wz_ne hne).trans ((wz_ne hne).trans ((wz_ne hne).trans ((wz_ne hne).trans ((wz_ne hne).trans ((wz_ne hne).trans ((wz_ne hne)))))))) (j1 + 7)) 7)) dX0_copyFrom_58 ?_
  refine c_putB (r := r) (t := j + 7) hr_ (by omega) S hK hP hI hS bC7 rfl inlX0 tyX0 tyX0_ok nmX0 iF_n 7 (by decide) k_93 rfl pI rfl rfl (fun _ => rfl) dX0_copyFrom_61 (fun H locs hP hS => ?_)
  have hP : cP G a (wB (wB (wB (wB (wB (wB (wB (wB z r (j + 7) 0 (z.2 r1 (j1 + 7) 0)) r (j + 7) 1 (z.2 r1 (j1 + 7) 1)) r (j + 7) 2 (z.2 r1 (j1 + 7) 2)) r (j + 7) 3 (z.2 r1 (j1 + 7) 3)) r (j + 7) 4 (z.2 r1 (j1 + 7) 4)) r (j + 7) 5 (z.2 r1 (j1 + 7) 5)) r (j + 7) 6 (z.2 r1 (j1 + 7) 6)) r (j + 7) 7 (z.2 r1 (j1 + 7) 7)) H := hP
  refine lv_aload_n hx hb dX0_copyFrom_64 rfl (lv_at hl 0 rfl) ?_
  refine lv_aload_n hx hb dX0_copyFrom_65 rfl (lv_at hl 1 rfl) ?_
  have hB := cP_book (r := r1) hP hr1
  refine g_get S hK hB (i := j1 + 7) (by omega) bC7 rfl inlX0 8 (by decide) k_104 (v := .int (z.2 r1 (j1 + 7) 8)) (congrArg Value.int (congrFun (congrFun ((wz_ne hne).trans ((wz_ne hne).trans ((wz_ne hne).trans ((wz_ne hne).trans ((wz_ne hne).trans ((wz_ne hne).trans ((wz_ne hne).trans ((wz_ne hne))))))))) (j1 + 7)) 8)) dX0_copyFrom_66 ?_
  refine c_putB (r := r) (t := j + 7) hr_ (by omega) S hK hP hI hS bC7 rfl inlX0 tyX0 tyX0_ok nmX0 iF_n 8 (by decide) k_104 rfl pI rfl rfl (fun _ => rfl) dX0_copyFrom_69 (fun H locs hP hS => ?_)
  have hP : cP G a (wB (wB (wB (wB (wB (wB (wB (wB (wB z r (j + 7) 0 (z.2 r1 (j1 + 7) 0)) r (j + 7) 1 (z.2 r1 (j1 + 7) 1)) r (j + 7) 2 (z.2 r1 (j1 + 7) 2)) r (j + 7) 3 (z.2 r1 (j1 + 7) 3)) r (j + 7) 4 (z.2 r1 (j1 + 7) 4)) r (j + 7) 5 (z.2 r1 (j1 + 7) 5)) r (j + 7) 6 (z.2 r1 (j1 + 7) 6)) r (j + 7) 7 (z.2 r1 (j1 + 7) 7)) r (j + 7) 8 (z.2 r1 (j1 + 7) 8)) H := hP
  refine lv_aload_n hx hb dX0_copyFrom_72 rfl (lv_at hl 0 rfl) ?_
  refine lv_aload_n hx hb dX0_copyFrom_73 rfl (lv_at hl 1 rfl) ?_
  have hB := cP_book (r := r1) hP hr1
  refine g_get S hK hB (i := j1 + 7) (by omega) bC7 rfl inlX0 9 (by decide) k_105 (v := .int (z.2 r1 (j1 + 7) 9)) (congrArg Value.int (congrFun (congrFun ((wz_ne hne).trans ((wz_ne hne).trans ((wz_ne hne).trans ((wz_ne hne).trans ((wz_ne hne).trans ((wz_ne hne).trans ((wz_ne hne).trans ((wz_ne hne).trans ((wz_ne hne)))))))))) (j1 + 7)) 9)) dX0_copyFrom_74 ?_
  refine c_putB (r := r) (t := j + 7) hr_ (by omega) S hK hP hI hS bC7 rfl inlX0 tyX0 tyX0_ok nmX0 iF_n 9 (by decide) k_105 rfl pI rfl rfl (fun _ => rfl) dX0_copyFrom_77 (fun H locs hP hS => ?_)
  have hP : cP G a (wB (wB (wB (wB (wB (wB (wB (wB (wB (wB z r (j + 7) 0 (z.2 r1 (j1 + 7) 0)) r (j + 7) 1 (z.2 r1 (j1 + 7) 1)) r (j + 7) 2 (z.2 r1 (j1 + 7) 2)) r (j + 7) 3 (z.2 r1 (j1 + 7) 3)) r (j + 7) 4 (z.2 r1 (j1 + 7) 4)) r (j + 7) 5 (z.2 r1 (j1 + 7) 5)) r (j + 7) 6 (z.2 r1 (j1 + 7) 6)) r (j + 7) 7 (z.2 r1 (j1 + 7) 7)) r (j + 7) 8 (z.2 r1 (j1 + 7) 8)) r (j + 7) 9 (z.2 r1 (j1 + 7) 9)) H := hP
  refine lv_aload_n hx hb dX0_copyFrom_80 rfl (lv_at hl 0 rfl) ?_
  refine lv_aload_n hx hb dX0_copyFrom_81 rfl (lv_at hl 1 rfl) ?_
  have hB := cP_book (r := r1) hP hr1
  refine g_get S hK hB (i := j1 + 7) (by omega) bC7 rfl inlX0 10 (by decide) k_103 (v := .int (z.2 r1 (j1 + 7) 10)) (congrArg Value.int (congrFun (congrFun ((wz_ne hne).trans ((wz_ne hne).trans ((wz_ne hne).trans ((wz_ne hne).trans ((wz_ne hne).trans ((wz_ne hne).trans ((wz_ne hne).trans ((wz_ne hne).trans ((wz_ne hne).trans ((wz_ne hne))))))))))) (j1 + 7)) 10)) dX0_copyFrom_82 ?_
  refine c_putB (r := r) (t := j + 7) hr_ (by omega) S hK hP hI hS bC7 rfl inlX0 tyX0 tyX0_ok nmX0 iF_n 10 (by decide) k_103 rfl pI rfl rfl (fun _ => rfl) dX0_copyFrom_85 (fun H locs hP hS => ?_)
  have hP : cP G a (wB (wB (wB (wB (wB (wB (wB (wB (wB (wB (wB z r (j + 7) 0 (z.2 r1 (j1 + 7) 0)) r (j + 7) 1 (z.2 r1 (j1 + 7) 1)) r (j + 7) 2 (z.2 r1 (j1 + 7) 2)) r (j + 7) 3 (z.2 r1 (j1 + 7) 3)) r (j + 7) 4 (z.2 r1 (j1 + 7) 4)) r (j + 7) 5 (z.2 r1 (j1 + 7) 5)) r (j + 7) 6 (z.2 r1 (j1 + 7) 6)) r (j + 7) 7 (z.2 r1 (j1 + 7) 7)) r (j + 7) 8 (z.2 r1 (j1 + 7) 8)) r (j + 7) 9 (z.2 r1 (j1 + 7) 9)) r (j + 7) 10 (z.2 r1 (j1 + 7) 10)) H := hP
  refine lv_aload_n hx hb dX0_copyFrom_88 rfl (lv_at hl 0 rfl) ?_
  refine lv_aload_n hx hb dX0_copyFrom_89 rfl (lv_at hl 1 rfl) ?_
  have hB := cP_book (r := r1) hP hr1
  refine g_get S hK hB (i := j1 + 7) (by omega) bC7 rfl inlX0 11 (by decide) k_187 (v := .int (z.2 r1 (j1 + 7) 11)) (congrArg Value.int (congrFun (congrFun ((wz_ne hne).trans ((wz_ne hne).trans ((wz_ne hne).trans ((wz_ne hne).trans ((wz_ne hne).trans ((wz_ne hne).trans ((wz_ne hne).trans ((wz_ne hne).trans ((wz_ne hne).trans ((wz_ne hne).trans ((wz_ne hne)))))))))))) (j1 + 7)) 11)) dX0_copyFrom_90 ?_
  refine c_putB (r := r) (t := j + 7) hr_ (by omega) S hK hP hI hS bC7 rfl inlX0 tyX0 tyX0_ok nmX0 iF_n 11 (by decide) k_187 rfl pI rfl rfl (fun _ => rfl) dX0_copyFrom_93 (fun H locs hP hS => ?_)
  have hP : cP G a (wB (wB (wB (wB (wB (wB (wB (wB (wB (wB (wB (wB z r (j + 7) 0 (z.2 r1 (j1 + 7) 0)) r (j + 7) 1 (z.2 r1 (j1 + 7) 1)) r (j + 7) 2 (z.2 r1 (j1 + 7) 2)) r (j + 7) 3 (z.2 r1 (j1 + 7) 3)) r (j + 7) 4 (z.2 r1 (j1 + 7) 4)) r (j + 7) 5 (z.2 r1 (j1 + 7) 5)) r (j + 7) 6 (z.2 r1 (j1 + 7) 6)) r (j + 7) 7 (z.2 r1 (j1 + 7) 7)) r (j + 7) 8 (z.2 r1 (j1 + 7) 8)) r (j + 7) 9 (z.2 r1 (j1 + 7) 9)) r (j + 7) 10 (z.2 r1 (j1 + 7) 10)) r (j + 7) 11 (z.2 r1 (j1 + 7) 11)) H := hP
  refine lv_aload_n hx hb dX0_copyFrom_96 rfl (lv_at hl 0 rfl) ?_
  refine lv_aload_n hx hb dX0_copyFrom_97 rfl (lv_at hl 1 rfl) ?_
  have hB := cP_book (r := r1) hP hr1
  refine g_get S hK hB (i := j1 + 7) (by omega) bC7 rfl inlX0 12 (by decide) k_193 (v := .int (z.2 r1 (j1 + 7) 12)) (congrArg Value.int (congrFun (congrFun ((wz_ne hne).trans ((wz_ne hne).trans ((wz_ne hne).trans ((wz_ne hne).trans ((wz_ne hne).trans ((wz_ne hne).trans ((wz_ne hne).trans ((wz_ne hne).trans ((wz_ne hne).trans ((wz_ne hne).trans ((wz_ne hne).trans ((wz_ne hne))))))))))))) (j1 + 7)) 12)) dX0_copyFrom_98 ?_
  refine c_putB (r := r) (t := j + 7) hr_ (by omega) S hK hP hI hS bC7 rfl inlX0 tyX0 tyX0_ok nmX0 iF_n 12 (by decide) k_193 rfl pI rfl rfl (fun _ => rfl) dX0_copyFrom_101 (fun H locs hP hS => ?_)
  have hP : cP G a (wB (wB (wB (wB (wB (wB (wB (wB (wB (wB (wB (wB (wB z r (j + 7) 0 (z.2 r1 (j1 + 7) 0)) r (j + 7) 1 (z.2 r1 (j1 + 7) 1)) r (j + 7) 2 (z.2 r1 (j1 + 7) 2)) r (j + 7) 3 (z.2 r1 (j1 + 7) 3)) r (j + 7) 4 (z.2 r1 (j1 + 7) 4)) r (j + 7) 5 (z.2 r1 (j1 + 7) 5)) r (j + 7) 6 (z.2 r1 (j1 + 7) 6)) r (j + 7) 7 (z.2 r1 (j1 + 7) 7)) r (j + 7) 8 (z.2 r1 (j1 + 7) 8)) r (j + 7) 9 (z.2 r1 (j1 + 7) 9)) r (j + 7) 10 (z.2 r1 (j1 + 7) 10)) r (j + 7) 11 (z.2 r1 (j1 + 7) 11)) r (j + 7) 12 (z.2 r1 (j1 + 7) 12)) H := hP
  refine lv_aload_n hx hb dX0_copyFrom_104 rfl (lv_at hl 0 rfl) ?_
  refine lv_aload_n hx hb dX0_copyFrom_105 rfl (lv_at hl 1 rfl) ?_
  have hB := cP_book (r := r1) hP hr1
  refine g_get S hK hB (i := j1 + 7) (by omega) bC7 rfl inlX0 13 (by decide) k_47 (v := .int (z.2 r1 (j1 + 7) 13)) (congrArg Value.int (congrFun (congrFun ((wz_ne hne).trans ((wz_ne hne).trans ((wz_ne hne).trans ((wz_ne hne).trans ((wz_ne hne).trans ((wz_ne hne).trans ((wz_ne hne).trans ((wz_ne hne).trans ((wz_ne hne).trans ((wz_ne hne).trans ((wz_ne hne).trans ((wz_ne hne).trans ((wz_ne hne)))))))))))))) (j1 + 7)) 13)) dX0_copyFrom_106 ?_
  refine c_putB (r := r) (t := j + 7) hr_ (by omega) S hK hP hI hS bC7 rfl inlX0 tyX0 tyX0_ok nmX0 iF_n 13 (by decide) k_47 rfl pI rfl rfl (fun _ => rfl) dX0_copyFrom_109 (fun H locs hP hS => ?_)
  have hP : cP G a (wB (wB (wB (wB (wB (wB (wB (wB (wB (wB (wB (wB (wB (wB z r (j + 7) 0 (z.2 r1 (j1 + 7) 0)) r (j + 7) 1 (z.2 r1 (j1 + 7) 1)) r (j + 7) 2 (z.2 r1 (j1 + 7) 2)) r (j + 7) 3 (z.2 r1 (j1 + 7) 3)) r (j + 7) 4 (z.2 r1 (j1 + 7) 4)) r (j + 7) 5 (z.2 r1 (j1 + 7) 5)) r (j + 7) 6 (z.2 r1 (j1 + 7) 6)) r (j + 7) 7 (z.2 r1 (j1 + 7) 7)) r (j + 7) 8 (z.2 r1 (j1 + 7) 8)) r (j + 7) 9 (z.2 r1 (j1 + 7) 9)) r (j + 7) 10 (z.2 r1 (j1 + 7) 10)) r (j + 7) 11 (z.2 r1 (j1 + 7) 11)) r (j + 7) 12 (z.2 r1 (j1 + 7) 12)) r (j + 7) 13 (z.2 r1 (j1 + 7) 13)) H := hP
  exact e_void S hr hlk hK hS (cP_eq (show w_X0_copyFrom z r j r1 j1 = wB (wB (wB (wB (wB (wB (wB (wB (wB (wB (wB (wB (wB (wB z r (j + 7) 0 (z.2 r1 (j1 + 7) 0)) r (j + 7) 1 (z.2 r1 (j1 + 7) 1)) r (j + 7) 2 (z.2 r1 (j1 + 7) 2)) r (j + 7) 3 (z.2 r1 (j1 + 7) 3)) r (j + 7) 4 (z.2 r1 (j1 + 7) 4)) r (j + 7) 5 (z.2 r1 (j1 + 7) 5)) r (j + 7) 6 (z.2 r1 (j1 + 7) 6)) r (j + 7) 7 (z.2 r1 (j1 + 7) 7)) r (j + 7) 8 (z.2 r1 (j1 + 7) 8)) r (j + 7) 9 (z.2 r1 (j1 + 7) 9)) r (j + 7) 10 (z.2 r1 (j1 + 7) 10)) r (j + 7) 11 (z.2 r1 (j1 + 7) 11)) r (j + 7) 12 (z.2 r1 (j1 + 7) 12)) r (j + 7) 13 (z.2 r1 (j1 + 7) 13) from rfl) hP) dX0_copyFrom_112

def w_X3_copyFrom (z : CS) (r : Nat) (r1 : Nat) : CS := wC z r 6 r1 5
theorem q_X3_copyFrom : yX3_copyFrom.cls ≠ "java/lang/invoke/MethodHandle" ∧ yX3_copyFrom.cls ≠ "java/lang/invoke/VarHandle" ∧ (parseMethodDescriptor yX3_copyFrom.desc).map (fun d => d.parameters.length) = some 1 := ⟨by decide, by decide, by decide +kernel⟩
set_option maxHeartbeats 4000000 in
set_option maxRecDepth 100000 in
theorem c_X3_copyFrom (l : Launch) (G : kG) (a : Nat → Nat) (hI : gI 334 a) (z : CS) (r : Nat) (r1 : Nat) (hr_ : r < 7) (hr1 : r1 < 7) : Met l yX3_copyFrom (Cond.code yX3_copyFrom cX3_copyFrom 2 none :: BIG) (rmK 1) (pcG G (cP G a z) [.ref (a (47 * r + 5)), .ref (a (47 * r1 + 5))]) (qcV G (gA 334 a) (cP G a (w_X3_copyFrom z r r1))) 0 0 (gA 334 a) := by
  refine m_start (by decide) (Nat.le_of_ble_eq_true rfl) ?_
  intro p e s m args below meth c S hr hlk hnm hP hK ls hl
  have hx := S.1
  have hb := S.2.1
  have hown := S.2.2.2.1
  have hS : va_S (gA 334 a) s.heap s.heap [] := va_S.rf
  have hl : lv_has ls 2 [(0, .ref (a (47 * r + 5))), (1, .ref (a (47 * r1 + 5)))] := hl
  refine lv_aload_n hx hb dX3_copyFrom_0 rfl (lv_at hl 1 rfl) ?_
  have hB := cP_book (r := r1) hP hr1
  refine g_get S hK hB (i := 5) (by omega) bC5 rfl inlX3 0 (by decide) k_42 (v := .ref (a (47 * r1 + 6))) rfl dX3_copyFrom_1 ?_
  refine lv_iconst (v := 0) hx hb dX3_copyFrom_4 (by decide) ?_
  refine lv_aload_n hx hb dX3_copyFrom_5 rfl (lv_at hl 0 rfl) ?_
  have hB := cP_book (r := r) hP hr_
  refine g_get S hK hB (i := 5) (by omega) bC5 rfl inlX3 0 (by decide) k_42 (v := .ref (a (47 * r + 6))) rfl dX3_copyFrom_6 ?_
  refine lv_iconst (v := 0) hx hb dX3_copyFrom_9 (by decide) ?_
  refine lv_aload_n hx hb dX3_copyFrom_10 rfl (lv_at hl 0 rfl) ?_
  have hB := cP_book (r := r) hP hr_
  refine g_get S hK hB (i := 5) (by omega) bC5 rfl inlX3 0 (by decide) k_42 (v := .ref (a (47 * r + 6))) rfl dX3_copyFrom_11 ?_
  have hB := cP_book (r := r) hP hr_
  refine g_alen S hK hB (i := 6) (by omega) (bC6 _) 0 rfl (v := 5) rfl dX3_copyFrom_14 ?_
  refine c_copy (r := r) (r1 := r1) (t := 6) (N := 5) hr_ hr1 (by decide) S hl.1 hK hP hI hS (fun _ => bC6) (by decide) rfl k_311 k_296 k_297 k_298 (Nat.le_of_ble_eq_true rfl) (Nat.le_of_ble_eq_true rfl) dX3_copyFrom_15 (fun H locs hP hS => ?_)
  have hP : cP G a (wC z r 6 r1 5) H := hP
  exact e_void S hr hlk hK hS (cP_eq (show w_X3_copyFrom z r r1 = wC z r 6 r1 5 from rfl) hP) dX3_copyFrom_18

def w_X1_copyFrom_loop (r : Nat) (r1 : Nat) : Nat → Nat → (CS) → (CS)
  | 0, k, z => wB (wB (wB (w_X3_copyFrom (wC (wC (wC z r 2 r1 8) r 3 r1 100) r 4 r1 100) r r1) r 0 5 ((w_X3_copyFrom (wC (wC (wC z r 2 r1 8) r 3 r1 100) r 4 r1 100) r r1).2 r1 0 5)) r 0 6 ((wB (w_X3_copyFrom (wC (wC (wC z r 2 r1 8) r 3 r1 100) r 4 r1 100) r r1) r 0 5 ((w_X3_copyFrom (wC (wC (wC z r 2 r1 8) r 3 r1 100) r 4 r1 100) r r1).2 r1 0 5)).2 r1 0 6)) r 0 7 ((wB (wB (w_X3_copyFrom (wC (wC (wC z r 2 r1 8) r 3 r1 100) r 4 r1 100) r r1) r 0 5 ((w_X3_copyFrom (wC (wC (wC z r 2 r1 8) r 3 r1 100) r 4 r1 100) r r1).2 r1 0 5)) r 0 6 ((wB (w_X3_copyFrom (wC (wC (wC z r 2 r1 8) r 3 r1 100) r 4 r1 100) r r1) r 0 5 ((w_X3_copyFrom (wC (wC (wC z r 2 r1 8) r 3 r1 100) r 4 r1 100) r r1).2 r1 0 5)).2 r1 0 6)).2 r1 0 7)
  | n + 1, k, z => w_X1_copyFrom_loop r r1 n (k + 1) (w_X0_copyFrom z r k r1 k)
def w_X1_copyFrom (z : CS) (r : Nat) (r1 : Nat) : CS := w_X1_copyFrom_loop r r1 40 0 z
theorem q_X1_copyFrom : yX1_copyFrom.cls ≠ "java/lang/invoke/MethodHandle" ∧ yX1_copyFrom.cls ≠ "java/lang/invoke/VarHandle" ∧ (parseMethodDescriptor yX1_copyFrom.desc).map (fun d => d.parameters.length) = some 1 := ⟨by decide, by decide, by decide +kernel⟩
set_option maxHeartbeats 4000000 in
set_option maxRecDepth 100000 in
theorem c_X1_copyFrom (l : Launch) (G : kG) (a : Nat → Nat) (hI : gI 334 a) (z : CS) (r : Nat) (r1 : Nat) (hr_ : r < 7) (hr1 : r1 < 7) (hne : r1 ≠ r) : Met l yX1_copyFrom (Cond.code yX1_copyFrom cX1_copyFrom 3 none :: BIG) (rmK 2) (pcG G (cP G a z) [.ref (a (47 * r)), .ref (a (47 * r1))]) (qcV G (gA 334 a) (cP G a (w_X1_copyFrom z r r1))) 0 0 (gA 334 a) := by
  refine m_start (by decide) (Nat.le_of_ble_eq_true rfl) ?_
  intro p e s m args below meth c S hr hlk hnm hP hK ls hl
  have hx := S.1
  have hb := S.2.1
  have hown := S.2.2.2.1
  have hS : va_S (gA 334 a) s.heap s.heap [] := va_S.rf
  have hl : lv_has ls 3 [(0, .ref (a (47 * r))), (1, .ref (a (47 * r1)))] := hl
  refine lv_iconst (v := 0) hx hb dX1_copyFrom_0 (by decide) ?_
  refine lv_istore_n (lv' := [(2, .int (0 : Int32)), (0, .ref (a (47 * r))), (1, .ref (a (47 * r1)))]) hx hb dX1_copyFrom_1 rfl hl (by decide) rfl (fun ls hl => ?_)
  have LP_loop : ∀ (n : Nat) (k : Nat), k + n = 40 → ∀ (z : CS) (H : Heap) (locs : List Loc), cP G a z H → va_S (gA 334 a) s.heap H locs → ∀ ls : Array Slot, lv_has ls 3 [(2, .int (nI k)), (0, .ref (a (47 * r))), (1, .ref (a (47 * r1)))] → W p l e (rmK 2) s m args below meth c H locs 0 0 (MQ below (qcV G (gA 334 a) (cP G a (w_X1_copyFrom_loop r r1 n k z))) args s 0 0 (gA 334 a)) (F0 m 2 ls []) := by
    intro n
    induction n with
    | zero =>
      intro k hk_LP_loop z H locs hP hS ls hl
      refine lv_iload_n hx hb dX1_copyFrom_2 rfl (lv_at hl 0 rfl) ?_
      refine lv_aload_n hx hb dX1_copyFrom_3 rfl (lv_at hl 1 rfl) ?_
      have hB := cP_book (r := r) hP hr_
      refine g_get S hK hB (i := 0) (by omega) bC0 rfl inlX1 0 (by decide) k_28 (v := .ref (a (47 * r + 1))) rfl dX1_copyFrom_4 ?_
      have hB := cP_book (r := r) hP hr_
      refine g_alen S hK hB (i := 1) (by omega) (bC1 _) 2 rfl (v := 40) rfl dX1_copyFrom_7 ?_
      refine lv_icmp_ge (tgt := 32) hx hb dX1_copyFrom_8 (by decide) (fun _ => ?_) (fun c => absurd ((nI_leI (a := 40) (b := k) (by omega) (by omega)).mpr (by omega)) c)
      refine lv_aload_n hx hb dX1_copyFrom_32 rfl (lv_at hl 2 rfl) ?_
      have hB := cP_book (r := r1) hP hr1
      refine g_get S hK hB (i := 0) (by omega) bC0 rfl inlX1 1 (by decide) k_30 (v := .ref (a (47 * r1 + 2))) rfl dX1_copyFrom_33 ?_
      refine lv_iconst (v := 0) hx hb dX1_copyFrom_36 (by decide) ?_
      refine lv_aload_n hx hb dX1_copyFrom_37 rfl (lv_at hl 1 rfl) ?_
      have hB := cP_book (r := r) hP hr_
      refine g_get S hK hB (i := 0) (by omega) bC0 rfl inlX1 1 (by decide) k_30 (v := .ref (a (47 * r + 2))) rfl dX1_copyFrom_38 ?_
      refine lv_iconst (v := 0) hx hb dX1_copyFrom_41 (by decide) ?_
      refine lv_aload_n hx hb dX1_copyFrom_42 rfl (lv_at hl 1 rfl) ?_
      have hB := cP_book (r := r) hP hr_
      refine g_get S hK hB (i := 0) (by omega) bC0 rfl inlX1 1 (by decide) k_30 (v := .ref (a (47 * r + 2))) rfl dX1_copyFrom_43 ?_
      have hB := cP_book (r := r) hP hr_
      refine g_alen S hK hB (i := 2) (by omega) (bC2 _) 0 rfl (v := 8) rfl dX1_copyFrom_46 ?_
      refine c_copy (r := r) (r1 := r1) (t := 2) (N := 8) hr_ hr1 (by decide) S hl.1 hK hP hI hS (fun _ => bC2) (by decide) rfl k_295 k_296 k_297 k_298 (Nat.le_of_ble_eq_true rfl) (Nat.le_of_ble_eq_true rfl) dX1_copyFrom_47 (fun H locs hP hS => ?_)
      have hP : cP G a (wC z r 2 r1 8) H := hP
      refine lv_aload_n hx hb dX1_copyFrom_50 rfl (lv_at hl 2 rfl) ?_
      have hB := cP_book (r := r1) hP hr1
      refine g_get S hK hB (i := 0) (by omega) bC0 rfl inlX1 2 (by decide) k_31 (v := .ref (a (47 * r1 + 3))) rfl dX1_copyFrom_51 ?_
      refine lv_iconst (v := 0) hx hb dX1_copyFrom_54 (by decide) ?_
      refine lv_aload_n hx hb dX1_copyFrom_55 rfl (lv_at hl 1 rfl) ?_
      have hB := cP_book (r := r) hP hr_
      refine g_get S hK hB (i := 0) (by omega) bC0 rfl inlX1 2 (by decide) k_31 (v := .ref (a (47 * r + 3))) rfl dX1_copyFrom_56 ?_
      refine lv_iconst (v := 0) hx hb dX1_copyFrom_59 (by decide) ?_
      refine lv_aload_n hx hb dX1_copyFrom_60 rfl (lv_at hl 1 rfl) ?_
      have hB := cP_book (r := r) hP hr_
      refine g_get S hK hB (i := 0) (by omega) bC0 rfl inlX1 2 (by decide) k_31 (v := .ref (a (47 * r + 3))) rfl dX1_copyFrom_61 ?_
      have hB := cP_book (r := r) hP hr_
      refine g_alen S hK hB (i := 3) (by omega) (bC3 _) 0 rfl (v := 100) rfl dX1_copyFrom_64 ?_
      refine c_copy (r := r) (r1 := r1) (t := 3) (N := 100) hr_ hr1 (by decide) S hl.1 hK hP hI hS (fun _ => bC3) (by decide) rfl k_295 k_296 k_297 k_298 (Nat.le_of_ble_eq_true rfl) (Nat.le_of_ble_eq_true rfl) dX1_copyFrom_65 (fun H locs hP hS => ?_)
      have hP : cP G a (wC (wC z r 2 r1 8) r 3 r1 100) H := hP
      refine lv_aload_n hx hb dX1_copyFrom_68 rfl (lv_at hl 2 rfl) ?_
      have hB := cP_book (r := r1) hP hr1
      refine g_get S hK hB (i := 0) (by omega) bC0 rfl inlX1 3 (by decide) k_32 (v := .ref (a (47 * r1 + 4))) rfl dX1_copyFrom_69 ?_
      refine lv_iconst (v := 0) hx hb dX1_copyFrom_72 (by decide) ?_
      refine lv_aload_n hx hb dX1_copyFrom_73 rfl (lv_at hl 1 rfl) ?_
      have hB := cP_book (r := r) hP hr_
      refine g_get S hK hB (i := 0) (by omega) bC0 rfl inlX1 3 (by decide) k_32 (v := .ref (a (47 * r + 4))) rfl dX1_copyFrom_74 ?_
      refine lv_iconst (v := 0) hx hb dX1_copyFrom_77 (by decide) ?_
      refine lv_aload_n hx hb dX1_copyFrom_78 rfl (lv_at hl 1 rfl) ?_
      have hB := cP_book (r := r) hP hr_
      refine g_get S hK hB (i := 0) (by omega) bC0 rfl inlX1 3 (by decide) k_32 (v := .ref (a (47 * r + 4))) rfl dX1_copyFrom_79 ?_
      have hB := cP_book (r := r) hP hr_
      refine g_alen S hK hB (i := 4) (by omega) (bC4 _) 0 rfl (v := 100) rfl dX1_copyFrom_82 ?_
      refine c_copy (r := r) (r1 := r1) (t := 4) (N := 100) hr_ hr1 (by decide) S hl.1 hK hP hI hS (fun _ => bC4) (by decide) rfl k_295 k_296 k_297 k_298 (Nat.le_of_ble_eq_true rfl) (Nat.le_of_ble_eq_true rfl) dX1_copyFrom_83 (fun H locs hP hS => ?_)
      have hP : cP G a (wC (wC (wC z r 2 r1 8) r 3 r1 100) r 4 r1 100) H := hP
      refine lv_aload_n hx hb dX1_copyFrom_86 rfl (lv_at hl 1 rfl) ?_
      have hB := cP_book (r := r) hP hr_
      refine g_get S hK hB (i := 0) (by omega) bC0 rfl inlX1 4 (by decide) k_36 (v := .ref (a (47 * r + 5))) rfl dX1_copyFrom_87 ?_
      refine lv_aload_n hx hb dX1_copyFrom_90 rfl (lv_at hl 2 rfl) ?_
      have hB := cP_book (r := r1) hP hr1
      refine g_get S hK hB (i := 0) (by omega) bC0 rfl inlX1 4 (by decide) k_36 (v := .ref (a (47 * r1 + 5))) rfl dX1_copyFrom_91 ?_
      have hB := cP_book (r := r) hP hr_
      refine r_callV S hK hP (c_X3_copyFrom l G a hI (wC (wC (wC z r 2 r1 8) r 3 r1 100) r 4 r1 100) r r1 hr_ hr1 ) (r_cw S k_310 k_307 k_308 k_309 k_35 q_X3_copyFrom ⟨Nat.le_of_ble_eq_true rfl, Nat.le_of_ble_eq_true rfl⟩ rfl rfl) (g_recv hK hB (i := 5) (by omega) bC5 rfl) rfl hl.1 rfl (Nat.le_of_ble_eq_true rfl) dX1_copyFrom_94 ⟨Nat.zero_le _, Nat.zero_le _⟩ hS (fun _ h => h) (fun H locs hP _ _ hS => ?_)
      have hP : cP G a (w_X3_copyFrom (wC (wC (wC z r 2 r1 8) r 3 r1 100) r 4 r1 100) r r1) H := hP
      refine lv_aload_n hx hb dX1_copyFrom_97 rfl (lv_at hl 1 rfl) ?_
      refine lv_aload_n hx hb dX1_copyFrom_98 rfl (lv_at hl 2 rfl) ?_
      have hB := cP_book (r := r1) hP hr1
      refine g_get S hK hB (i := 0) (by omega) bC0 rfl inlX1 5 (by decide) k_87 (v := .int ((w_X3_copyFrom (wC (wC (wC z r 2 r1 8) r 3 r1 100) r 4 r1 100) r r1).2 r1 0 5)) rfl dX1_copyFrom_99 ?_
      refine c_putB (r := r) (t := 0) hr_ (by decide) S hK hP hI hS bC0 rfl inlX1 tyX1 tyX1_ok nmX1 bF_n 5 (by decide) k_87 rfl pI rfl rfl (fun _ => rfl) dX1_copyFrom_102 (fun H locs hP hS => ?_)
      have hP : cP G a (wB (w_X3_copyFrom (wC (wC (wC z r 2 r1 8) r 3 r1 100) r 4 r1 100) r r1) r 0 5 ((w_X3_copyFrom (wC (wC (wC z r 2 r1 8) r 3 r1 100) r 4 r1 100) r r1).2 r1 0 5)) H := hP
      refine lv_aload_n hx hb dX1_copyFrom_105 rfl (lv_at hl 1 rfl) ?_
      refine lv_aload_n hx hb dX1_copyFrom_106 rfl (lv_at hl 2 rfl) ?_
      have hB := cP_book (r := r1) hP hr1
      refine g_get S hK hB (i := 0) (by omega) bC0 rfl inlX1 6 (by decide) k_257 (v := .int ((wB (w_X3_copyFrom (wC (wC (wC z r 2 r1 8) r 3 r1 100) r 4 r1 100) r r1) r 0 5 ((w_X3_copyFrom (wC (wC (wC z r 2 r1 8) r 3 r1 100) r 4 r1 100) r r1).2 r1 0 5)).2 r1 0 6)) rfl dX1_copyFrom_107 ?_
      refine c_putB (r := r) (t := 0) hr_ (by decide) S hK hP hI hS bC0 rfl inlX1 tyX1 tyX1_ok nmX1 bF_n 6 (by decide) k_257 rfl pI rfl rfl (fun _ => rfl) dX1_copyFrom_110 (fun H locs hP hS => ?_)
      have hP : cP G a (wB (wB (w_X3_copyFrom (wC (wC (wC z r 2 r1 8) r 3 r1 100) r 4 r1 100) r r1) r 0 5 ((w_X3_copyFrom (wC (wC (wC z r 2 r1 8) r 3 r1 100) r 4 r1 100) r r1).2 r1 0 5)) r 0 6 ((wB (w_X3_copyFrom (wC (wC (wC z r 2 r1 8) r 3 r1 100) r 4 r1 100) r r1) r 0 5 ((w_X3_copyFrom (wC (wC (wC z r 2 r1 8) r 3 r1 100) r 4 r1 100) r r1).2 r1 0 5)).2 r1 0 6)) H := hP
      refine lv_aload_n hx hb dX1_copyFrom_113 rfl (lv_at hl 1 rfl) ?_
      refine lv_aload_n hx hb dX1_copyFrom_114 rfl (lv_at hl 2 rfl) ?_
      have hB := cP_book (r := r1) hP hr1
      refine g_get S hK hB (i := 0) (by omega) bC0 rfl inlX1 7 (by decide) k_299 (v := .int ((wB (wB (w_X3_copyFrom (wC (wC (wC z r 2 r1 8) r 3 r1 100) r 4 r1 100) r r1) r 0 5 ((w_X3_copyFrom (wC (wC (wC z r 2 r1 8) r 3 r1 100) r 4 r1 100) r r1).2 r1 0 5)) r 0 6 ((wB (w_X3_copyFrom (wC (wC (wC z r 2 r1 8) r 3 r1 100) r 4 r1 100) r r1) r 0 5 ((w_X3_copyFrom (wC (wC (wC z r 2 r1 8) r 3 r1 100) r 4 r1 100) r r1).2 r1 0 5)).2 r1 0 6)).2 r1 0 7)) rfl dX1_copyFrom_115 ?_
      refine c_putB (r := r) (t := 0) hr_ (by decide) S hK hP hI hS bC0 rfl inlX1 tyX1 tyX1_ok nmX1 bF_n 7 (by decide) k_299 rfl pI rfl rfl (fun _ => rfl) dX1_copyFrom_118 (fun H locs hP hS => ?_)
      have hP : cP G a (wB (wB (wB (w_X3_copyFrom (wC (wC (wC z r 2 r1 8) r 3 r1 100) r 4 r1 100) r r1) r 0 5 ((w_X3_copyFrom (wC (wC (wC z r 2 r1 8) r 3 r1 100) r 4 r1 100) r r1).2 r1 0 5)) r 0 6 ((wB (w_X3_copyFrom (wC (wC (wC z r 2 r1 8) r 3 r1 100) r 4 r1 100) r r1) r 0 5 ((w_X3_copyFrom (wC (wC (wC z r 2 r1 8) r 3 r1 100) r 4 r1 100) r r1).2 r1 0 5)).2 r1 0 6)) r 0 7 ((wB (wB (w_X3_copyFrom (wC (wC (wC z r 2 r1 8) r 3 r1 100) r 4 r1 100) r r1) r 0 5 ((w_X3_copyFrom (wC (wC (wC z r 2 r1 8) r 3 r1 100) r 4 r1 100) r r1).2 r1 0 5)) r 0 6 ((wB (w_X3_copyFrom (wC (wC (wC z r 2 r1 8) r 3 r1 100) r 4 r1 100) r r1) r 0 5 ((w_X3_copyFrom (wC (wC (wC z r 2 r1 8) r 3 r1 100) r 4 r1 100) r r1).2 r1 0 5)).2 r1 0 6)).2 r1 0 7)) H := hP
      exact e_void S hr hlk hK hS (cP_eq (show w_X1_copyFrom_loop r r1 0 k z = wB (wB (wB (w_X3_copyFrom (wC (wC (wC z r 2 r1 8) r 3 r1 100) r 4 r1 100) r r1) r 0 5 ((w_X3_copyFrom (wC (wC (wC z r 2 r1 8) r 3 r1 100) r 4 r1 100) r r1).2 r1 0 5)) r 0 6 ((wB (w_X3_copyFrom (wC (wC (wC z r 2 r1 8) r 3 r1 100) r 4 r1 100) r r1) r 0 5 ((w_X3_copyFrom (wC (wC (wC z r 2 r1 8) r 3 r1 100) r 4 r1 100) r r1).2 r1 0 5)).2 r1 0 6)) r 0 7 ((wB (wB (w_X3_copyFrom (wC (wC (wC z r 2 r1 8) r 3 r1 100) r 4 r1 100) r r1) r 0 5 ((w_X3_copyFrom (wC (wC (wC z r 2 r1 8) r 3 r1 100) r 4 r1 100) r r1).2 r1 0 5)) r 0 6 ((wB (w_X3_copyFrom (wC (wC (wC z r 2 r1 8) r 3 r1 100) r 4 r1 100) r r1) r 0 5 ((w_X3_copyFrom (wC (wC (wC z r 2 r1 8) r 3 r1 100) r 4 r1 100) r r1).2 r1 0 5)).2 r1 0 6)).2 r1 0 7) from rfl) hP) dX1_copyFrom_121
    | succ n ih_LP_loop =>
      intro k hk_LP_loop z H locs hP hS ls hl
      refine lv_iload_n hx hb dX1_copyFrom_2 rfl (lv_at hl 0 rfl) ?_
      refine lv_aload_n hx hb dX1_copyFrom_3 rfl (lv_at hl 1 rfl) ?_
      have hB := cP_book (r := r) hP hr_
      refine g_get S hK hB (i := 0) (by omega) bC0 rfl inlX1 0 (by decide) k_28 (v := .ref (a (47 * r + 1))) rfl dX1_copyFrom_4 ?_
      have hB := cP_book (r := r) hP hr_
      refine g_alen S hK hB (i := 1) (by omega) (bC1 _) 2 rfl (v := 40) rfl dX1_copyFrom_7 ?_
      refine lv_icmp_ge (tgt := 32) hx hb dX1_copyFrom_8 (by decide) (fun c => absurd c (fun z => absurd ((nI_leI (a := 40) (b := k) (by omega) (by omega)).mp z) (by omega))) (fun _ => ?_)
      refine lv_aload_n hx hb dX1_copyFrom_11 rfl (lv_at hl 1 rfl) ?_
      have hB := cP_book (r := r) hP hr_
      refine g_get S hK hB (i := 0) (by omega) bC0 rfl inlX1 0 (by decide) k_28 (v := .ref (a (47 * r + 1))) rfl dX1_copyFrom_12 ?_
      refine lv_iload_n hx hb dX1_copyFrom_15 rfl (lv_at hl 0 rfl) ?_
      have hB := cP_book (r := r) hP hr_
      refine g_bald S hK hB (i := 1) (by omega) bC1 (k := k) (by omega) (by decide) (v := .ref (a (47 * r + (k + 7)))) rfl dX1_copyFrom_16 ?_
      refine lv_aload_n hx hb dX1_copyFrom_17 rfl (lv_at hl 2 rfl) ?_
      have hB := cP_book (r := r1) hP hr1
      refine g_get S hK hB (i := 0) (by omega) bC0 rfl inlX1 0 (by decide) k_28 (v := .ref (a (47 * r1 + 1))) rfl dX1_copyFrom_18 ?_
      refine lv_iload_n hx hb dX1_copyFrom_21 rfl (lv_at hl 0 rfl) ?_
      have hB := cP_book (r := r1) hP hr1
      refine g_bald S hK hB (i := 1) (by omega) bC1 (k := k) (by omega) (by decide) (v := .ref (a (47 * r1 + (k + 7)))) rfl dX1_copyFrom_22 ?_
      have hB := cP_book (r := r) hP hr_
      refine r_callV S hK hP (c_X0_copyFrom l G a hI z r k r1 k hr_ (by omega) hr1 (by omega) hne) (r_cw S k_303 k_300 k_301 k_302 k_38 q_X0_copyFrom ⟨Nat.le_of_ble_eq_true rfl, Nat.le_of_ble_eq_true rfl⟩ rfl rfl) (g_recv hK hB (i := k + 7) (by omega) bC7 rfl) rfl hl.1 rfl (Nat.le_of_ble_eq_true rfl) dX1_copyFrom_23 ⟨Nat.zero_le _, Nat.zero_le _⟩ hS (fun _ h => h) (fun H locs hP _ _ hS => ?_)
      have hP : cP G a (w_X0_copyFrom z r k r1 k) H := hP
      refine lv_iinc (v := nI (k + 1)) (lv' := [(2, .int (nI (k + 1))), (0, .ref (a (47 * r))), (1, .ref (a (47 * r1)))]) hx hb dX1_copyFrom_26 hl (k := 0) rfl (nI_1 _) (by decide) rfl (fun ls hl => ?_)
      refine lv_goto (tgt := 2) hx hb dX1_copyFrom_29 (by decide) ?_
      refine q_eqVz (show w_X1_copyFrom_loop r r1 (n + 1) k z = w_X1_copyFrom_loop r r1 n (k + 1) (w_X0_copyFrom z r k r1 k) from rfl) ?_
      exact ih_LP_loop (k + 1) (by omega) _ _ _ hP hS ls (lv_sub hl [0, 1, 2] rfl)
  refine q_eqVz (show w_X1_copyFrom z r r1 = w_X1_copyFrom_loop r r1 40 0 z from rfl) ?_
  exact LP_loop 40 0 (by omega) _ _ _ hP hS ls (lv_sub hl [0, 1, 2] rfl)

def w_X5_startAct (z : CS) : CS := w_X1_copyFrom z (z.1 1) (z.1 0)
theorem q_X5_startAct : yX5_startAct.cls ≠ "java/lang/invoke/MethodHandle" ∧ yX5_startAct.cls ≠ "java/lang/invoke/VarHandle" ∧ (parseMethodDescriptor yX5_startAct.desc).map (fun d => d.parameters.length) = some 0 := ⟨by decide, by decide, by decide +kernel⟩
set_option maxHeartbeats 4000000 in
set_option maxRecDepth 100000 in
theorem c_X5_startAct (l : Launch) (G : kG) (a : Nat → Nat) (hI : gI 334 a) (z : CS) (hR : RI z.1) (hJ : RJ z.1) : Met l yX5_startAct (Cond.code yX5_startAct cX5_startAct 1 none :: BIG) (rmK 3) (pcG G (cP G a z) [.ref (a 329)]) (qcV G (gA 334 a) (cP G a (w_X5_startAct z))) 0 0 (gA 334 a) := by
  refine m_start (by decide) (Nat.le_of_ble_eq_true rfl) ?_
  intro p e s m args below meth c S hr hlk hnm hP hK ls hl
  have hx := S.1
  have hb := S.2.1
  have hown := S.2.2.2.1
  have hS : va_S (gA 334 a) s.heap s.heap [] := va_S.rf
  have hl : lv_has ls 1 [(0, .ref (a 329))] := hl
  refine lv_aload_n hx hb dX5_startAct_0 rfl (lv_at hl 0 rfl) ?_
  refine g_get S hK hP (i := 329) (by omega) cC0 rfl inlX5 1 (by decide) k_13 (v := .ref (a (47 * (z.1 1)))) rfl dX5_startAct_1 ?_
  refine lv_aload_n hx hb dX5_startAct_4 rfl (lv_at hl 0 rfl) ?_
  refine g_get S hK hP (i := 329) (by omega) cC0 rfl inlX5 0 (by decide) k_12 (v := .ref (a (47 * (z.1 0)))) rfl dX5_startAct_5 ?_
  have hB := cP_book (r := z.1 1) hP (hR 1 (by decide))
  refine r_callV S hK hP (c_X1_copyFrom l G a hI z (z.1 1) (z.1 0) (hR 1 (by decide)) (hR 0 (by decide)) (RJ_ne hJ (by decide) (by decide) (by decide))) (r_cw S k_294 k_291 k_292 k_293 k_11 q_X1_copyFrom ⟨Nat.le_of_ble_eq_true rfl, Nat.le_of_ble_eq_true rfl⟩ rfl rfl) (g_recv hK hB (i := 0) (by omega) bC0 rfl) rfl hl.1 rfl (Nat.le_of_ble_eq_true rfl) dX5_startAct_8 ⟨Nat.zero_le _, Nat.zero_le _⟩ hS (fun _ h => h) (fun H locs hP _ _ hS => ?_)
  have hP : cP G a (w_X1_copyFrom z (z.1 1) (z.1 0)) H := hP
  exact e_void S hr hlk hK hS (cP_eq (show w_X5_startAct z  = w_X1_copyFrom z (z.1 1) (z.1 0) from rfl) hP) dX5_startAct_11
