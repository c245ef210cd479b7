theorem bEk_congr {G : kG} {a a' : Nat → Nat} (h : ∀ t, t < 47 → a t = a' t) (i : Nat) : bEk G a 40 i = bEk G a' 40 i := by
  rcases (show i = 0 ∨ i = 1 ∨ i = 2 ∨ i = 3 ∨ i = 4 ∨ i = 5 ∨ i = 6 ∨ 7 ≤ i by omega) with rfl | rfl | rfl | rfl | rfl | rfl | rfl | h7
  · show (Sum.inr (1, [.ref (a 1), .ref (a 2), .ref (a 3), .ref (a 4), .ref (a 5), .int 0, .int 0, .int 0]) : va_E) = .inr (1, [.ref (a' 1), .ref (a' 2), .ref (a' 3), .ref (a' 4), .ref (a' 5), .int 0, .int 0, .int 0])
    rw [h 1 (by omega), h 2 (by omega), h 3 (by omega), h 4 (by omega), h 5 (by omega)]
  · refine congrArg (fun f => (.inl (G.2.2.2.1, 40, .inr (.inr (.inr (.inr f)))) : va_E)) (funext fun j => ?_)
    by_cases hj : j < 40
    · rw [if_pos hj, if_pos hj, h (j + 7) (by omega)]
    · rw [if_neg hj, if_neg hj]
  · rfl
  · rfl
  · rfl
  · show (Sum.inr (3, [.ref (a 6)]) : va_E) = .inr (3, [.ref (a' 6)])
    rw [h 6 (by omega)]
  · rfl
  · obtain ⟨t, rfl⟩ : ∃ t, i = t + 7 := ⟨i - 7, by omega⟩
    rfl
theorem eP_n {G : kG} {n n' : Nat} {a : Nat → Nat} {E : Nat → va_E} {H : Heap} (h : n = n') (hP : eP G n a E H) : eP G n' a E H := h ▸ hP
theorem eD_n {A : Nat → Prop} {n n' : Nat} {a : Nat → Nat} {E : Nat → va_E} (h : n = n') (hP : eD A n a E) : eD A n' a E := h ▸ hP
def hEk (G : kG) (a : Nat → Nat) (k : Nat) : Nat → va_E := fun i => match i with
  | 0 => .inr (2, [.ref (a 1), .int 0])
  | 1 => .inl (G.2.2.2.2, 4, .inr (.inr (.inr (.inr (fun j => if j < k then some (a (2 + 47 * j)) else none)))))
  | i + 2 => bEk G (fun t => a (2 + 47 * (i / 47) + t)) 40 (i % 47)
theorem hEk_step {G : kG} {a a2 a1 : Nat → Nat} {k : Nat} (ha : ∀ j, j < 2 + 47 * k → a2 j = a j) (ha1 : ∀ t, t < 47 → a2 (2 + 47 * k + t) = a1 t) {E2 : Nat → va_E} (hE : ∀ i, i < 2 + 47 * k → E2 i = hEk G a k i) (hb : ∀ t, t < 47 → E2 (2 + 47 * k + t) = bEk G a1 40 t) : ∀ i, i < 2 + 47 * (k + 1) → ue E2 1 (.inl (G.2.2.2.2, 4, .inr (.inr (.inr (.inr (va_up (fun j => if j < k then some (a (2 + 47 * j)) else none) k (some (a2 (2 + 47 * k))))))))) i = hEk G a2 (k + 1) i := by
  intro i hi
  by_cases h1 : i = 1
  · subst h1
    rw [ue_same]
    refine congrArg (fun f => (.inl (G.2.2.2.2, 4, .inr (.inr (.inr (.inr f)))) : va_E)) (funext fun j => ?_)
    by_cases h : j = k
    · subst h
      rw [va_up_self, if_pos (by omega)]
    · rw [va_up_ne _ _ h]
      by_cases h2 : j < k
      · rw [if_pos h2, if_pos (by omega), ha (2 + 47 * j) (by omega)]
      · rw [if_neg h2, if_neg (by omega)]
  rw [ue_ne h1]
  by_cases h0 : i = 0
  · subst h0
    rw [hE 0 (by omega)]
    show (Sum.inr (2, [.ref (a 1), .int 0]) : va_E) = .inr (2, [.ref (a2 1), .int 0])
    by_cases hk : 1 < 2 + 47 * k
    · rw [ha 1 hk]
    · omega
  obtain ⟨u, rfl⟩ : ∃ u, i = u + 2 := ⟨i - 2, by omega⟩
  by_cases h2 : u < 47 * k
  · rw [hE (u + 2) (by omega)]
    show bEk G (fun t => a (2 + 47 * (u / 47) + t)) 40 (u % 47) = bEk G (fun t => a2 (2 + 47 * (u / 47) + t)) 40 (u % 47)
    refine bEk_congr (fun t ht => ?_) _
    have : u / 47 < k := by omega
    exact (ha _ (by omega)).symm
  · obtain ⟨t, ht, rfl⟩ : ∃ t, t < 47 ∧ u = 47 * k + t := ⟨u - 47 * k, by omega, by omega⟩
    rw [show 47 * k + t + 2 = 2 + 47 * k + t by omega, hb t ht]
    show bEk G a1 40 t = hEk G a2 (k + 1) (2 + 47 * k + t)
    rw [show 2 + 47 * k + t = (47 * k + t) + 2 by omega]
    show bEk G a1 40 t = bEk G (fun t' => a2 (2 + 47 * ((47 * k + t) / 47) + t')) 40 ((47 * k + t) % 47)
    rw [show (47 * k + t) / 47 = k by omega, show (47 * k + t) % 47 = t by omega]
    exact bEk_congr (fun t' ht' => (ha1 t' ht').symm) t

set_option maxHeartbeats 4000000 in
set_option maxRecDepth 100000 in
theorem c_X2_init (l : Launch) (G : kG) (h sz : Nat) : Met l yX2_init (Cond.code yX2_init cX2_init 2 none :: BIG) (rmN 3 189 3292) (pcN G (fun H => eP G 1 (fun _ => h) (fun _ => .inr (2, [.null, .int 0])) H) sz [.ref h]) (qcV G (nA h sz) (fun H => ∃ a : Nat → Nat, a 0 = h ∧ gI 190 a ∧ (∀ i, 0 < i → i < 190 → sz ≤ a i) ∧ eP G 190 a (hEk G a 4) H)) 189 3292 (nA h sz) := by
  refine m_startN (by decide) (Nat.le_of_ble_eq_true rfl) ?_
  intro p e s m args below meth c S hr hlk hnm hP hK hz hO ls hl
  subst hz
  have hx := S.1
  have hb := S.2.1
  have hA : ∀ q : Nat, s.heap.size ≤ q → nA h s.heap.size q := fun q z => Or.inr z
  have hS : va_S (nA h s.heap.size) s.heap s.heap [] := va_S.rf
  have hD : eD (nA h s.heap.size) 1 (fun _ => h) (fun _ => .inr (2, [.null, .int 0])) := eD_one (Or.inl rfl)
  have hl : lv_has ls 2 [(0, .ref h)] := hl
  have LP : ∀ (n k : Nat), k + n = 4 → ∀ (a : Nat → Nat) (E : Nat → va_E) (H : Heap) (locs : List Loc), eP G (2 + 47 * k) a E H → eD (nA h s.heap.size) (2 + 47 * k) a E → va_S (nA h s.heap.size) s.heap H locs → a 0 = h → (∀ i, i < 2 + 47 * k → E i = hEk G a k i) → ∀ ls : Array Slot, lv_has ls 2 [(1, .int (nI k)), (0, .ref h)] → W p l e (rmN 3 189 3292) s m args below meth c H locs (1 + 47 * k) (4 + 822 * k) (MQ below (qcV G (nA h s.heap.size) (fun H => ∃ a : Nat → Nat, a 0 = h ∧ gI 190 a ∧ (∀ i, 0 < i → i < 190 → s.heap.size ≤ a i) ∧ eP G 190 a (hEk G a 4) H)) args s 189 3292 (nA h s.heap.size)) (F0 m 14 ls []) := by
    intro n
    induction n with
    | zero =>
      intro k hk a E H locs hP hD hS h0 hE ls hl
      obtain rfl : k = 4 := by omega
      refine lv_iload_n hx hb dX2_init_14 rfl (lv_at hl 0 rfl) ?_
      refine lv_aload_n hx hb dX2_init_15 rfl (lv_at hl 1 rfl) ?_
      refine e_stk (st' := [.ref (a 0), .int (nI 4)]) (by rw [h0]) ?_
      refine e_get S hK hP (i := 0) (by omega) (hE 0 (by omega)) rfl inlX2 0 (by decide) k_53 (v := .ref (a 1)) rfl dX2_init_16 ?_
      refine r_alen S hK hP (List.mem_range.mpr (show 1 < 2 + 47 * 4 by omega)) (hE 1 (by omega)) 3 rfl (v := 4) rfl dX2_init_19 ?_
      refine lv_icmp_ge (tgt := 42) hx hb dX2_init_20 (by decide) (fun _ => ?_) (fun c => absurd (by decide) c)
      exact e_void S hr hlk hK hS (P' := fun H => ∃ a : Nat → Nat, a 0 = h ∧ gI 190 a ∧ (∀ i, 0 < i → i < 190 → s.heap.size ≤ a i) ∧ eP G 190 a (hEk G a 4) H) ⟨a, h0, eD_inj hD, n_out hD h0, eP_congr hP (fun _ _ => rfl) (fun i hi => (hE i hi).symm)⟩ dX2_init_42
    | succ n ih =>
      intro k hk a E H locs hP hD hS h0 hE ls hl
      refine lv_iload_n hx hb dX2_init_14 rfl (lv_at hl 0 rfl) ?_
      refine lv_aload_n hx hb dX2_init_15 rfl (lv_at hl 1 rfl) ?_
      refine e_stk (st' := [.ref (a 0), .int (nI k)]) (by rw [h0]) ?_
      refine e_get S hK hP (i := 0) (by omega) (hE 0 (by omega)) rfl inlX2 0 (by decide) k_53 (v := .ref (a 1)) rfl dX2_init_16 ?_
      refine r_alen S hK hP (List.mem_range.mpr (show 1 < 2 + 47 * k by omega)) (hE 1 (by omega)) 3 rfl (v := 4) rfl dX2_init_19 ?_
      refine lv_icmp_ge (tgt := 42) hx hb dX2_init_20 (by decide) (fun c => absurd c (fun z => absurd ((nI_leI (a := 4) (b := k) (by omega) (by omega)).mp z) (by omega))) (fun _ => ?_)
      refine lv_aload_n hx hb dX2_init_23 rfl (lv_at hl 1 rfl) ?_
      refine e_stk (st' := [.ref (a 0)]) (by rw [h0]) ?_
      refine e_get S hK hP (i := 0) (by omega) (hE 0 (by omega)) rfl inlX2 0 (by decide) k_53 (v := .ref (a 1)) rfl dX2_init_24 ?_
      refine lv_iload_n hx hb dX2_init_27 rfl (lv_at hl 0 rfl) ?_
      refine e_new S hK hP hD hS hA (ci := 1) rfl inlX1 tyX1 tyX1_ok k_52 k_10 k_11 (fs := [.null, .null, .null, .null, .null, .int 0, .int 0, .int 0]) (fun j hj => by rcases (show j = 0 ∨ j = 1 ∨ j = 2 ∨ j = 3 ∨ j = 4 ∨ j = 5 ∨ j = 6 ∨ j = 7 by omega) with rfl | rfl | rfl | rfl | rfl | rfl | rfl | rfl <;> rfl) (show 1 + 47 * k + 1 ≤ 189 by omega) (show 4 + 822 * k + 8 ≤ 3292 by omega) dX2_init_28 (fun q H hP hD hS => ?_)
      refine lv_dup hx hb dX2_init_31 rfl ?_
      have hq1 : aw a (2 + 47 * k) q (2 + 47 * k) = q := aw_same
      have hP1 : eP G 1 (fun _ => q) (fun _ => .inr (1, [.null, .null, .null, .null, .null, .int 0, .int 0, .int 0])) H := eP_congr (eP_pick hP (show 2 + 47 * k < 2 + 47 * k + 1 by omega)) (fun _ _ => hq1.symm) (fun _ _ => ue_same.symm)
      have hsub : ∀ x, nA q H.size x → nA h s.heap.size x := fun x hx => nA_sub (G := G) hD hS hA (show 2 + 47 * k < 2 + 47 * k + 1 by omega) x (by rw [hq1]; exact hx)
      have hA5 : ∀ x : Nat, H.size ≤ x → nA h s.heap.size x := fun x hx => Or.inr (Nat.le_trans hS.1 hx)
      refine n_callI S hK hO hP1 (c_X1_init l G q H.size) k_25 k_54 k_24 k_11 rfl q_X1_init ⟨Nat.le_of_ble_eq_true rfl, Nat.le_of_ble_eq_true rfl⟩ rfl rfl hl.1 (Nat.le_of_ble_eq_true rfl) dX2_init_32 ⟨show 1 + 47 * k + 1 + 46 ≤ 189 by omega, show 4 + 822 * k + 8 + 814 ≤ 3292 by omega⟩ hS hsub (fun H1 locs1 hQ hk1 hz1 hS => ?_)
      obtain ⟨a1, h10, hI1, ho1, hQ⟩ := hQ
      obtain ⟨hP, hD⟩ := eP_join (k := 46) hD hP (show 2 + 47 * k < 2 + 47 * k + 1 by omega) (fun x h1 h2 => hk1 x h1 (by rw [← hq1]; exact h2)) hA5 (h10.trans hq1.symm) hI1 ho1 hQ
      have ha2 : ∀ j, j < 2 + 47 * k → aj (aw a (2 + 47 * k) q) (2 + 47 * k + 1) a1 j = a j := fun j hj => (if_pos (by omega)).trans (aw_ne (by omega))
      have hq2 : aj (aw a (2 + 47 * k) q) (2 + 47 * k + 1) a1 (2 + 47 * k) = q := (if_pos (by omega)).trans aw_same
      have ha1 : ∀ t, t < 47 → aj (aw a (2 + 47 * k) q) (2 + 47 * k + 1) a1 (2 + 47 * k + t) = a1 t := fun t ht => by
        by_cases h : t = 0
        · subst h; exact hq2.trans h10.symm
        · exact (if_neg (by omega)).trans (congrArg a1 (by omega))
      have hE2 : ∀ i, i < 2 + 47 * k → (Ej (ue E (2 + 47 * k) (.inr (1, [.null, .null, .null, .null, .null, .int 0, .int 0, .int 0]))) (2 + 47 * k + 1) (2 + 47 * k) (bEk G a1 40)) i = hEk G a k i := fun i hi => ((if_pos (by omega)).trans ((if_neg (by omega)).trans (ue_ne (by omega)))).trans (hE i hi)
      have hb2 : ∀ t, t < 47 → (Ej (ue E (2 + 47 * k) (.inr (1, [.null, .null, .null, .null, .null, .int 0, .int 0, .int 0]))) (2 + 47 * k + 1) (2 + 47 * k) (bEk G a1 40)) (2 + 47 * k + t) = bEk G a1 40 t := fun t ht => by
        by_cases h : t = 0
        · subst h; exact (if_pos (by omega)).trans (if_pos rfl)
        · exact (if_neg (by omega)).trans (congrArg (bEk G a1 40) (by omega))
      generalize aj (aw a (2 + 47 * k) q) (2 + 47 * k + 1) a1 = a2 at hP hD ha2 hq2 ha1
      generalize (Ej (ue E (2 + 47 * k) (.inr (1, [.null, .null, .null, .null, .null, .int 0, .int 0, .int 0]))) (2 + 47 * k + 1) (2 + 47 * k) (bEk G a1 40)) = E2 at hP hD hE2 hb2
      have hP := eP_n (show 2 + 47 * k + 1 + 46 = 2 + 47 * (k + 1) by omega) hP
      have hD := eD_n (show 2 + 47 * k + 1 + 46 = 2 + 47 * (k + 1) by omega) hD
      refine e_stk (st' := [.ref (a2 (2 + 47 * k)), .int (nI k), .ref (a2 1)]) (by rw [hq2, ha2 1 (by omega)]) ?_
      refine e_qast S hK hP hD hS (i := 1) (i2 := 2 + 47 * k) (by omega) (by omega) (hE2 1 (by omega)) (t := 3) rfl (hb2 0 (by omega)) rfl (k := k) (by omega) (by decide) dX2_init_35 (fun H locs hP hD hS => ?_)
      refine lv_iinc (v := nI (k + 1)) (lv' := [(1, .int (nI (k + 1))), (0, .ref h)]) hx hb dX2_init_36 hl (k := 0) rfl (nI_1 _) (by decide) rfl (fun ls hl => ?_)
      refine lv_goto (tgt := 14) hx hb dX2_init_39 (by decide) ?_
      exact ih (k + 1) (by omega) a2 _ H locs hP hD hS ((ha2 0 (by omega)).trans h0) (hEk_step ha2 ha1 hE2 hb2) ls hl
  refine lv_aload_n hx hb dX2_init_0 rfl (lv_at hl 0 rfl) ?_
  refine e_obj S hl.1 k_51 k_7 k_8 dX2_init_1 (Nat.le_of_ble_eq_true rfl) (Nat.le_of_ble_eq_true rfl) ?_
  refine lv_aload_n hx hb dX2_init_4 rfl (lv_at hl 0 rfl) ?_
  refine lv_iconst (v := 4) hx hb dX2_init_5 (by decide) ?_
  refine e_newq S hK hP hD hS hA (t := 3) rfl k_52 hO.2 (N := 4) (by decide) (by decide) (Nat.le_of_ble_eq_true rfl) (show 0 + 1 ≤ 189 by omega) (show 0 + 4 ≤ 3292 by omega) dX2_init_6 (fun q1 H hP hD hS => ?_)
  refine e_putF S hK hP hD hS hnm (i := 0) (by decide) rfl rfl inlX2 tyX2 tyX2_ok nmX2 0 (by decide) k_53 rfl rfl (ty := .array (.object "InvoiceBook$Book")) (by decide +kernel) rfl rfl (Nat.le_of_ble_eq_true rfl) dX2_init_9 (fun H locs hP hD hS => ?_)
  refine lv_iconst (v := 0) hx hb dX2_init_12 (by decide) ?_
  refine lv_istore_n (lv' := [(1, .int 0), (0, .ref h)]) hx hb dX2_init_13 rfl hl (by decide) rfl (fun ls hl => ?_)
  refine LP 4 0 rfl _ _ H locs hP hD hS rfl (fun i hi => ?_) ls hl
  rcases (show i = 0 ∨ i = 1 by omega) with rfl | rfl
  · rfl
  · rfl
