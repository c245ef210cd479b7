def iEk (G : kG) (a : Nat → Nat) : Nat → va_E := fun i => if i = 0 then .inr (5, [.ref (a 1), .ref (a 48), .ref (a 95), .int 0, .ref (a 142), .ref (a 332), .int 0, .int 0, .int 0]) else if i < 142 then bEk G (fun t => a (1 + 47 * ((i - 1) / 47) + t)) 40 ((i - 1) % 47) else if i < 332 then hEk G (fun t => a (142 + t)) 4 (i - 142) else enT G (fun t => a (332 + t)) (i - 332)
theorem hEk_congr {G : kG} {a a' : Nat → Nat} (h : ∀ t, t < 190 → a t = a' t) {i : Nat} (hi : i < 190) : hEk G a 4 i = hEk G a' 4 i := by
  by_cases h0 : i = 0
  · subst h0
    show (Sum.inr (2, [.ref (a 1), .int 0]) : va_E) = .inr (2, [.ref (a' 1), .int 0])
    rw [h 1 (by omega)]
  by_cases h1 : i = 1
  · subst h1
    refine congrArg (fun f => (.inl (G.2.2.2.2, 4, .inr (.inr (.inr (.inr f)))) : va_E)) (funext fun j => ?_)
    by_cases hj : j < 4
    · rw [if_pos hj, if_pos hj, h (2 + 47 * j) (by omega)]
    · rw [if_neg hj, if_neg hj]
  obtain ⟨u, rfl⟩ : ∃ u, i = u + 2 := ⟨i - 2, by omega⟩
  show bEk G (fun t => a (2 + 47 * (u / 47) + t)) 40 (u % 47) = bEk G (fun t => a' (2 + 47 * (u / 47) + t)) 40 (u % 47)
  exact bEk_congr (fun t ht => h _ (by omega)) _
theorem enT_congr {G : kG} {a a' : Nat → Nat} (h : a 1 = a' 1) {i : Nat} (hi : i < 2) : enT G a i = enT G a' i := by
  rcases (show i = 0 ∨ i = 1 by omega) with rfl | rfl
  · show tC G a 0 (fun _ => 0) = tC G a' 0 (fun _ => 0)
    show (Sum.inr (4, (List.range 9).map (tF a (fun _ => 0))) : va_E) = .inr (4, (List.range 9).map (tF a' (fun _ => 0)))
    refine congrArg (fun f => (Sum.inr (4, (List.range 9).map f) : va_E)) (funext fun k => ?_)
    unfold tF
    split
    · rw [h]
    · rfl
  · rfl

set_option maxHeartbeats 4000000 in
set_option maxRecDepth 100000 in
theorem c_X5_init (l : Launch) (G : kG) (h sz : Nat) : Met l yX5_init (Cond.code yX5_init cX5_init 1 none :: BIG) (rmN 4 333 5829) (pcN G (fun H => eP G 1 (fun _ => h) (fun _ => .inr (5, [.null, .null, .null, .int 0, .null, .null, .int 0, .int 0, .int 0])) H) sz [.ref h]) (qcV G (nA h sz) (fun H => ∃ a : Nat → Nat, a 0 = h ∧ gI 334 a ∧ (∀ i, 0 < i → i < 334 → sz ≤ a i) ∧ eP G 334 a (iEk G a) H)) 333 5829 (nA h sz) := by
  refine m_startN (by decide) (Nat.le_of_ble_eq_true rfl) ?_
  intro p e s m args below meth c S hr hlk hnm hP hK hz hO ls hl
  subst hz
  have hx := S.1
  have hb := S.2.1
  have hA : ∀ q : Nat, s.heap.size ≤ q → nA h s.heap.size q := fun q z => Or.inr z
  have hS : va_S (nA h s.heap.size) s.heap s.heap [] := va_S.rf
  have hD : eD (nA h s.heap.size) 1 (fun _ => h) (fun _ => .inr (5, [.null, .null, .null, .int 0, .null, .null, .int 0, .int 0, .int 0])) := eD_one (Or.inl rfl)
  have hl : lv_has ls 1 [(0, .ref h)] := hl
  refine lv_aload_n hx hb dX5_init_0 rfl (lv_at hl 0 rfl) ?_
  refine e_obj S hl.1 k_6 k_7 k_8 dX5_init_1 (Nat.le_of_ble_eq_true rfl) (Nat.le_of_ble_eq_true rfl) ?_
  obtain ⟨a0, E0, h00, hE00, hP, hD⟩ : ∃ (a0 : Nat → Nat) (E0 : Nat → va_E), a0 0 = h ∧ E0 0 = .inr (5, [.null, .null, .null, .int 0, .null, .null, .int 0, .int 0, .int 0]) ∧ eP G 1 a0 E0 s.heap ∧ eD (nA h s.heap.size) 1 a0 E0 := ⟨_, _, rfl, rfl, hP, hD⟩
  refine lv_aload_n hx hb dX5_init_4 rfl (lv_at hl 0 rfl) ?_
  refine e_new S hK hP hD hS hA (ci := 1) rfl inlX1 tyX1 tyX1_ok k_9 k_10 k_11 (fs := [.null, .null, .null, .null, .null, .int 0, .int 0, .int 0]) (fun j hj => by rcases (show j = 0 ∨ j = 1 ∨ j = 2 ∨ j = 3 ∨ j = 4 ∨ j = 5 ∨ j = 6 ∨ j = 7 by omega) with rfl | rfl | rfl | rfl | rfl | rfl | rfl | rfl <;> rfl) (show 0 + 1 ≤ 333 by omega) (show 0 + 8 ≤ 5829 by omega) dX5_init_5 (fun q H hP hD hS => ?_)
  refine lv_dup hx hb dX5_init_8 rfl ?_
  have hq1 : aw a0 1 q 1 = q := aw_same
  have hP1 : eP G 1 (fun _ => q) (fun _ => .inr (1, [.null, .null, .null, .null, .null, .int 0, .int 0, .int 0])) H := eP_congr (eP_pick hP (show 1 < 1 + 1 by omega)) (fun _ _ => hq1.symm) (fun _ _ => ue_same.symm)
  have hsub : ∀ x, nA q H.size x → nA h s.heap.size x := fun x hx => nA_sub (G := G) hD hS hA (show 1 < 1 + 1 by omega) x (by rw [hq1]; exact hx)
  have hA5 : ∀ x : Nat, H.size ≤ x → nA h s.heap.size x := fun x hx => Or.inr (Nat.le_trans hS.1 hx)
  refine n_callI S hK hO hP1 (c_X1_init l G q H.size) k_25 k_23 k_24 k_11 rfl q_X1_init ⟨Nat.le_of_ble_eq_true rfl, Nat.le_of_ble_eq_true rfl⟩ rfl rfl hl.1 (Nat.le_of_ble_eq_true rfl) dX5_init_9 ⟨show 1 + 46 ≤ 333 by omega, show 8 + 814 ≤ 5829 by omega⟩ hS hsub (fun H1 locs1 hQ hk1 hz1 hS => ?_)
  obtain ⟨b0, h10, hI0, ho0, hQ⟩ := hQ
  obtain ⟨hP, hD⟩ := eP_join (k := 46) hD hP (show 1 < 1 + 1 by omega) (fun x h1 h2 => hk1 x h1 (by rw [← hq1]; exact h2)) hA5 (h10.trans hq1.symm) hI0 ho0 hQ
  have ha0 : ∀ j, j < 1 → (aj (aw a0 1 q) (1 + 1) b0) j = a0 j := fun j hj => (if_pos (by omega)).trans (aw_ne (by omega))
  have hq10 : (aj (aw a0 1 q) (1 + 1) b0) 1 = q := (if_pos (by omega)).trans aw_same
  have hb0 : ∀ t, t < 47 → (aj (aw a0 1 q) (1 + 1) b0) (1 + t) = b0 t := fun t ht => by
    by_cases h : t = 0
    · subst h; exact hq10.trans h10.symm
    · exact (if_neg (by omega)).trans (congrArg b0 (by omega))
  have hE0 : ∀ i, i < 1 → (Ej (ue E0 1 (.inr (1, [.null, .null, .null, .null, .null, .int 0, .int 0, .int 0]))) (1 + 1) 1 (bEk G b0 40)) i = E0 i := fun i hi => (if_pos (by omega)).trans ((if_neg (by omega)).trans (ue_ne (by omega)))
  have hF0 : ∀ t, t < 47 → (Ej (ue E0 1 (.inr (1, [.null, .null, .null, .null, .null, .int 0, .int 0, .int 0]))) (1 + 1) 1 (bEk G b0 40)) (1 + t) = bEk G b0 40 t := fun t ht => by
    by_cases h : t = 0
    · subst h; exact (if_pos (by omega)).trans (if_pos rfl)
    · exact (if_neg (by omega)).trans (congrArg (bEk G b0 40) (by omega))
  generalize aj (aw a0 1 q) (1 + 1) b0 = a1 at hP hD ha0 hq10 hb0
  generalize Ej (ue E0 1 (.inr (1, [.null, .null, .null, .null, .null, .int 0, .int 0, .int 0]))) (1 + 1) 1 (bEk G b0 40) = F0 at hP hD hE0 hF0
  have hP := eP_n (show 1 + 1 + 46 = 48 by omega) hP
  have hD := eD_n (show 1 + 1 + 46 = 48 by omega) hD
  have h01 : a1 0 = h := (ha0 0 (by omega)).trans h00
  have hG0 : F0 0 = .inr (5, [.null, .null, .null, .int 0, .null, .null, .int 0, .int 0, .int 0]) := (hE0 0 (by omega)).trans hE00
  refine e_stk (st' := [.ref q, .ref (a1 0)]) (by rw [h01]) ?_
  refine e_put S hK hP hD hS (i := 0) (by decide) hG0 rfl inlX5 tyX5 tyX5_ok nmX5 0 (by decide) k_12 rfl (ty := .object "InvoiceBook$Book") (by decide +kernel) rfl rfl (Nat.le_of_ble_eq_true rfl) dX5_init_12 (fun H locs hP hD hS => ?_)
  obtain ⟨p0, hp0⟩ : ∃ p, p = q := ⟨q, rfl⟩
  rw [← hp0] at hq10 hP hD
  obtain ⟨E1, hU0, hE01, hP, hD⟩ : ∃ (E9 : Nat → va_E), (∀ i, 0 < i → E9 i = F0 i) ∧ E9 0 = .inr (5, [.ref p0, .null, .null, .int 0, .null, .null, .int 0, .int 0, .int 0]) ∧ eP G 48 a1 E9 H ∧ eD (nA h s.heap.size) 48 a1 E9 := ⟨_, fun i hi => ue_ne (by omega), ue_same, hP, hD⟩
  refine lv_aload_n hx hb dX5_init_15 rfl (lv_at hl 0 rfl) ?_
  refine e_new S hK hP hD hS hA (ci := 1) rfl inlX1 tyX1 tyX1_ok k_9 k_10 k_11 (fs := [.null, .null, .null, .null, .null, .int 0, .int 0, .int 0]) (fun j hj => by rcases (show j = 0 ∨ j = 1 ∨ j = 2 ∨ j = 3 ∨ j = 4 ∨ j = 5 ∨ j = 6 ∨ j = 7 by omega) with rfl | rfl | rfl | rfl | rfl | rfl | rfl | rfl <;> rfl) (show 47 + 1 ≤ 333 by omega) (show 822 + 8 ≤ 5829 by omega) dX5_init_16 (fun q H hP hD hS => ?_)
  refine lv_dup hx hb dX5_init_19 rfl ?_
  have hq1 : aw a1 48 q 48 = q := aw_same
  have hP1 : eP G 1 (fun _ => q) (fun _ => .inr (1, [.null, .null, .null, .null, .null, .int 0, .int 0, .int 0])) H := eP_congr (eP_pick hP (show 48 < 48 + 1 by omega)) (fun _ _ => hq1.symm) (fun _ _ => ue_same.symm)
  have hsub : ∀ x, nA q H.size x → nA h s.heap.size x := fun x hx => nA_sub (G := G) hD hS hA (show 48 < 48 + 1 by omega) x (by rw [hq1]; exact hx)
  have hA5 : ∀ x : Nat, H.size ≤ x → nA h s.heap.size x := fun x hx => Or.inr (Nat.le_trans hS.1 hx)
  refine n_callI S hK hO hP1 (c_X1_init l G q H.size) k_25 k_23 k_24 k_11 rfl q_X1_init ⟨Nat.le_of_ble_eq_true rfl, Nat.le_of_ble_eq_true rfl⟩ rfl rfl hl.1 (Nat.le_of_ble_eq_true rfl) dX5_init_20 ⟨show 48 + 46 ≤ 333 by omega, show 830 + 814 ≤ 5829 by omega⟩ hS hsub (fun H1 locs1 hQ hk1 hz1 hS => ?_)
  obtain ⟨b1, h11, hI1, ho1, hQ⟩ := hQ
  obtain ⟨hP, hD⟩ := eP_join (k := 46) hD hP (show 48 < 48 + 1 by omega) (fun x h1 h2 => hk1 x h1 (by rw [← hq1]; exact h2)) hA5 (h11.trans hq1.symm) hI1 ho1 hQ
  have ha1 : ∀ j, j < 48 → (aj (aw a1 48 q) (48 + 1) b1) j = a1 j := fun j hj => (if_pos (by omega)).trans (aw_ne (by omega))
  have hq11 : (aj (aw a1 48 q) (48 + 1) b1) 48 = q := (if_pos (by omega)).trans aw_same
  have hb1 : ∀ t, t < 47 → (aj (aw a1 48 q) (48 + 1) b1) (48 + t) = b1 t := fun t ht => by
    by_cases h : t = 0
    · subst h; exact hq11.trans h11.symm
    · exact (if_neg (by omega)).trans (congrArg b1 (by omega))
  have hE1 : ∀ i, i < 48 → (Ej (ue E1 48 (.inr (1, [.null, .null, .null, .null, .null, .int 0, .int 0, .int 0]))) (48 + 1) 48 (bEk G b1 40)) i = E1 i := fun i hi => (if_pos (by omega)).trans ((if_neg (by omega)).trans (ue_ne (by omega)))
  have hF1 : ∀ t, t < 47 → (Ej (ue E1 48 (.inr (1, [.null, .null, .null, .null, .null, .int 0, .int 0, .int 0]))) (48 + 1) 48 (bEk G b1 40)) (48 + t) = bEk G b1 40 t := fun t ht => by
    by_cases h : t = 0
    · subst h; exact (if_pos (by omega)).trans (if_pos rfl)
    · exact (if_neg (by omega)).trans (congrArg (bEk G b1 40) (by omega))
  generalize aj (aw a1 48 q) (48 + 1) b1 = a2 at hP hD ha1 hq11 hb1
  generalize Ej (ue E1 48 (.inr (1, [.null, .null, .null, .null, .null, .int 0, .int 0, .int 0]))) (48 + 1) 48 (bEk G b1 40) = F1 at hP hD hE1 hF1
  have hP := eP_n (show 48 + 1 + 46 = 95 by omega) hP
  have hD := eD_n (show 48 + 1 + 46 = 95 by omega) hD
  have h02 : a2 0 = h := (ha1 0 (by omega)).trans h01
  have hG1 : F1 0 = .inr (5, [.ref p0, .null, .null, .int 0, .null, .null, .int 0, .int 0, .int 0]) := (hE1 0 (by omega)).trans hE01
  refine e_stk (st' := [.ref q, .ref (a2 0)]) (by rw [h02]) ?_
  refine e_put S hK hP hD hS (i := 0) (by decide) hG1 rfl inlX5 tyX5 tyX5_ok nmX5 1 (by decide) k_13 rfl (ty := .object "InvoiceBook$Book") (by decide +kernel) rfl rfl (Nat.le_of_ble_eq_true rfl) dX5_init_23 (fun H locs hP hD hS => ?_)
  obtain ⟨p1, hp1⟩ : ∃ p, p = q := ⟨q, rfl⟩
  rw [← hp1] at hq11 hP hD
  obtain ⟨E2, hU1, hE02, hP, hD⟩ : ∃ (E9 : Nat → va_E), (∀ i, 0 < i → E9 i = F1 i) ∧ E9 0 = .inr (5, [.ref p0, .ref p1, .null, .int 0, .null, .null, .int 0, .int 0, .int 0]) ∧ eP G 95 a2 E9 H ∧ eD (nA h s.heap.size) 95 a2 E9 := ⟨_, fun i hi => ue_ne (by omega), ue_same, hP, hD⟩
  refine lv_aload_n hx hb dX5_init_26 rfl (lv_at hl 0 rfl) ?_
  refine e_new S hK hP hD hS hA (ci := 1) rfl inlX1 tyX1 tyX1_ok k_9 k_10 k_11 (fs := [.null, .null, .null, .null, .null, .int 0, .int 0, .int 0]) (fun j hj => by rcases (show j = 0 ∨ j = 1 ∨ j = 2 ∨ j = 3 ∨ j = 4 ∨ j = 5 ∨ j = 6 ∨ j = 7 by omega) with rfl | rfl | rfl | rfl | rfl | rfl | rfl | rfl <;> rfl) (show 94 + 1 ≤ 333 by omega) (show 1644 + 8 ≤ 5829 by omega) dX5_init_27 (fun q H hP hD hS => ?_)
  refine lv_dup hx hb dX5_init_30 rfl ?_
  have hq1 : aw a2 95 q 95 = q := aw_same
  have hP1 : eP G 1 (fun _ => q) (fun _ => .inr (1, [.null, .null, .null, .null, .null, .int 0, .int 0, .int 0])) H := eP_congr (eP_pick hP (show 95 < 95 + 1 by omega)) (fun _ _ => hq1.symm) (fun _ _ => ue_same.symm)
  have hsub : ∀ x, nA q H.size x → nA h s.heap.size x := fun x hx => nA_sub (G := G) hD hS hA (show 95 < 95 + 1 by omega) x (by rw [hq1]; exact hx)
  have hA5 : ∀ x : Nat, H.size ≤ x → nA h s.heap.size x := fun x hx => Or.inr (Nat.le_trans hS.1 hx)
  refine n_callI S hK hO hP1 (c_X1_init l G q H.size) k_25 k_23 k_24 k_11 rfl q_X1_init ⟨Nat.le_of_ble_eq_true rfl, Nat.le_of_ble_eq_true rfl⟩ rfl rfl hl.1 (Nat.le_of_ble_eq_true rfl) dX5_init_31 ⟨show 95 + 46 ≤ 333 by omega, show 1652 + 814 ≤ 5829 by omega⟩ hS hsub (fun H1 locs1 hQ hk1 hz1 hS => ?_)
  obtain ⟨b2, h12, hI2, ho2, hQ⟩ := hQ
  obtain ⟨hP, hD⟩ := eP_join (k := 46) hD hP (show 95 < 95 + 1 by omega) (fun x h1 h2 => hk1 x h1 (by rw [← hq1]; exact h2)) hA5 (h12.trans hq1.symm) hI2 ho2 hQ
  have ha2 : ∀ j, j < 95 → (aj (aw a2 95 q) (95 + 1) b2) j = a2 j := fun j hj => (if_pos (by omega)).trans (aw_ne (by omega))
  have hq12 : (aj (aw a2 95 q) (95 + 1) b2) 95 = q := (if_pos (by omega)).trans aw_same
  have hb2 : ∀ t, t < 47 → (aj (aw a2 95 q) (95 + 1) b2) (95 + t) = b2 t := fun t ht => by
    by_cases h : t = 0
    · subst h; exact hq12.trans h12.symm
    · exact (if_neg (by omega)).trans (congrArg b2 (by omega))
  have hE2 : ∀ i, i < 95 → (Ej (ue E2 95 (.inr (1, [.null, .null, .null, .null, .null, .int 0, .int 0, .int 0]))) (95 + 1) 95 (bEk G b2 40)) i = E2 i := fun i hi => (if_pos (by omega)).trans ((if_neg (by omega)).trans (ue_ne (by omega)))
  have hF2 : ∀ t, t < 47 → (Ej (ue E2 95 (.inr (1, [.null, .null, .null, .null, .null, .int 0, .int 0, .int 0]))) (95 + 1) 95 (bEk G b2 40)) (95 + t) = bEk G b2 40 t := fun t ht => by
    by_cases h : t = 0
    · subst h; exact (if_pos (by omega)).trans (if_pos rfl)
    · exact (if_neg (by omega)).trans (congrArg (bEk G b2 40) (by omega))
  generalize aj (aw a2 95 q) (95 + 1) b2 = a3 at hP hD ha2 hq12 hb2
  generalize Ej (ue E2 95 (.inr (1, [.null, .null, .null, .null, .null, .int 0, .int 0, .int 0]))) (95 + 1) 95 (bEk G b2 40) = F2 at hP hD hE2 hF2
  have hP := eP_n (show 95 + 1 + 46 = 142 by omega) hP
  have hD := eD_n (show 95 + 1 + 46 = 142 by omega) hD
  have h03 : a3 0 = h := (ha2 0 (by omega)).trans h02
  have hG2 : F2 0 = .inr (5, [.ref p0, .ref p1, .null, .int 0, .null, .null, .int 0, .int 0, .int 0]) := (hE2 0 (by omega)).trans hE02
  refine e_stk (st' := [.ref q, .ref (a3 0)]) (by rw [h03]) ?_
  refine e_putF S hK hP hD hS hnm (i := 0) (by decide) hG2 rfl inlX5 tyX5 tyX5_ok nmX5 2 (by decide) k_14 rfl rfl (ty := .object "InvoiceBook$Book") (by decide +kernel) rfl rfl (Nat.le_of_ble_eq_true rfl) dX5_init_34 (fun H locs hP hD hS => ?_)
  obtain ⟨p2, hp2⟩ : ∃ p, p = q := ⟨q, rfl⟩
  rw [← hp2] at hq12 hP hD
  obtain ⟨E3, hU2, hE03, hP, hD⟩ : ∃ (E9 : Nat → va_E), (∀ i, 0 < i → E9 i = F2 i) ∧ E9 0 = .inr (5, [.ref p0, .ref p1, .ref p2, .int 0, .null, .null, .int 0, .int 0, .int 0]) ∧ eP G 142 a3 E9 H ∧ eD (nA h s.heap.size) 142 a3 E9 := ⟨_, fun i hi => ue_ne (by omega), ue_same, hP, hD⟩
  refine lv_aload_n hx hb dX5_init_37 rfl (lv_at hl 0 rfl) ?_
  refine e_new S hK hP hD hS hA (ci := 2) rfl inlX2 tyX2 tyX2_ok k_15 k_16 k_17 (fs := [.null, .int 0]) (fun j hj => by rcases (show j = 0 ∨ j = 1 by omega) with rfl | rfl <;> rfl) (show 141 + 1 ≤ 333 by omega) (show 2466 + 2 ≤ 5829 by omega) dX5_init_38 (fun q H hP hD hS => ?_)
  refine lv_dup hx hb dX5_init_41 rfl ?_
  have hq1 : aw a3 142 q 142 = q := aw_same
  have hP1 : eP G 1 (fun _ => q) (fun _ => .inr (2, [.null, .int 0])) H := eP_congr (eP_pick hP (show 142 < 142 + 1 by omega)) (fun _ _ => hq1.symm) (fun _ _ => ue_same.symm)
  have hsub : ∀ x, nA q H.size x → nA h s.heap.size x := fun x hx => nA_sub (G := G) hD hS hA (show 142 < 142 + 1 by omega) x (by rw [hq1]; exact hx)
  have hA5 : ∀ x : Nat, H.size ≤ x → nA h s.heap.size x := fun x hx => Or.inr (Nat.le_trans hS.1 hx)
  refine n_callI S hK hO hP1 (c_X2_init l G q H.size) k_50 k_48 k_49 k_17 rfl q_X2_init ⟨Nat.le_of_ble_eq_true rfl, Nat.le_of_ble_eq_true rfl⟩ rfl rfl hl.1 (Nat.le_of_ble_eq_true rfl) dX5_init_42 ⟨show 142 + 189 ≤ 333 by omega, show 2468 + 3292 ≤ 5829 by omega⟩ hS hsub (fun H1 locs1 hQ hk1 hz1 hS => ?_)
  obtain ⟨b3, h13, hI3, ho3, hQ⟩ := hQ
  obtain ⟨hP, hD⟩ := eP_join (k := 189) hD hP (show 142 < 142 + 1 by omega) (fun x h1 h2 => hk1 x h1 (by rw [← hq1]; exact h2)) hA5 (h13.trans hq1.symm) hI3 ho3 hQ
  have ha3 : ∀ j, j < 142 → (aj (aw a3 142 q) (142 + 1) b3) j = a3 j := fun j hj => (if_pos (by omega)).trans (aw_ne (by omega))
  have hq13 : (aj (aw a3 142 q) (142 + 1) b3) 142 = q := (if_pos (by omega)).trans aw_same
  have hb3 : ∀ t, t < 190 → (aj (aw a3 142 q) (142 + 1) b3) (142 + t) = b3 t := fun t ht => by
    by_cases h : t = 0
    · subst h; exact hq13.trans h13.symm
    · exact (if_neg (by omega)).trans (congrArg b3 (by omega))
  have hE3 : ∀ i, i < 142 → (Ej (ue E3 142 (.inr (2, [.null, .int 0]))) (142 + 1) 142 (hEk G b3 4)) i = E3 i := fun i hi => (if_pos (by omega)).trans ((if_neg (by omega)).trans (ue_ne (by omega)))
  have hF3 : ∀ t, t < 190 → (Ej (ue E3 142 (.inr (2, [.null, .int 0]))) (142 + 1) 142 (hEk G b3 4)) (142 + t) = hEk G b3 4 t := fun t ht => by
    by_cases h : t = 0
    · subst h; exact (if_pos (by omega)).trans (if_pos rfl)
    · exact (if_neg (by omega)).trans (congrArg (hEk G b3 4) (by omega))
  generalize aj (aw a3 142 q) (142 + 1) b3 = a4 at hP hD ha3 hq13 hb3
  generalize Ej (ue E3 142 (.inr (2, [.null, .int 0]))) (142 + 1) 142 (hEk G b3 4) = F3 at hP hD hE3 hF3
  have hP := eP_n (show 142 + 1 + 189 = 332 by omega) hP
  have hD := eD_n (show 142 + 1 + 189 = 332 by omega) hD
  have h04 : a4 0 = h := (ha3 0 (by omega)).trans h03
  have hG3 : F3 0 = .inr (5, [.ref p0, .ref p1, .ref p2, .int 0, .null, .null, .int 0, .int 0, .int 0]) := (hE3 0 (by omega)).trans hE03
  refine e_stk (st' := [.ref q, .ref (a4 0)]) (by rw [h04]) ?_
  refine e_putF S hK hP hD hS hnm (i := 0) (by decide) hG3 rfl inlX5 tyX5 tyX5_ok nmX5 4 (by decide) k_18 rfl rfl (ty := .object "InvoiceBook$History") (by decide +kernel) rfl rfl (Nat.le_of_ble_eq_true rfl) dX5_init_45 (fun H locs hP hD hS => ?_)
  obtain ⟨p3, hp3⟩ : ∃ p, p = q := ⟨q, rfl⟩
  rw [← hp3] at hq13 hP hD
  obtain ⟨E4, hU3, hE04, hP, hD⟩ : ∃ (E9 : Nat → va_E), (∀ i, 0 < i → E9 i = F3 i) ∧ E9 0 = .inr (5, [.ref p0, .ref p1, .ref p2, .int 0, .ref p3, .null, .int 0, .int 0, .int 0]) ∧ eP G 332 a4 E9 H ∧ eD (nA h s.heap.size) 332 a4 E9 := ⟨_, fun i hi => ue_ne (by omega), ue_same, hP, hD⟩
  refine lv_aload_n hx hb dX5_init_48 rfl (lv_at hl 0 rfl) ?_
  refine e_new S hK hP hD hS hA (ci := 4) rfl inlX4 tyX4 tyX4_ok k_19 k_20 k_21 (fs := [.null, .int 0, .int 0, .int 0, .int 0, .int 0, .int 0, .int 0, .int 0]) (fun j hj => by rcases (show j = 0 ∨ j = 1 ∨ j = 2 ∨ j = 3 ∨ j = 4 ∨ j = 5 ∨ j = 6 ∨ j = 7 ∨ j = 8 by omega) with rfl | rfl | rfl | rfl | rfl | rfl | rfl | rfl | rfl <;> rfl) (show 331 + 1 ≤ 333 by omega) (show 5760 + 9 ≤ 5829 by omega) dX5_init_49 (fun q H hP hD hS => ?_)
  refine lv_dup hx hb dX5_init_52 rfl ?_
  have hq1 : aw a4 332 q 332 = q := aw_same
  have hP1 : eP G 1 (fun _ => q) (fun _ => .inr (4, [.null, .int 0, .int 0, .int 0, .int 0, .int 0, .int 0, .int 0, .int 0])) H := eP_congr (eP_pick hP (show 332 < 332 + 1 by omega)) (fun _ _ => hq1.symm) (fun _ _ => ue_same.symm)
  have hsub : ∀ x, nA q H.size x → nA h s.heap.size x := fun x hx => nA_sub (G := G) hD hS hA (show 332 < 332 + 1 by omega) x (by rw [hq1]; exact hx)
  have hA5 : ∀ x : Nat, H.size ≤ x → nA h s.heap.size x := fun x hx => Or.inr (Nat.le_trans hS.1 hx)
  refine n_callN S hK hO hP1 (c_X4_init l G q H.size) k_56 hK.2.2.2.1 k_55 k_21 rfl q_X4_init ⟨Nat.le_of_ble_eq_true rfl, Nat.le_of_ble_eq_true rfl⟩ rfl rfl hl.1 (Nat.le_of_ble_eq_true rfl) dX5_init_53 ⟨show 332 + 1 ≤ 333 by omega, show 5769 + 60 ≤ 5829 by omega⟩ hS hsub (fun H1 locs1 hQ hk1 hz1 hS => ?_)
  obtain ⟨b4, h14, hI4, ho4, hQ⟩ := hQ
  obtain ⟨hP, hD⟩ := eP_join (k := 1) hD hP (show 332 < 332 + 1 by omega) (fun x h1 h2 => hk1 x h1 (by rw [← hq1]; exact h2)) hA5 (h14.trans hq1.symm) hI4 ho4 hQ
  have ha4 : ∀ j, j < 332 → (aj (aw a4 332 q) (332 + 1) b4) j = a4 j := fun j hj => (if_pos (by omega)).trans (aw_ne (by omega))
  have hq14 : (aj (aw a4 332 q) (332 + 1) b4) 332 = q := (if_pos (by omega)).trans aw_same
  have hb4 : ∀ t, t < 2 → (aj (aw a4 332 q) (332 + 1) b4) (332 + t) = b4 t := fun t ht => by
    by_cases h : t = 0
    · subst h; exact hq14.trans h14.symm
    · exact (if_neg (by omega)).trans (congrArg b4 (by omega))
  have hE4 : ∀ i, i < 332 → (Ej (ue E4 332 (.inr (4, [.null, .int 0, .int 0, .int 0, .int 0, .int 0, .int 0, .int 0, .int 0]))) (332 + 1) 332 (enT G b4)) i = E4 i := fun i hi => (if_pos (by omega)).trans ((if_neg (by omega)).trans (ue_ne (by omega)))
  have hF4 : ∀ t, t < 2 → (Ej (ue E4 332 (.inr (4, [.null, .int 0, .int 0, .int 0, .int 0, .int 0, .int 0, .int 0, .int 0]))) (332 + 1) 332 (enT G b4)) (332 + t) = enT G b4 t := fun t ht => by
    by_cases h : t = 0
    · subst h; exact (if_pos (by omega)).trans (if_pos rfl)
    · exact (if_neg (by omega)).trans (congrArg (enT G b4) (by omega))
  generalize aj (aw a4 332 q) (332 + 1) b4 = a5 at hP hD ha4 hq14 hb4
  generalize Ej (ue E4 332 (.inr (4, [.null, .int 0, .int 0, .int 0, .int 0, .int 0, .int 0, .int 0, .int 0]))) (332 + 1) 332 (enT G b4) = F4 at hP hD hE4 hF4
  have hP := eP_n (show 332 + 1 + 1 = 334 by omega) hP
  have hD := eD_n (show 332 + 1 + 1 = 334 by omega) hD
  have h05 : a5 0 = h := (ha4 0 (by omega)).trans h04
  have hG4 : F4 0 = .inr (5, [.ref p0, .ref p1, .ref p2, .int 0, .ref p3, .null, .int 0, .int 0, .int 0]) := (hE4 0 (by omega)).trans hE04
  refine e_stk (st' := [.ref q, .ref (a5 0)]) (by rw [h05]) ?_
  refine e_putF S hK hP hD hS hnm (i := 0) (by decide) hG4 rfl inlX5 tyX5 tyX5_ok nmX5 5 (by decide) k_22 rfl rfl (ty := .object "InvoiceBook$Text") (by decide +kernel) rfl rfl (Nat.le_of_ble_eq_true rfl) dX5_init_56 (fun H locs hP hD hS => ?_)
  obtain ⟨p4, hp4⟩ : ∃ p, p = q := ⟨q, rfl⟩
  rw [← hp4] at hq14 hP hD
  obtain ⟨E5, hU4, hE05, hP, hD⟩ : ∃ (E9 : Nat → va_E), (∀ i, 0 < i → E9 i = F4 i) ∧ E9 0 = .inr (5, [.ref p0, .ref p1, .ref p2, .int 0, .ref p3, .ref p4, .int 0, .int 0, .int 0]) ∧ eP G 334 a5 E9 H ∧ eD (nA h s.heap.size) 334 a5 E9 := ⟨_, fun i hi => ue_ne (by omega), ue_same, hP, hD⟩
  have up4 : ∀ j, j < 332 → a5 j = a4 j := ha4
  have up3 : ∀ j, j < 142 → a5 j = a3 j := fun j hj => (ha4 j (by omega)).trans (ha3 j hj)
  have up2 : ∀ j, j < 95 → a5 j = a2 j := fun j hj => (up3 j (by omega)).trans (ha2 j hj)
  have up1 : ∀ j, j < 48 → a5 j = a1 j := fun j hj => (up2 j (by omega)).trans (ha1 j hj)
  have eu4 : ∀ j, 0 < j → E5 j = F4 j := hU4
  have eu3 : ∀ j, 0 < j → j < 332 → E5 j = F3 j := fun j h0 hj => ((hU4 j h0).trans (hE4 j hj)).trans (hU3 j h0)
  have eu2 : ∀ j, 0 < j → j < 142 → E5 j = F2 j := fun j h0 hj => ((eu3 j h0 (by omega)).trans (hE3 j hj)).trans (hU2 j h0)
  have eu1 : ∀ j, 0 < j → j < 95 → E5 j = F1 j := fun j h0 hj => ((eu2 j h0 (by omega)).trans (hE2 j hj)).trans (hU1 j h0)
  have eu0 : ∀ j, 0 < j → j < 48 → E5 j = F0 j := fun j h0 hj => ((eu1 j h0 (by omega)).trans (hE1 j hj)).trans (hU0 j h0)
  refine e_void S hr hlk hK hS (P' := fun H => ∃ a : Nat → Nat, a 0 = h ∧ gI 334 a ∧ (∀ i, 0 < i → i < 334 → s.heap.size ≤ a i) ∧ eP G 334 a (iEk G a) H) ⟨a5, h05, eD_inj hD, n_out hD h05, eP_congr hP (fun _ _ => rfl) (fun i hi => ?_)⟩ dX5_init_59
  unfold iEk
  by_cases c0 : i = 0
  · subst c0
    rw [if_pos rfl, hE05, up1 1 (by omega), hq10, up2 48 (by omega), hq11, up3 95 (by omega), hq12, up4 142 (by omega), hq13, hq14]
  rw [if_neg c0]
  by_cases c1 : i < 142
  · rw [if_pos c1]
    by_cases c2 : i < 48
    · obtain ⟨t, ht, rfl⟩ : ∃ t, t < 47 ∧ i = 1 + t := ⟨i - 1, by omega, by omega⟩
      rw [eu0 (1 + t) (by omega) (by omega), hF0 t ht, show (1 + t - 1) / 47 = 0 by omega, show (1 + t - 1) % 47 = t by omega]
      exact bEk_congr (fun t' ht' => (up1 (1 + 47 * 0 + t') (by omega)).trans (hb0 t' ht')) t
    by_cases c3 : i < 95
    · obtain ⟨t, ht, rfl⟩ : ∃ t, t < 47 ∧ i = 48 + t := ⟨i - 48, by omega, by omega⟩
      rw [eu1 (48 + t) (by omega) (by omega), hF1 t ht, show (48 + t - 1) / 47 = 1 by omega, show (48 + t - 1) % 47 = t by omega]
      exact bEk_congr (fun t' ht' => (up2 (1 + 47 * 1 + t') (by omega)).trans (hb1 t' ht')) t
    · obtain ⟨t, ht, rfl⟩ : ∃ t, t < 47 ∧ i = 95 + t := ⟨i - 95, by omega, by omega⟩
      rw [eu2 (95 + t) (by omega) (by omega), hF2 t ht, show (95 + t - 1) / 47 = 2 by omega, show (95 + t - 1) % 47 = t by omega]
      exact bEk_congr (fun t' ht' => (up3 (1 + 47 * 2 + t') (by omega)).trans (hb2 t' ht')) t
  rw [if_neg c1]
  by_cases c4 : i < 332
  · rw [if_pos c4]
    obtain ⟨t, ht, rfl⟩ : ∃ t, t < 190 ∧ i = 142 + t := ⟨i - 142, by omega, by omega⟩
    rw [eu3 (142 + t) (by omega) (by omega), hF3 t ht, show 142 + t - 142 = t by omega]
    exact hEk_congr (fun t' ht' => (up4 (142 + t') (by omega)).trans (hb3 t' ht')) ht
  rw [if_neg c4]
  obtain ⟨t, ht, rfl⟩ : ∃ t, t < 2 ∧ i = 332 + t := ⟨i - 332, by omega, by omega⟩
  rw [eu4 (332 + t) (by omega), hF4 t ht, show 332 + t - 332 = t by omega]
  exact enT_congr (hb4 1 (by omega)) ht
