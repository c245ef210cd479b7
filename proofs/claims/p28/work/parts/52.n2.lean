theorem q_X0_init : yX0_init.cls ≠ "java/lang/invoke/MethodHandle" ∧ yX0_init.cls ≠ "java/lang/invoke/VarHandle" ∧ (parseMethodDescriptor yX0_init.desc).map (fun d => d.parameters.length) = some 0 := ⟨by decide, by decide, by decide +kernel⟩
theorem q_X1_init : yX1_init.cls ≠ "java/lang/invoke/MethodHandle" ∧ yX1_init.cls ≠ "java/lang/invoke/VarHandle" ∧ (parseMethodDescriptor yX1_init.desc).map (fun d => d.parameters.length) = some 0 := ⟨by decide, by decide, by decide +kernel⟩
theorem q_X2_init : yX2_init.cls ≠ "java/lang/invoke/MethodHandle" ∧ yX2_init.cls ≠ "java/lang/invoke/VarHandle" ∧ (parseMethodDescriptor yX2_init.desc).map (fun d => d.parameters.length) = some 0 := ⟨by decide, by decide, by decide +kernel⟩
theorem q_X3_init : yX3_init.cls ≠ "java/lang/invoke/MethodHandle" ∧ yX3_init.cls ≠ "java/lang/invoke/VarHandle" ∧ (parseMethodDescriptor yX3_init.desc).map (fun d => d.parameters.length) = some 0 := ⟨by decide, by decide, by decide +kernel⟩
theorem q_X4_init : yX4_init.cls ≠ "java/lang/invoke/MethodHandle" ∧ yX4_init.cls ≠ "java/lang/invoke/VarHandle" ∧ (parseMethodDescriptor yX4_init.desc).map (fun d => d.parameters.length) = some 0 := ⟨by decide, by decide, by decide +kernel⟩
theorem q_X5_init : yX5_init.cls ≠ "java/lang/invoke/MethodHandle" ∧ yX5_init.cls ≠ "java/lang/invoke/VarHandle" ∧ (parseMethodDescriptor yX5_init.desc).map (fun d => d.parameters.length) = some 0 := ⟨by decide, by decide, by decide +kernel⟩
def bEk (G : kG) (a : Nat → Nat) (k : Nat) : Nat → va_E := fun i => match i with
  | 0 => .inr (1, [.ref (a 1), .ref (a 2), .ref (a 3), .ref (a 4), .ref (a 5), .int 0, .int 0, .int 0])
  | 1 => .inl (G.2.2.2.1, 40, .inr (.inr (.inr (.inr (fun j => if j < k then some (a (j + 7)) else none)))))
  | 2 => .inl (G.2.1, 8, .inl (fun _ => 0))
  | 3 => .inl (G.2.1, 100, .inl (fun _ => 0))
  | 4 => .inl (G.2.1, 100, .inl (fun _ => 0))
  | 5 => .inr (3, [.ref (a 6)])
  | 6 => .inl (G.2.1, 5, .inl sI0)
  | _ => .inr (0, (List.range 14).map (iF iI))
theorem bEk_step {G : kG} {a a2 : Nat → Nat} {k : Nat} (ha : ∀ j, j < 7 + k → a2 j = a j) {E2 : Nat → va_E} (hE : ∀ i, i < 7 + k → E2 i = bEk G a k i) (hb : E2 (7 + k) = .inr (0, (List.range 14).map (iF iI))) : ∀ i, i < 7 + k + 1 → ue E2 1 (.inl (G.2.2.2.1, 40, .inr (.inr (.inr (.inr (va_up (fun j => if j < k then some (a (j + 7)) else none) k (some (a2 (7 + k))))))))) i = bEk G a2 (k + 1) i := by
  intro i hi
  have e1 := ha 1 (by omega)
  have e2 := ha 2 (by omega)
  have e3 := ha 3 (by omega)
  have e4 := ha 4 (by omega)
  have e5 := ha 5 (by omega)
  have e6 := ha 6 (by omega)
  by_cases h1 : i = 1
  · subst h1
    rw [ue_same]
    refine congrArg (fun f => (.inl (G.2.2.2.1, 40, .inr (.inr (.inr (.inr f)))) : va_E)) (funext fun j => ?_)
    by_cases h : j = k
    · subst h
      rw [va_up_self, if_pos (by omega), Nat.add_comm 7 j]
    · rw [va_up_ne _ _ h]
      by_cases h2 : j < k
      · rw [if_pos h2, if_pos (by omega), ha (j + 7) (by omega)]
      · rw [if_neg h2, if_neg (by omega)]
  rw [ue_ne h1]
  by_cases h2 : i = 7 + k
  · rw [h2, hb, Nat.add_comm 7 k]
    rfl
  rw [hE i (by omega)]
  rcases (show i = 0 ∨ i = 2 ∨ i = 3 ∨ i = 4 ∨ i = 5 ∨ i = 6 ∨ 7 ≤ i by omega) with rfl | rfl | rfl | rfl | rfl | rfl | h
  · show (Sum.inr (1, [.ref (a 1), .ref (a 2), .ref (a 3), .ref (a 4), .ref (a 5), .int 0, .int 0, .int 0]) : va_E) = .inr (1, [.ref (a2 1), .ref (a2 2), .ref (a2 3), .ref (a2 4), .ref (a2 5), .int 0, .int 0, .int 0])
    rw [e1, e2, e3, e4, e5]
  · rfl
  · rfl
  · rfl
  · show (Sum.inr (3, [.ref (a 6)]) : va_E) = .inr (3, [.ref (a2 6)])
    rw [e6]
  · rfl
  · obtain ⟨t, rfl⟩ : ∃ t, i = t + 7 := ⟨i - 7, by omega⟩
    rfl
theorem eP_pick {G : kG} {n i : Nat} {a : Nat → Nat} {E : Nat → va_E} {H : Heap} (h : eP G n a E H) (hi : i < n) : eP G 1 (fun _ => a i) (fun _ => E i) H := fP_of (fun _ _ => fP_at h (List.mem_range.mpr hi))
section NW4
variable {p : Program} {l : Launch} {e : Env} {R : Room} {s : State} {m : MethodId} {args : Array Value} {below : List Frame} {meth : Method} {c : Code} {H : Heap} {locs : List Loc} {cells slots : Nat} {Q : State → Prop} {pc : Nat} {ls : Array Slot} {rest : List Value}
theorem e_stk {st st' : List Value} (h : st = st') (kk : W p l e R s m args below meth c H locs cells slots Q (F0 m pc ls st')) : W p l e R s m args below meth c H locs cells slots Q (F0 m pc ls st) := h ▸ kk
end NW4

set_option maxHeartbeats 4000000 in
set_option maxRecDepth 100000 in
theorem c_X1_init (l : Launch) (G : kG) (h sz : Nat) : Met l yX1_init (Cond.code yX1_init cX1_init 2 none :: BIG) (rmN 2 46 814) (pcN G (fun H => eP G 1 (fun _ => h) (fun _ => .inr (1, [.null, .null, .null, .null, .null, .int 0, .int 0, .int 0])) H) sz [.ref h]) (qcV G (nA h sz) (fun H => ∃ a : Nat → Nat, a 0 = h ∧ gI 47 a ∧ (∀ i, 0 < i → i < 47 → sz ≤ a i) ∧ eP G 47 a (bEk G a 40) H)) 46 814 (nA h sz) := by
  refine m_startN (by decide) (Nat.le_of_ble_eq_true rfl) ?_
  intro p e s m args below meth c S hr hlk hnm hP hK hz hO ls hl
  subst hz
  have hx := S.1
  have hb := S.2.1
  have hA : ∀ q : Nat, s.heap.size ≤ q → nA h s.heap.size q := fun q z => Or.inr z
  have hS : va_S (nA h s.heap.size) s.heap s.heap [] := va_S.rf
  have hD : eD (nA h s.heap.size) 1 (fun _ => h) (fun _ => .inr (1, [.null, .null, .null, .null, .null, .int 0, .int 0, .int 0])) := eD_one (Or.inl rfl)
  have hl : lv_has ls 2 [(0, .ref h)] := hl
  have LP : ∀ (n k : Nat), k + n = 40 → ∀ (a : Nat → Nat) (E : Nat → va_E) (H : Heap) (locs : List Loc), eP G (7 + k) a E H → eD (nA h s.heap.size) (7 + k) a E → va_S (nA h s.heap.size) s.heap H locs → a 0 = h → (∀ i, i < 7 + k → E i = bEk G a k i) → ∀ ls : Array Slot, lv_has ls 2 [(1, .int (nI k)), (0, .ref h)] → W p l e (rmN 2 46 814) s m args below meth c H locs (6 + k) (254 + 14 * k) (MQ below (qcV G (nA h s.heap.size) (fun H => ∃ a : Nat → Nat, a 0 = h ∧ gI 47 a ∧ (∀ i, 0 < i → i < 47 → s.heap.size ≤ a i) ∧ eP G 47 a (bEk G a 40) H)) args s 46 814 (nA h s.heap.size)) (F0 m 50 ls []) := by
    intro n
    induction n with
    | zero =>
      intro k hk a E H locs hP hD hS h0 hE ls hl
      obtain rfl : k = 40 := by omega
      refine lv_iload_n hx hb dX1_init_50 rfl (lv_at hl 0 rfl) ?_
      refine lv_aload_n hx hb dX1_init_51 rfl (lv_at hl 1 rfl) ?_
      refine e_stk (st' := [.ref (a 0), .int (nI 40)]) (by rw [h0]) ?_
      refine e_get S hK hP (i := 0) (by omega) (hE 0 (by omega)) rfl inlX1 0 (by decide) k_28 (v := .ref (a 1)) rfl dX1_init_52 ?_
      refine r_alen S hK hP (List.mem_range.mpr (show 1 < 7 + 40 by omega)) (hE 1 (by omega)) 2 rfl (v := 40) rfl dX1_init_55 ?_
      refine lv_icmp_ge (tgt := 78) hx hb dX1_init_56 (by decide) (fun _ => ?_) (fun c => absurd (by decide) c)
      exact e_void S hr hlk hK hS (P' := fun H => ∃ a : Nat → Nat, a 0 = h ∧ gI 47 a ∧ (∀ i, 0 < i → i < 47 → s.heap.size ≤ a i) ∧ eP G 47 a (bEk G a 40) H) ⟨a, h0, eD_inj hD, n_out hD h0, eP_congr hP (fun _ _ => rfl) (fun i hi => (hE i hi).symm)⟩ dX1_init_78
    | succ n ih =>
      intro k hk a E H locs hP hD hS h0 hE ls hl
      refine lv_iload_n hx hb dX1_init_50 rfl (lv_at hl 0 rfl) ?_
      refine lv_aload_n hx hb dX1_init_51 rfl (lv_at hl 1 rfl) ?_
      refine e_stk (st' := [.ref (a 0), .int (nI k)]) (by rw [h0]) ?_
      refine e_get S hK hP (i := 0) (by omega) (hE 0 (by omega)) rfl inlX1 0 (by decide) k_28 (v := .ref (a 1)) rfl dX1_init_52 ?_
      refine r_alen S hK hP (List.mem_range.mpr (show 1 < 7 + k by omega)) (hE 1 (by omega)) 2 rfl (v := 40) rfl dX1_init_55 ?_
      refine lv_icmp_ge (tgt := 78) hx hb dX1_init_56 (by decide) (fun c => absurd c (fun z => absurd ((nI_leI (a := 40) (b := k) (by omega) (by omega)).mp z) (by omega))) (fun _ => ?_)
      refine lv_aload_n hx hb dX1_init_59 rfl (lv_at hl 1 rfl) ?_
      refine e_stk (st' := [.ref (a 0)]) (by rw [h0]) ?_
      refine e_get S hK hP (i := 0) (by omega) (hE 0 (by omega)) rfl inlX1 0 (by decide) k_28 (v := .ref (a 1)) rfl dX1_init_60 ?_
      refine lv_iload_n hx hb dX1_init_63 rfl (lv_at hl 0 rfl) ?_
      refine e_new S hK hP hD hS hA (ci := 0) rfl inlX0 tyX0 tyX0_ok k_27 k_37 k_38 (fs := [.int 0, .int 0, .int 0, .int 0, .int 0, .int 0, .int 0, .int 0, .int 0, .int 0, .int 0, .int 0, .int 0, .int 0]) (fun j hj => by rcases (show j = 0 ∨ j = 1 ∨ j = 2 ∨ j = 3 ∨ j = 4 ∨ j = 5 ∨ j = 6 ∨ j = 7 ∨ j = 8 ∨ j = 9 ∨ j = 10 ∨ j = 11 ∨ j = 12 ∨ j = 13 by omega) with rfl | rfl | rfl | rfl | rfl | rfl | rfl | rfl | rfl | rfl | rfl | rfl | rfl | rfl <;> rfl) (show 6 + k + 1 ≤ 46 by omega) (show 254 + 14 * k + 14 ≤ 814 by omega) dX1_init_64 (fun q H hP hD hS => ?_)
      refine lv_dup hx hb dX1_init_67 rfl ?_
      have hq1 : aw a (7 + k) q (7 + k) = q := aw_same
      have hP1 : eP G 1 (fun _ => q) (fun _ => .inr (0, [.int 0, .int 0, .int 0, .int 0, .int 0, .int 0, .int 0, .int 0, .int 0, .int 0, .int 0, .int 0, .int 0, .int 0])) H := eP_congr (eP_pick hP (show 7 + k < 7 + k + 1 by omega)) (fun _ _ => hq1.symm) (fun _ _ => ue_same.symm)
      have hsub : ∀ x, nA q H.size x → nA h s.heap.size x := fun x hx => nA_sub (G := G) hD hS hA (show 7 + k < 7 + k + 1 by omega) x (by rw [hq1]; exact hx)
      have hA5 : ∀ x : Nat, H.size ≤ x → nA h s.heap.size x := fun x hx => Or.inr (Nat.le_trans hS.1 hx)
      refine n_callN S hK hO hP1 (c_X0_init l G q H.size) k_44 hK.2.2.1 k_43 k_38 rfl q_X0_init ⟨Nat.le_of_ble_eq_true rfl, Nat.le_of_ble_eq_true rfl⟩ rfl rfl hl.1 (Nat.le_of_ble_eq_true rfl) dX1_init_68 ⟨show 6 + k + 1 + 0 ≤ 46 by omega, show 254 + 14 * k + 14 + 0 ≤ 814 by omega⟩ hS hsub (fun H1 locs1 hQ hk1 hz1 hS => ?_)
      obtain ⟨a1, h10, hI1, ho1, hQ⟩ := hQ
      obtain ⟨hP, hD⟩ := eP_join (k := 0) hD hP (show 7 + k < 7 + k + 1 by omega) (fun x h1 h2 => hk1 x h1 (by rw [← hq1]; exact h2)) hA5 (h10.trans hq1.symm) hI1 (fun j h1 h2 => by omega) hQ
      have ha2 : ∀ j, j < 7 + k → aj (aw a (7 + k) q) (7 + k + 1) a1 j = a j := fun j hj => (if_pos (by omega)).trans (aw_ne (by omega))
      have hq2 : aj (aw a (7 + k) q) (7 + k + 1) a1 (7 + k) = q := (if_pos (by omega)).trans aw_same
      have hE2 : ∀ i, i < 7 + k → (Ej (ue E (7 + k) (.inr (0, [.int 0, .int 0, .int 0, .int 0, .int 0, .int 0, .int 0, .int 0, .int 0, .int 0, .int 0, .int 0, .int 0, .int 0]))) (7 + k + 1) (7 + k) (enI G a1)) i = bEk G a k i := fun i hi => ((if_pos (by omega)).trans ((if_neg (by omega)).trans (ue_ne (by omega)))).trans (hE i hi)
      have hb2 : (Ej (ue E (7 + k) (.inr (0, [.int 0, .int 0, .int 0, .int 0, .int 0, .int 0, .int 0, .int 0, .int 0, .int 0, .int 0, .int 0, .int 0, .int 0]))) (7 + k + 1) (7 + k) (enI G a1)) (7 + k) = .inr (0, (List.range 14).map (iF iI)) := (if_pos (by omega)).trans (if_pos rfl)
      generalize aj (aw a (7 + k) q) (7 + k + 1) a1 = a2 at hP hD ha2 hq2
      generalize (Ej (ue E (7 + k) (.inr (0, [.int 0, .int 0, .int 0, .int 0, .int 0, .int 0, .int 0, .int 0, .int 0, .int 0, .int 0, .int 0, .int 0, .int 0]))) (7 + k + 1) (7 + k) (enI G a1)) = E2 at hP hD hE2 hb2
      refine e_stk (st' := [.ref (a2 (7 + k)), .int (nI k), .ref (a2 1)]) (by rw [hq2, ha2 1 (by omega)]) ?_
      refine e_qast S hK hP hD hS (i := 1) (i2 := 7 + k) (by omega) (by omega) (hE2 1 (by omega)) (t := 2) rfl hb2 rfl (k := k) (by omega) (by decide) dX1_init_71 (fun H locs hP hD hS => ?_)
      refine lv_iinc (v := nI (k + 1)) (lv' := [(1, .int (nI (k + 1))), (0, .ref h)]) hx hb dX1_init_72 hl (k := 0) rfl (nI_1 _) (by decide) rfl (fun ls hl => ?_)
      refine lv_goto (tgt := 50) hx hb dX1_init_75 (by decide) ?_
      exact ih (k + 1) (by omega) a2 _ H locs hP hD hS ((ha2 0 (by omega)).trans h0) (bEk_step ha2 hE2 hb2) ls hl
  refine lv_aload_n hx hb dX1_init_0 rfl (lv_at hl 0 rfl) ?_
  refine e_obj S hl.1 k_26 k_7 k_8 dX1_init_1 (Nat.le_of_ble_eq_true rfl) (Nat.le_of_ble_eq_true rfl) ?_
  refine lv_aload_n hx hb dX1_init_4 rfl (lv_at hl 0 rfl) ?_
  refine lv_bipush (v := 40) hx hb dX1_init_5 (by decide) ?_
  refine e_newq S hK hP hD hS hA (t := 2) rfl k_27 hO.1 (N := 40) (by decide) (by decide) (Nat.le_of_ble_eq_true rfl) (show 0 + 1 ≤ 46 by omega) (show 0 + 40 ≤ 814 by omega) dX1_init_7 (fun q1 H hP hD hS => ?_)
  refine e_putF S hK hP hD hS hnm (i := 0) (by decide) rfl rfl inlX1 tyX1 tyX1_ok nmX1 0 (by decide) k_28 rfl rfl (ty := .array (.object "InvoiceBook$Bill")) (by decide +kernel) rfl rfl (Nat.le_of_ble_eq_true rfl) dX1_init_10 (fun H locs hP hD hS => ?_)
  refine lv_aload_n hx hb dX1_init_13 rfl (lv_at hl 0 rfl) ?_
  refine lv_bipush (v := 8) hx hb dX1_init_14 (by decide) ?_
  refine e_newi S hK hP hD hS hA k_29 (N := 8) (by decide) (by decide) (Nat.le_of_ble_eq_true rfl) (show 1 + 1 ≤ 46 by omega) (show 40 + 8 ≤ 814 by omega) dX1_init_16 (fun q2 H hP hD hS => ?_)
  refine e_putF S hK hP hD hS hnm (i := 0) (by decide) rfl rfl inlX1 tyX1 tyX1_ok nmX1 1 (by decide) k_30 rfl rfl (ty := .array .int) (by decide +kernel) rfl rfl (Nat.le_of_ble_eq_true rfl) dX1_init_18 (fun H locs hP hD hS => ?_)
  refine lv_aload_n hx hb dX1_init_21 rfl (lv_at hl 0 rfl) ?_
  refine lv_bipush (v := 100) hx hb dX1_init_22 (by decide) ?_
  refine e_newi S hK hP hD hS hA k_29 (N := 100) (by decide) (by decide) (Nat.le_of_ble_eq_true rfl) (show 2 + 1 ≤ 46 by omega) (show 48 + 100 ≤ 814 by omega) dX1_init_24 (fun q3 H hP hD hS => ?_)
  refine e_putF S hK hP hD hS hnm (i := 0) (by decide) rfl rfl inlX1 tyX1 tyX1_ok nmX1 2 (by decide) k_31 rfl rfl (ty := .array .int) (by decide +kernel) rfl rfl (Nat.le_of_ble_eq_true rfl) dX1_init_26 (fun H locs hP hD hS => ?_)
  refine lv_aload_n hx hb dX1_init_29 rfl (lv_at hl 0 rfl) ?_
  refine lv_bipush (v := 100) hx hb dX1_init_30 (by decide) ?_
  refine e_newi S hK hP hD hS hA k_29 (N := 100) (by decide) (by decide) (Nat.le_of_ble_eq_true rfl) (show 3 + 1 ≤ 46 by omega) (show 148 + 100 ≤ 814 by omega) dX1_init_32 (fun q4 H hP hD hS => ?_)
  refine e_putF S hK hP hD hS hnm (i := 0) (by decide) rfl rfl inlX1 tyX1 tyX1_ok nmX1 3 (by decide) k_32 rfl rfl (ty := .array .int) (by decide +kernel) rfl rfl (Nat.le_of_ble_eq_true rfl) dX1_init_34 (fun H locs hP hD hS => ?_)
  refine lv_aload_n hx hb dX1_init_37 rfl (lv_at hl 0 rfl) ?_
  refine e_new S hK hP hD hS hA (ci := 3) rfl inlX3 tyX3 tyX3_ok k_33 k_34 k_35 (fs := [.null]) (fun j hj => by rcases (show j = 0 by omega) with rfl <;> rfl) (show 4 + 1 ≤ 46 by omega) (show 248 + 1 ≤ 814 by omega) dX1_init_38 (fun q5 H hP hD hS => ?_)
  refine lv_dup hx hb dX1_init_41 rfl ?_
  have hP1 : eP G 1 (fun _ => q5) (fun _ => .inr (3, [.null])) H := eP_congr (eP_pick hP (show 5 < 6 by omega)) (fun _ _ => rfl) (fun _ _ => rfl)
  have hsub : ∀ x, nA q5 H.size x → nA h s.heap.size x := fun x hx => nA_sub (G := G) hD hS hA (show 5 < 6 by omega) x hx
  have hA5 : ∀ x : Nat, H.size ≤ x → nA h s.heap.size x := fun x hx => Or.inr (Nat.le_trans hS.1 hx)
  refine n_callN S hK hO hP1 (c_X3_init l G q5 H.size) k_40 hK.2.1 k_39 k_35 rfl q_X3_init ⟨Nat.le_of_ble_eq_true rfl, Nat.le_of_ble_eq_true rfl⟩ rfl rfl hl.1 (Nat.le_of_ble_eq_true rfl) dX1_init_42 ⟨show 5 + 1 ≤ 46 by omega, show 249 + 5 ≤ 814 by omega⟩ hS hsub (fun H1 locs1 hQ hk1 hz1 hS => ?_)
  obtain ⟨a1, h10, hI1, ho1, hQ⟩ := hQ
  obtain ⟨hP, hD⟩ := eP_join (k := 1) hD hP (show 5 < 6 by omega) hk1 hA5 h10 hI1 ho1 hQ
  refine e_putF S hK hP hD hS hnm (i := 0) (by decide) rfl rfl inlX1 tyX1 tyX1_ok nmX1 4 (by decide) k_36 rfl rfl (ty := .object "InvoiceBook$Settings") (by decide +kernel) rfl rfl (Nat.le_of_ble_eq_true rfl) dX1_init_45 (fun H locs hP hD hS => ?_)
  refine lv_iconst (v := 0) hx hb dX1_init_48 (by decide) ?_
  refine lv_istore_n (lv' := [(1, .int 0), (0, .ref h)]) hx hb dX1_init_49 rfl hl (by decide) rfl (fun ls hl => ?_)
  refine LP 40 0 rfl _ _ H locs hP hD hS rfl (fun i hi => ?_) ls hl
  rcases (show i = 0 ∨ i = 1 ∨ i = 2 ∨ i = 3 ∨ i = 4 ∨ i = 5 ∨ i = 6 by omega) with rfl | rfl | rfl | rfl | rfl | rfl | rfl
  · show (Sum.inr (1, _) : va_E) = Sum.inr (1, _)
    exact congrArg (fun x => (Sum.inr (1, [.ref q1, .ref q2, .ref q3, .ref q4, .ref x, .int 0, .int 0, .int 0]) : va_E)) rfl
  · rfl
  · rfl
  · rfl
  · rfl
  · rfl
  · rfl
