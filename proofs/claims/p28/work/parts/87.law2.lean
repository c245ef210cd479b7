/-! the law: its own rows -/
theorem lw_eq {args : Array Value} {s : State} {tm : Term} {z : Int32} (h : (Cond.eq tm (.int z)).before args s = true) : tm.eval args s none [] s = some (.int z) := by
  cases hv : tm.eval args s none [] s with
  | none => simp [Cond.before, Cond.holds, Cond.value, hv] at h
  | some w =>
    have hz : (Term.int z).eval args s none [] s = some (.int z) := rfl
    simp only [Cond.before, Cond.holds, Cond.value, hv, hz] at h
    cases w <;> simp_all
theorem lw_fin5 {P : Nat → Prop} (h0 : P 0) (h1 : P 1) (h2 : P 2) (h3 : P 3) (h4 : P 4) : ∀ j, j < 5 → P j := fun j hj => by
  rcases (show j = 0 ∨ j = 1 ∨ j = 2 ∨ j = 3 ∨ j = 4 by omega) with rfl | rfl | rfl | rfl | rfl
  · exact h0
  · exact h1
  · exact h2
  · exact h3
  · exact h4
/-- the two tables of the settings, as the claim's start has them -/
theorem lw_STK {b : Nat} {s : State} (hts : ∀ w ∈ lw_tbl, w.before #[Value.ref b] s = true) (hgv : (Jvm.Cond.and given_1 narrow_1).before #[Value.ref b] s = true) : ∃ t1 t2 : Nat, STK (fun q => s.heap.size ≤ q) t1 t2 s s.heap := by
  have hs := flat_of_before _ hgv
  have hA : ∀ a : Nat, a < s.heap.size → ¬ s.heap.size ≤ a := fun a h => Nat.not_le.mpr h
  obtain ⟨t1, e1, h1⟩ := va_Tof (s := s) (args := #[Value.ref b]) (tm := .static "InvoiceBook$Settings" "LEAST" "[I") (ty := .int) (N := 5) (f := fun j => .int (leastK j)) (A := fun q => s.heap.size ≤ q) (by decide) (hs _ (by decide +kernel)) (lw_eq (hs _ (by decide +kernel))) (lw_fin5 (lw_eq (hs _ (by decide +kernel))) (lw_eq (hs _ (by decide +kernel))) (lw_eq (hs _ (by decide +kernel))) (lw_eq (hs _ (by decide +kernel))) (lw_eq (hs _ (by decide +kernel)))) hA
  obtain ⟨t2, e2, h2⟩ := va_Tof (s := s) (args := #[Value.ref b]) (tm := .static "InvoiceBook$Settings" "MOST" "[I") (ty := .int) (N := 5) (f := fun j => .int (mostK j)) (A := fun q => s.heap.size ≤ q) (by decide) (hs _ (by decide +kernel)) (lw_eq (hs _ (by decide +kernel))) (lw_fin5 (lw_eq (hs _ (by decide +kernel))) (lw_eq (hs _ (by decide +kernel))) (lw_eq (hs _ (by decide +kernel))) (lw_eq (hs _ (by decide +kernel))) (lw_eq (hs _ (by decide +kernel)))) hA
  exact ⟨t1, t2, va_Zof (hts _ (tbk_2 _ (List.mem_of_getElem? (i := 233) rfl))) (hts _ (BIG_in _ k_35)) e1 hA, h1, va_Zof (hts _ (tbk_2 _ (List.mem_of_getElem? (i := 235) rfl))) (hts _ (BIG_in _ k_35)) e2 hA, h2⟩
/-- the tables, as the claim's start has them -/
theorem lw_Kp {b : Nat} {s : State} (hts : ∀ w ∈ lw_tbl, w.before #[Value.ref b] s = true) : ∃ G : kG, Kp G s ∧ AO s := by
  have hB : ∀ w ∈ BIG, w.before #[Value.ref b] s = true := fun w h => hts w (BIG_in w h)
  have o0 := hts _ (tbk_1 _ (List.mem_of_getElem? (i := 24) rfl))
  have o1 := hts _ (tbk_1 _ (List.mem_of_getElem? (i := 140) rfl))
  have n0 := hts _ (tbk_1 _ (List.mem_of_getElem? (i := 27) rfl))
  have n1 := hts _ (tbk_1 _ (List.mem_of_getElem? (i := 37) rfl))
  have n2 := hts _ (tbk_1 _ (List.mem_of_getElem? (i := 152) rfl))
  have n3 := hts _ (tbk_2 _ (List.mem_of_getElem? (i := 77) rfl))
  have n4 := hts _ (tbk_2 _ (List.mem_of_getElem? (i := 107) rfl))
  have n5 := hts _ (tbk_2 _ (List.mem_of_getElem? (i := 134) rfl))
  obtain ⟨cI, kI, qI, fI, gI, hI⟩ := Cond.arrayClass_spec (hB _ k_29)
  obtain ⟨cC, kC, qC, fC, gC, hC⟩ := Cond.arrayClass_spec (hB _ k_58)
  obtain ⟨q0, cB, kB, f0, -, g0, h0, e0⟩ := Cond.arrayOver_spec o0
  obtain ⟨q1, cK, kK, f1, -, g1, h1, e1⟩ := Cond.arrayOver_spec o1
  obtain ⟨c0, iS0, hKn0⟩ := u_known hB inlX0 (hB _ k_37)
  obtain ⟨c1, iS1, hKn1⟩ := u_known hB inlX1 (hB _ k_10)
  obtain ⟨c2, iS2, hKn2⟩ := u_known hB inlX2 (hB _ k_16)
  obtain ⟨c3, iS3, hKn3⟩ := u_known hB inlX3 (hB _ k_34)
  obtain ⟨c4, iS4, hKn4⟩ := u_known hB inlX4 (hB _ k_20)
  obtain ⟨c5, iS5, hKn5⟩ := u_known hB inlX5 (hB _ k_1)
  refine ⟨((fun k => if k = 0 then c0 else if k = 1 then c1 else if k = 2 then c2 else if k = 3 then c3 else if k = 4 then c4 else c5, fun k => if k = 0 then iS0 else if k = 1 then iS1 else if k = 2 then iS2 else if k = 3 then iS3 else if k = 4 then iS4 else iS5), cI, cC, cB, cK), ⟨⟨?_, ?_⟩, ?_⟩, va_AO.of o0, va_AO.of o1⟩
  · intro k q hq
    match k, hq with
    | 0, hq => cases hq; exact hKn0
    | 1, hq => cases hq; exact hKn1
    | 2, hq => cases hq; exact hKn2
    | 3, hq => cases hq; exact hKn3
    | 4, hq => cases hq; exact hKn4
    | 5, hq => cases hq; exact hKn5
    | k + 6, hq => exact absurd hq (by simp)
  · intro k q hq
    match k, hq with
    | 0, hq => cases hq; exact ⟨fun n z => ⟨(fun k h => by cases h), kI, gI, qI, hI⟩, fI⟩
    | 1, hq => cases hq; exact ⟨fun n z => ⟨(fun k h => by cases h), kC, gC, qC, hC⟩, fC⟩
    | 2, hq => cases hq; exact ⟨fun n z => ⟨(fun k h => by cases h), kB, g0, q0, h0⟩, kB, q0, g0, h0, f0, e0⟩
    | 3, hq => cases hq; exact ⟨fun n z => ⟨(fun k h => by cases h), kK, g1, q1, h1⟩, kK, q1, g1, h1, f1, e1⟩
    | k + 4, hq => exact absurd hq (by simp)
  · exact ⟨va_Nw.of rfl n0, va_Nw.of rfl n1, va_Nw.of rfl n2, va_Nw.of rfl n3, va_Nw.of rfl n4, va_Nw.of rfl n5⟩
theorem lw_A {n N : Nat} {a : Nat → Nat} (h : ∀ i, i < n → N ≤ a i) : ∀ q, gA n a q → N ≤ q := fun q hq => by
  obtain ⟨i, hi, rfl⟩ := hq
  exact h i (List.mem_range.mp hi)
/-- a static method that asks for the two tables; one that reads the script -/
def pcC (G : kG) (P : Heap → Prop) (b L : Nat) (xs : Nat → Int32) (av : List Value) : Array Value → State → Prop := va_Pc av (fun U => P U.heap ∧ Kp G U ∧ va_X b L xs U U.heap)
theorem pcC_blind {G : kG} {P : Heap → Prop} {b L : Nat} {xs : Nat → Int32} {av : List Value} : FrameBlind (pcC G P b L xs av) := fun a U g mk h => ⟨h.1, h.2.1, h.2.2.1.same (s := U) (U := U.calling g mk a) rfl, va_X.moved (u := U) (U := U.calling g mk a) (Vm.Alike.refl _) h.2.2.2⟩
section LWS
variable {p : Program} {l : Launch} {e : Env} {R : Room} {s : State} {m : MethodId} {args : Array Value} {below : List Frame} {meth : Method} {c : Code} {H : Heap} {locs : List Loc} {cells slots : Nat} {Q : State → Prop}
variable {cc : ByteArray} {pc nL : Nat} {own : String} {ls : Array Slot} {rest : List Value} {G : kG}
variable {y : MethodName} {bytes : ByteArray} {n maxL idx : Nat} {ret : Option FieldType} {ws : List Cond} {rm : Room} {P P' : Heap → Prop} {A0 A1 : Nat → Prop} {As : List Value} {st : List Value}
theorem r_callSX {v : Int32} {t1 t2 : Nat} (S : CallFix p m c cc nL s args BIG own) (hK : Kp G s) (hX : STK A0 t1 t2 s s.heap) (hP : P H) (hM : Met l y ws rm (pcX G P A1 t1 t2 As) (qcI G A1 P' v) 0 0 A1) (cw : CallB R s args own idx y bytes maxL ret ws rm 0 0 n ∧ (Cond.static y).before args s = true)
    (hn : As.length = n) (hl : ls.size = nL) (hst : st = As.reverse ++ rest) (hW : (rest.map fun v => v.category).sum ≤ 8) (hdg : decode cc pc = .ok (.invokestatic idx, 3)) (hc : cells ≤ R.cells ∧ slots ≤ R.slots) (hS : va_S A0 s.heap H locs) (hA : ∀ q, A1 q → A0 q)
    (kk : ∀ (H1 : Heap) (locs1 : List Loc), P' H1 → (∀ q : Nat, q < H.size → ¬ A1 q → H1[q]? = H[q]?) → H.size ≤ H1.size → va_S A0 s.heap H1 locs1 → W p l e R s m args below meth c H1 locs1 cells slots Q (F0 m (pc + 3) ls (.int v :: rest))) : W p l e R s m args below meth c H locs cells slots Q (F0 m pc ls st) := by
  subst hst
  refine va_calli (mc := 0) (ms := 0) (va_runS (As := As) (rest := rest) S hM cw ⟨pcX_blind, fun U hU hW => ⟨rfl, by rw [hU]; exact hP, hK.warm hW, by rw [hU]; exact ((hX.kept hS.2.1).moved hW.alike).narrow hA⟩⟩ rfl hn hl rfl (lv_room hW) hdg hc) hS (fun q _ h => hA q h) hA (fun r u t H1 locs1 ht hvm hw hB hz hk hS1 => ?_)
  cases hw
  exact kk H1 locs1 (ht ▸ hB.1) hk hz hS1
theorem r_callSC {v : Int32} {b L : Nat} {xs : Nat → Int32} (S : CallFix p m c cc nL s args BIG own) (hK : Kp G s) (hX : va_X b L xs s s.heap) (hbl : b < s.heap.size) (hbA : ¬ A0 b) (hP : P H) (hM : Met l y ws rm (pcC G P b L xs As) (qcI G A1 P' v) 0 0 A1) (cw : CallB R s args own idx y bytes maxL ret ws rm 0 0 n ∧ (Cond.static y).before args s = true)
    (hn : As.length = n) (hl : ls.size = nL) (hst : st = As.reverse ++ rest) (hW : (rest.map fun v => v.category).sum ≤ 8) (hdg : decode cc pc = .ok (.invokestatic idx, 3)) (hc : cells ≤ R.cells ∧ slots ≤ R.slots) (hS : va_S A0 s.heap H locs) (hA : ∀ q, A1 q → A0 q)
    (kk : ∀ (H1 : Heap) (locs1 : List Loc), P' H1 → (∀ q : Nat, q < H.size → ¬ A1 q → H1[q]? = H[q]?) → H.size ≤ H1.size → va_S A0 s.heap H1 locs1 → W p l e R s m args below meth c H1 locs1 cells slots Q (F0 m (pc + 3) ls (.int v :: rest))) : W p l e R s m args below meth c H locs cells slots Q (F0 m pc ls st) := by
  subst hst
  refine va_calli (mc := 0) (ms := 0) (va_runS (As := As) (rest := rest) S hM cw ⟨pcC_blind, fun U hU hW => ⟨rfl, by rw [hU]; exact hP, hK.warm hW, by rw [hU]; exact va_X.moved hW.alike (hX.kept (hS.2.1 b hbl hbA))⟩⟩ rfl hn hl rfl (lv_room hW) hdg hc) hS (fun q _ h => hA q h) hA (fun r u t H1 locs1 ht hvm hw hB hz hk hS1 => ?_)
  cases hw
  exact kk H1 locs1 (ht ▸ hB.1) hk hz hS1
end LWS
section MC
variable {l : Launch} {G : kG} {P : Heap → Prop} {Qc : Array Value → State → Outcome → State → Prop} {av : List Value} {b L : Nat} {xs : Nat → Int32}
theorem m_startC {y : MethodName} {cc : ByteArray} {n : Nat} {ret : Option FieldType} {rm : Room} {mc ms : Nat} {free : Addr → Prop} (hy : plainName y.cls = true) (hn : (lg_sl av).length ≤ n)
    (body : ∀ (p : Program) (e : Env) (s : State) (m : MethodId) (args : Array Value) (below : List Frame) (meth : Method) (c : Code), CallFix p m c cc n s args BIG y.cls → meth.sig.returnType = ret → meth.locks = false → P s.heap → Kp G s → va_X b L xs s s.heap → ∀ ls : Array Slot, lv_has ls n (lv_args 0 av) →
      W p l e rm s m args below meth c s.heap [] 0 0 (MQ below Qc args s mc ms free) (F0 m 0 ls [])) : Met l y (Cond.code y cc n ret :: BIG) rm (pcC G P b L xs av) Qc mc ms free := by
  refine Met.ofW (cc := cc) (maxL := n) (ret := ret) hy rfl ?_
  intro p e s m args below meth c s₁ B hml hv
  obtain ⟨rfl, hP, hK, hX⟩ := hv
  have hts := atoms_spec (ws := Cond.code y cc n ret :: BIG) B.pre
  rw [lg_entry_eq]
  exact body p e s m _ below meth c ⟨B.exec, B.bytes, hml, findClass_of_methodNamed B.named, fun w h => hts w (List.mem_cons_of_mem _ h)⟩ B.returns B.notSynchronized hP hK hX _ (lv_entry av hn)
end MC
def v_cell (L : Nat) (xs : Nat → Int32) (q : Nat) : Int32 := if nI L ≤ nI q then (40503 : Int32) * nI q + (977 : Int32) else xs q
theorem q_L_cell : yL_cell.cls ≠ "java/lang/invoke/MethodHandle" ∧ yL_cell.cls ≠ "java/lang/invoke/VarHandle" ∧ (parseMethodDescriptor yL_cell.desc).map (fun d => d.parameters.length) = some 2 := ⟨by decide, by decide, by decide +kernel⟩
set_option maxHeartbeats 4000000 in
set_option maxRecDepth 100000 in
/-- an int of the script, or a made one behind its end -/
theorem c_L_cell (l : Launch) (G : kG) (P : Heap → Prop) (b L : Nat) (xs : Nat → Int32) (q : Nat) (hq : q < 2 ^ 31) (hL : L < 2 ^ 31) : Met l yL_cell (Cond.code yL_cell cL_cell 2 (some .int) :: BIG) (rmK 0) (pcC G P b L xs [.ref b, .int (nI q)]) (qcI G (fun _ => False) P (v_cell L xs q)) 0 0 (fun _ => False) := by
  refine m_startC (by decide) (Nat.le_of_ble_eq_true rfl) ?_
  intro p e s m args below meth c S hr hlk hP hK hX ls hl
  have hx := S.1
  have hb := S.2.1
  have hown := S.2.2.2.1
  have hS : va_S (fun _ => False) s.heap s.heap [] := va_S.rf
  have hbA : ¬ (fun _ : Nat => False) b := fun h => h
  have hbl : b < s.heap.size := by
    obtain ⟨scr, h1, -⟩ := hX
    exact (Array.getElem?_eq_some_iff.mp h1).1
  have hl : lv_has ls 2 [(0, .ref b), (1, .int (nI q))] := hl
  refine lv_iload_n hx hb dL_cell_0 rfl (lv_at hl 1 rfl) ?_
  refine lv_aload_n hx hb dL_cell_1 rfl (lv_at hl 0 rfl) ?_
  refine va_slen hx hb hX hbl hbA hS dL_cell_2 ?_
  refine lv_icmp_ge (tgt := 12) hx hb dL_cell_3 (by decide) (fun c1 => ?_) (fun c1 => ?_)
  · refine lv_ldc hx hb hown (S.2.2.2.2 _ k_275) dL_cell_12 ?_
    refine lv_iload_n hx hb dL_cell_14 rfl (lv_at hl 1 rfl) ?_
    refine lv_imul hx hb dL_cell_15 ?_
    refine lv_sipush (v := 977) hx hb dL_cell_16 (by decide) ?_
    refine lv_iadd hx hb dL_cell_19 ?_
    exact e_int S hr hlk rfl hK hS hP (show v_cell L xs q = (40503 : Int32) * nI q + (977 : Int32) from if_pos c1).symm dL_cell_20
  · have hqL : q < L := by
      by_cases g : q < L
      · exact g
      · exact absurd ((nI_leI hL hq).mpr (by omega)) c1
    refine lv_aload_n hx hb dL_cell_6 rfl (lv_at hl 0 rfl) ?_
    refine lv_iload_n hx hb dL_cell_7 rfl (lv_at hl 1 rfl) ?_
    refine va_sld hx hb hX hbl hbA hS (vp_in_nI hqL hL) dL_cell_8 ?_
    refine lv_goto (tgt := 20) hx hb dL_cell_9 (by decide) ?_
    exact e_int S hr hlk rfl hK hS hP (show v_cell L xs q = xs (nI q).toNatClampNeg from (if_neg c1).trans (by rw [nI_clamp hq])).symm dL_cell_20
/-- one turn of the law's loop -/
theorem L_step {z : CS} {k q : Nat} (h : NV z k) (hq : q < 17) (p2 p3 : Int32) : (v_L_act z (nI q) p2 p3 < 0 ∧ NV (w_L_act z (nI q) p2 p3) k) ∨ (¬ v_L_act z (nI q) p2 p3 < 0 ∧ q = 16 ∧ ∃ k', k = k' + 1 ∧ NV (w_L_act z (nI q) p2 p3) k') ∨ (¬ v_L_act z (nI q) p2 p3 < 0 ∧ q ≠ 16 ∧ NV (w_L_act z (nI q) p2 p3) (up4 k)) := by
  by_cases g : q = 16
  · subst g
    obtain ⟨e1, e2⟩ := L_undo (z := z) p2 p3
    rw [e1, e2]
    cases k with
    | zero =>
      obtain ⟨u1, u2⟩ := NV_undo0 h
      rw [u1, u2]
      exact Or.inl ⟨by decide, h⟩
    | succ k' =>
      have h4 := h.2.2.2.1
      obtain ⟨u1, u2, u3⟩ := NV_undo h
      rw [u1]
      exact Or.inr (Or.inl ⟨nI_pos (by omega), rfl, k', rfl, u2⟩)
  · rcases L_act h (nI q) p2 p3 (nI_pos (by omega)) ((nI_ltI (b := 16) (by omega) (by decide)).mpr (by omega)) with ⟨a1, a2⟩ | ⟨a1, a2⟩
    · exact Or.inl ⟨a1, a2⟩
    · exact Or.inr (Or.inr ⟨a1, g, a2⟩)
theorem NV_q {z : CS} {k : Nat} (h : NV z k) : v_L_holds z = 1 ∧ v_X5_count z (0 : Int32) / (100 : Int32) = nI (qN z) ∧ qN z ≤ 99 := by
  obtain ⟨n, d, hK⟩ := h.2.2.1
  obtain ⟨q1, q2⟩ := qN_of hK
  have hd9 := hK.1.2.1
  exact ⟨holds_1 hK, q2, by omega⟩
