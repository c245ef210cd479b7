/-! the two tables of the settings -/
def leastK : Nat → Int32 := fun k => if k = 2 then 1 else 0
def mostK : Nat → Int32 := fun k => if k = 1 then 20 else if k = 4 then 1 else 99
def STK (A : Nat → Prop) (t1 t2 : Nat) (U : State) (H : Heap) : Prop :=
  va_Z RX3 "LEAST" "[I" (.ref t1) A U H ∧ va_T .int t1 5 (fun j => .int (leastK j)) A U H ∧ va_Z RX3 "MOST" "[I" (.ref t2) A U H ∧ va_T .int t2 5 (fun j => .int (mostK j)) A U H
theorem STK.moved {A : Nat → Prop} {t1 t2 : Nat} {s U : State} {H : Heap} (hW : s.vm.Alike U.vm) (h : STK A t1 t2 s H) : STK A t1 t2 U H := ⟨va_Z.moved hW h.1, va_T.moved hW h.2.1, va_Z.moved hW h.2.2.1, va_T.moved hW h.2.2.2⟩
theorem STK.kept {A : Nat → Prop} {t1 t2 : Nat} {U : State} {H H1 : Heap} (h : STK A t1 t2 U H) (hq : ∀ a : Nat, a < H.size → ¬ A a → H1[a]? = H[a]?) : STK A t1 t2 U H1 := ⟨h.1.kept hq, h.2.1.kept hq, h.2.2.1.kept hq, h.2.2.2.kept hq⟩
theorem STK.narrow {A B : Nat → Prop} {t1 t2 : Nat} {U : State} {H : Heap} (h : STK A t1 t2 U H) (hAB : ∀ q, B q → A q) : STK B t1 t2 U H := ⟨h.1.narrow hAB, h.2.1.narrow hAB, h.2.2.1.narrow hAB, h.2.2.2.narrow hAB⟩
def pcX (G : kG) (P : Heap → Prop) (A : Nat → Prop) (t1 t2 : Nat) (av : List Value) : Array Value → State → Prop := va_Pc av (fun U => P U.heap ∧ Kp G U ∧ STK A t1 t2 U U.heap)
theorem pcX_blind {G : kG} {P : Heap → Prop} {A : Nat → Prop} {t1 t2 : Nat} {av : List Value} : FrameBlind (pcX G P A t1 t2 av) := fun a U g mk h => ⟨h.1, h.2.1, h.2.2.1.same (s := U) (U := U.calling g mk a) rfl, h.2.2.2.moved (s := U) (U := U.calling g mk a) (Vm.Alike.refl _)⟩
section MX
variable {l : Launch} {G : kG} {A : Nat → Prop} {P : Heap → Prop} {Qc : Array Value → State → Outcome → State → Prop} {av : List Value}
theorem m_startX {y : MethodName} {cc : ByteArray} {n : Nat} {ret : Option FieldType} {rm : Room} {mc ms : Nat} {free : Addr → Prop} {t1 t2 : Nat} (hy : plainName y.cls = true) (hn : (lg_sl av).length ≤ n)
    (body : ∀ (p : Program) (e : Env) (s : State) (m : MethodId) (args : Array Value) (below : List Frame) (meth : Method) (c : Code), CallFix p m c cc n s args BIG y.cls → meth.sig.returnType = ret → meth.locks = false → meth.name = y.name → P s.heap → Kp G s → STK A t1 t2 s s.heap → ∀ ls : Array Slot, lv_has ls n (lv_args 0 av) →
      W p l e rm s m args below meth c s.heap [] 0 0 (MQ below Qc args s mc ms free) (F0 m 0 ls [])) : Met l y (Cond.code y cc n ret :: BIG) rm (pcX G P A t1 t2 av) Qc mc ms free := by
  refine Met.ofW (cc := cc) (maxL := n) (ret := ret) hy rfl ?_
  intro p e s m args below meth c s₁ B hml hv
  obtain ⟨rfl, hP, hK, hX⟩ := hv
  have hts := atoms_spec (ws := Cond.code y cc n ret :: BIG) B.pre
  rw [lg_entry_eq]
  exact body p e s m _ below meth c ⟨B.exec, B.bytes, hml, findClass_of_methodNamed B.named, fun w h => hts w (List.mem_cons_of_mem _ h)⟩ B.returns B.notSynchronized (name_of_methodNamed B.named B.method).1 hP hK hX _ (lv_entry av hn)
end MX
section RX
variable {p : Program} {l : Launch} {e : Env} {R : Room} {s : State} {m : MethodId} {args : Array Value} {below : List Frame} {meth : Method} {c : Code} {H : Heap} {locs : List Loc} {cells slots : Nat} {Q : State → Prop}
variable {cc : ByteArray} {pc nL : Nat} {own : String} {ls : Array Slot} {rest : List Value} {G : kG}
variable {y : MethodName} {bytes : ByteArray} {n maxL idx : Nat} {ret : Option FieldType} {ws : List Cond} {rm : Room} {P P' : Heap → Prop} {A0 A1 : Nat → Prop} {b : Nat} {As : List Value} {st : List Value}
theorem r_callIX {v : Int32} {t1 t2 : Nat} (S : CallFix p m c cc nL s args BIG own) (hK : Kp G s) (hX : STK A0 t1 t2 s s.heap) (hP : P H) (hM : Met l y ws rm (pcX G P A1 t1 t2 (.ref b :: As)) (qcI G A1 P' v) 0 0 A1) (cw : CallW R s args own y.cls idx y bytes maxL ret ws rm 0 0 n) (hr : ∃ cell : Cell, H[b]? = some cell ∧ cell.vm.isStatics = false ∧ s.vm.findClass y.cls = some cell.cls)
    (hn : As.length = n) (hl : ls.size = nL) (hst : st = As.reverse ++ .ref b :: rest) (hW : (rest.map fun v => v.category).sum ≤ 8) (hdg : decode cc pc = .ok (.invokevirtual idx, 3)) (hc : cells ≤ R.cells ∧ slots ≤ R.slots) (hS : va_S A0 s.heap H locs) (hA : ∀ q, A1 q → A0 q)
    (kk : ∀ (H1 : Heap) (locs1 : List Loc), P' H1 → (∀ q : Nat, q < H.size → ¬ A1 q → H1[q]? = H[q]?) → H.size ≤ H1.size → va_S A0 s.heap H1 locs1 → W p l e R s m args below meth c H1 locs1 cells slots Q (F0 m (pc + 3) ls (.int v :: rest))) : W p l e R s m args below meth c H locs cells slots Q (F0 m pc ls st) := by
  subst hst
  refine va_calli (mc := 0) (ms := 0) (va_runV (As := As) (rest := rest) S hM cw ⟨pcX_blind, hr, fun U hU hW => ⟨rfl, by rw [hU]; exact hP, hK.warm hW, by rw [hU]; exact ((hX.kept hS.2.1).moved hW.alike).narrow hA⟩⟩ rfl hn hl rfl (lv_room hW) hdg hc) hS (fun q _ h => hA q h) hA (fun r u t H1 locs1 ht hvm hw hB hz hk hS1 => ?_)
  cases hw
  exact kk H1 locs1 (ht ▸ hB.1) hk hz hS1
end RX
def v_X3_change (b : Nat → Nat → Int32) (p1 : Int32) (p2 : Int32) : Int32 := if p1 < 0 then (-1 : Int32) else if p1 < (5 : Int32) then (if p2 < leastK p1.toNatClampNeg then (-2 : Int32) else if p2 ≤ mostK p1.toNatClampNeg then (if p2 = b 6 p1.toNatClampNeg then (-5 : Int32) else b 6 p1.toNatClampNeg) else (-2 : Int32)) else (-1 : Int32)
def w_X3_change (b : Nat → Nat → Int32) (p1 : Int32) (p2 : Int32) : Nat → Nat → Int32 := if p1 < 0 then b else if p1 < (5 : Int32) then (if p2 < leastK p1.toNatClampNeg then b else if p2 ≤ mostK p1.toNatClampNeg then (if p2 = b 6 p1.toNatClampNeg then b else up b 6 p1.toNatClampNeg p2) else b) else b
theorem q_X3_change : yX3_change.cls ≠ "java/lang/invoke/MethodHandle" ∧ yX3_change.cls ≠ "java/lang/invoke/VarHandle" ∧ (parseMethodDescriptor yX3_change.desc).map (fun d => d.parameters.length) = some 2 := ⟨by decide, by decide, by decide +kernel⟩
set_option maxHeartbeats 4000000 in
set_option maxRecDepth 100000 in
theorem c_X3_change (l : Launch) (G : kG) (a : Nat → Nat) (hI : gI 47 a) (b : Nat → Nat → Int32) (t1 t2 : Nat) (p1 : Int32) (p2 : Int32) : Met l yX3_change (Cond.code yX3_change cX3_change 4 (some .int) :: BIG) (rmK 0) (pcX G (bP G a b) (gA 47 a) t1 t2 [.ref (a 5), .int p1, .int p2]) (qcI G (gA 47 a) (bP G a (w_X3_change b p1 p2)) (v_X3_change b p1 p2)) 0 0 (gA 47 a) := by
  refine m_startX (by decide) (Nat.le_of_ble_eq_true rfl) ?_
  intro p e s m args below meth c S hr hlk hnm hP hK hX ls hl
  have hx := S.1
  have hb := S.2.1
  have hown := S.2.2.2.1
  have hS : va_S (gA 47 a) s.heap s.heap [] := va_S.rf
  have hl : lv_has ls 4 [(0, .ref (a 5)), (1, .int p1), (2, .int p2)] := hl
  refine lv_iload_n hx hb dX3_change_0 rfl (lv_at hl 1 rfl) ?_
  refine lv_if_lt (tgt := 13) hx hb dX3_change_1 (by decide) (fun c1 => ?_) (fun c1 => ?_)
  · skip
    refine lv_iconst (v := -1) hx hb dX3_change_13 (by decide) ?_
    exact e_int S hr hlk rfl hK hS (gP_eq (show w_X3_change b p1 p2 = b from (if_pos c1).trans rfl) hP) (show v_X3_change b p1 p2 = (-1 : Int32) from (if_pos c1).trans rfl).symm dX3_change_14
  · skip
    refine lv_iload_n hx hb dX3_change_4 rfl (lv_at hl 1 rfl) ?_
    refine lv_aload_n hx hb dX3_change_5 rfl (lv_at hl 0 rfl) ?_
    refine g_get S hK hP (i := 5) (by omega) bC5 rfl inlX3 0 (by decide) k_42 (v := .ref (a 6)) rfl dX3_change_6 ?_
    refine g_alen S hK hP (i := 6) (by omega) (bC6 _) 0 rfl (v := 5) rfl dX3_change_9 ?_
    refine lv_icmp_lt (tgt := 15) hx hb dX3_change_10 (by decide) (fun c2 => ?_) (fun c2 => ?_)
    · skip
      refine lv_iload_n hx hb dX3_change_15 rfl (lv_at hl 2 rfl) ?_
      refine va_gets hx hb hX.1 hS hown (S.2.2.2.2 _ k_435) (fun _ h => h) dX3_change_16 ?_
      refine lv_iload_n hx hb dX3_change_19 rfl (lv_at hl 1 rfl) ?_
      refine va_ti hx hb hX.2.1 hS (vp_of (vp_lo1 c1) (vp_hi2 (n := 5) c2 rfl (by decide))) (v := .int (leastK p1.toNatClampNeg)) rfl dX3_change_20 ?_
      refine lv_icmp_lt (tgt := 33) hx hb dX3_change_21 (by decide) (fun c3 => ?_) (fun c3 => ?_)
      · skip
        refine lv_bipush (v := -2) hx hb dX3_change_33 (by decide) ?_
        exact e_int S hr hlk rfl hK hS (gP_eq (show w_X3_change b p1 p2 = b from (if_neg c1).trans ((if_pos c2).trans ((if_pos c3).trans rfl))) hP) (show v_X3_change b p1 p2 = (-2 : Int32) from (if_neg c1).trans ((if_pos c2).trans ((if_pos c3).trans rfl))).symm dX3_change_35
      · skip
        refine lv_iload_n hx hb dX3_change_24 rfl (lv_at hl 2 rfl) ?_
        refine va_gets hx hb hX.2.2.1 hS hown (S.2.2.2.2 _ k_436) (fun _ h => h) dX3_change_25 ?_
        refine lv_iload_n hx hb dX3_change_28 rfl (lv_at hl 1 rfl) ?_
        refine va_ti hx hb hX.2.2.2 hS (vp_of (vp_lo1 c1) (vp_hi2 (n := 5) c2 rfl (by decide))) (v := .int (mostK p1.toNatClampNeg)) rfl dX3_change_29 ?_
        refine lv_icmp_le (tgt := 36) hx hb dX3_change_30 (by decide) (fun c4 => ?_) (fun c4 => ?_)
        · skip
          refine lv_aload_n hx hb dX3_change_36 rfl (lv_at hl 0 rfl) ?_
          refine g_get S hK hP (i := 5) (by omega) bC5 rfl inlX3 0 (by decide) k_42 (v := .ref (a 6)) rfl dX3_change_37 ?_
          refine lv_iload_n hx hb dX3_change_40 rfl (lv_at hl 1 rfl) ?_
          refine g_ald S hK hP (i := 6) (by omega) bC6 (vp_of (vp_lo1 c1) (vp_hi2 (n := 5) c2 rfl (by decide))) (v := b 6 p1.toNatClampNeg) (rfl) dX3_change_41 ?_
          refine lv_istore_n (lv' := [(3, .int (b 6 p1.toNatClampNeg)), (0, .ref (a 5)), (1, .int p1), (2, .int p2)]) hx hb dX3_change_42 rfl hl (by decide) rfl (fun ls hl => ?_)
          refine lv_iload_n hx hb dX3_change_43 rfl (lv_at hl 3 rfl) ?_
          refine lv_iload_n hx hb dX3_change_44 rfl (lv_at hl 0 rfl) ?_
          refine lv_icmp_ne (tgt := 51) hx hb dX3_change_45 (by decide) (fun c5 => ?_) (fun c5 => ?_)
          · skip
            refine lv_aload_n hx hb dX3_change_51 rfl (lv_at hl 1 rfl) ?_
            refine g_get S hK hP (i := 5) (by omega) bC5 rfl inlX3 0 (by decide) k_42 (v := .ref (a 6)) rfl dX3_change_52 ?_
            refine lv_iload_n hx hb dX3_change_55 rfl (lv_at hl 2 rfl) ?_
            refine lv_iload_n hx hb dX3_change_56 rfl (lv_at hl 3 rfl) ?_
            refine g_ast S hK hP hI hS (i := 6) (by omega) bC6 (vp_of (vp_lo1 c1) (vp_hi2 (n := 5) c2 rfl (by decide))) dX3_change_57 (fun H locs hP hS => ?_)
            have hP : bP G a (up b 6 p1.toNatClampNeg p2) H := hP
            refine lv_iload_n hx hb dX3_change_58 rfl (lv_at hl 0 rfl) ?_
            exact e_int S hr hlk rfl hK hS (gP_eq (show w_X3_change b p1 p2 = up b 6 p1.toNatClampNeg p2 from (if_neg c1).trans ((if_pos c2).trans ((if_neg c3).trans ((if_pos c4).trans ((if_neg c5).trans rfl))))) hP) (show v_X3_change b p1 p2 = b 6 p1.toNatClampNeg from (if_neg c1).trans ((if_pos c2).trans ((if_neg c3).trans ((if_pos c4).trans ((if_neg c5).trans rfl))))).symm dX3_change_59
          · skip
            refine lv_bipush (v := -5) hx hb dX3_change_48 (by decide) ?_
            exact e_int S hr hlk rfl hK hS (gP_eq (show w_X3_change b p1 p2 = b from (if_neg c1).trans ((if_pos c2).trans ((if_neg c3).trans ((if_pos c4).trans ((if_pos c5).trans rfl))))) hP) (show v_X3_change b p1 p2 = (-5 : Int32) from (if_neg c1).trans ((if_pos c2).trans ((if_neg c3).trans ((if_pos c4).trans ((if_pos c5).trans rfl))))).symm dX3_change_50
        · skip
          refine lv_bipush (v := -2) hx hb dX3_change_33 (by decide) ?_
          exact e_int S hr hlk rfl hK hS (gP_eq (show w_X3_change b p1 p2 = b from (if_neg c1).trans ((if_pos c2).trans ((if_neg c3).trans ((if_neg c4).trans rfl)))) hP) (show v_X3_change b p1 p2 = (-2 : Int32) from (if_neg c1).trans ((if_pos c2).trans ((if_neg c3).trans ((if_neg c4).trans rfl)))).symm dX3_change_35
    · skip
      refine lv_iconst (v := -1) hx hb dX3_change_13 (by decide) ?_
      exact e_int S hr hlk rfl hK hS (gP_eq (show w_X3_change b p1 p2 = b from (if_neg c1).trans ((if_neg c2).trans rfl)) hP) (show v_X3_change b p1 p2 = (-1 : Int32) from (if_neg c1).trans ((if_neg c2).trans rfl)).symm dX3_change_14

def v_X5_set (z : CS) (p1 : Int32) (p2 : Int32) : Int32 := v_X5_endAct (zB (w_X5_startAct z) ((w_X5_startAct z).1 0) (w_X3_change ((w_X5_startAct z).2 ((w_X5_startAct z).1 0)) p1 p2)) (v_X3_change ((w_X5_startAct z).2 ((w_X5_startAct z).1 0)) p1 p2)
def w_X5_set (z : CS) (p1 : Int32) (p2 : Int32) : CS := w_X5_endAct (zB (w_X5_startAct z) ((w_X5_startAct z).1 0) (w_X3_change ((w_X5_startAct z).2 ((w_X5_startAct z).1 0)) p1 p2)) (v_X3_change ((w_X5_startAct z).2 ((w_X5_startAct z).1 0)) p1 p2)
theorem q_X5_set : yX5_set.cls ≠ "java/lang/invoke/MethodHandle" ∧ yX5_set.cls ≠ "java/lang/invoke/VarHandle" ∧ (parseMethodDescriptor yX5_set.desc).map (fun d => d.parameters.length) = some 2 := ⟨by decide, by decide, by decide +kernel⟩
set_option maxHeartbeats 4000000 in
set_option maxRecDepth 100000 in
theorem c_X5_set (l : Launch) (G : kG) (a : Nat → Nat) (hI : gI 334 a) (z : CS) (t1 t2 : Nat) (p1 : Int32) (p2 : Int32) (hR : RI z.1) (hJ : RJ z.1) : Met l yX5_set (Cond.code yX5_set cX5_set 3 (some .int) :: BIG) (rmK 4) (pcX G (cP G a z) (gA 334 a) t1 t2 [.ref (a 329), .int p1, .int p2]) (qcI G (gA 334 a) (cP G a (w_X5_set z p1 p2)) (v_X5_set z p1 p2)) 0 0 (gA 334 a) := by
  refine m_startX (by decide) (Nat.le_of_ble_eq_true rfl) ?_
  intro p e s m args below meth c S hr hlk hnm hP hK hX ls hl
  have hx := S.1
  have hb := S.2.1
  have hown := S.2.2.2.1
  have hS : va_S (gA 334 a) s.heap s.heap [] := va_S.rf
  have hl : lv_has ls 3 [(0, .ref (a 329)), (1, .int p1), (2, .int p2)] := hl
  refine lv_aload_n hx hb dX5_set_0 rfl (lv_at hl 0 rfl) ?_
  refine r_callV S hK hP (c_X5_startAct l G a hI z hR hJ) (r_cw S k_290 k_287 k_288 k_289 k_2 q_X5_startAct ⟨Nat.le_of_ble_eq_true rfl, Nat.le_of_ble_eq_true rfl⟩ rfl rfl) (g_recv hK hP (i := 329) (by omega) cC0 rfl) rfl hl.1 rfl (Nat.le_of_ble_eq_true rfl) dX5_set_1 ⟨Nat.zero_le _, Nat.zero_le _⟩ hS (fun _ h => h) (fun H locs hP _ _ hS => ?_)
  have hP : cP G a (w_X5_startAct z) H := hP
  refine lv_aload_n hx hb dX5_set_4 rfl (lv_at hl 0 rfl) ?_
  refine lv_aload_n hx hb dX5_set_5 rfl (lv_at hl 0 rfl) ?_
  refine g_get S hK hP (i := 329) (by omega) cC0 rfl inlX5 0 (by decide) k_12 (v := .ref (a (47 * ((w_X5_startAct z).1 0)))) rfl dX5_set_6 ?_
  have hB := cP_book (r := (w_X5_startAct z).1 0) hP ((RI_eq (startAct_R) hR) 0 (by decide))
  refine g_get S hK hB (i := 0) (by omega) bC0 rfl inlX1 4 (by decide) k_71 (v := .ref (a (47 * ((w_X5_startAct z).1 0) + 5))) rfl dX5_set_9 ?_
  refine lv_iload_n hx hb dX5_set_12 rfl (lv_at hl 1 rfl) ?_
  refine lv_iload_n hx hb dX5_set_13 rfl (lv_at hl 2 rfl) ?_
  have hB := cP_book (r := (w_X5_startAct z).1 0) hP ((RI_eq (startAct_R) hR) 0 (by decide))
  refine r_callIX S hK hX hB (c_X3_change l G (fun t => a (47 * ((w_X5_startAct z).1 0) + t)) (gI_book hI ((RI_eq (startAct_R) hR) 0 (by decide))) ((w_X5_startAct z).2 ((w_X5_startAct z).1 0)) t1 t2 _ _ ) (r_cw S k_434 k_431 k_432 k_433 k_35 q_X3_change ⟨Nat.le_of_ble_eq_true rfl, Nat.le_of_ble_eq_true rfl⟩ rfl rfl) (g_recv hK hB (i := 5) (by omega) bC5 rfl) rfl hl.1 rfl (Nat.le_of_ble_eq_true rfl) dX5_set_14 ⟨Nat.zero_le _, Nat.zero_le _⟩ hS (fun _ h => gA_book ((RI_eq (startAct_R) hR) 0 (by decide)) h) (fun H locs hB hk1 hz1 hS => ?_)
  have hP := cP_join hI ((RI_eq (startAct_R) hR) 0 (by decide)) hP hB hk1
  have hP : cP G a (zB (w_X5_startAct z) ((w_X5_startAct z).1 0) (w_X3_change ((w_X5_startAct z).2 ((w_X5_startAct z).1 0)) p1 p2)) H := hP
  refine r_callI S hK hP (c_X5_endAct l G a hI (zB (w_X5_startAct z) ((w_X5_startAct z).1 0) (w_X3_change ((w_X5_startAct z).2 ((w_X5_startAct z).1 0)) p1 p2)) _ (RI_eq (fst_zB.trans (startAct_R)) hR) (RJ_eq (fst_zB.trans (startAct_R)) hJ)) (r_cw S k_342 k_339 k_340 k_341 k_2 q_X5_endAct ⟨Nat.le_of_ble_eq_true rfl, Nat.le_of_ble_eq_true rfl⟩ rfl rfl) (g_recv hK hP (i := 329) (by omega) cC0 rfl) rfl hl.1 rfl (Nat.le_of_ble_eq_true rfl) dX5_set_17 ⟨Nat.zero_le _, Nat.zero_le _⟩ hS (fun _ h => h) (fun H locs hP _ _ hS => ?_)
  have hP : cP G a (w_X5_endAct (zB (w_X5_startAct z) ((w_X5_startAct z).1 0) (w_X3_change ((w_X5_startAct z).2 ((w_X5_startAct z).1 0)) p1 p2)) (v_X3_change ((w_X5_startAct z).2 ((w_X5_startAct z).1 0)) p1 p2)) H := hP
  exact e_int S hr hlk rfl hK hS (cP_eq (show w_X5_set z p1 p2 = w_X5_endAct (zB (w_X5_startAct z) ((w_X5_startAct z).1 0) (w_X3_change ((w_X5_startAct z).2 ((w_X5_startAct z).1 0)) p1 p2)) (v_X3_change ((w_X5_startAct z).2 ((w_X5_startAct z).1 0)) p1 p2) from rfl) hP) (show v_X5_set z p1 p2 = v_X5_endAct (zB (w_X5_startAct z) ((w_X5_startAct z).1 0) (w_X3_change ((w_X5_startAct z).2 ((w_X5_startAct z).1 0)) p1 p2)) (v_X3_change ((w_X5_startAct z).2 ((w_X5_startAct z).1 0)) p1 p2) from rfl).symm dX5_set_20
