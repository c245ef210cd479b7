/-! the two tables of the settings -/
def leastK : Nat → Int32 := fun k => if k = 2 then 1 else 0
def mostK : Nat → Int32 := fun k => if k = 1 then 20 else if k = 4 then 1 else 99
def STK (A : Nat → Prop) (t1 t2 : Nat) (U : State) (H : Heap) : Prop :=
  va_Z RX3 "LEAST" "[I" (.ref t1) A U H ∧ va_T .int t1 5 (fun j => .int (leastK j)) A U H ∧ va_Z RX3 "MOST" "[I" (.ref t2) A U H ∧ va_T .int t2 5 (fun j => .int (mostK j)) A U H
theorem STK.moved {A : Nat → Prop} {t1 t2 : Nat} {s U : State} {H : Heap} (hW : s.vm.Alike U.vm) (h : STK A t1 t2 s H) : STK A t1 t2 U H := ⟨va_Z.moved hW h.1, va_T.moved hW h.2.1, va_Z.moved hW h.2.2.1, va_T.moved hW h.2.2.2⟩
theorem STK.kept {A : Nat → Prop} {t1 t2 : Nat} {U : State} {H H1 : Heap} (h : STK A t1 t2 U H) (hq : ∀ a : Nat, a < H.size → ¬ A a → H1[a]? = H[a]?) : STK A t1 t2 U H1 := ⟨h.1.kept hq, h.2.1.kept hq, h.2.2.1.kept hq, h.2.2.2.kept hq⟩
theorem STK.narrow {A B : Nat → Prop} {t1 t2 : Nat} {U : State} {H : Heap} (h : STK A t1 t2 U H) (hAB : ∀ q, B q → A q) : STK B t1 t2 U H := ⟨h.1.narrow hAB, h.2.1.narrow hAB, h.2.2.1.narrow hAB, h.2.2.2.narrow hAB⟩
def pcX (G : kG) (P : Heap → Prop) (A : Nat → Prop) (t1 t2 : Nat) (av : List Value) : Array Value → State → Prop := va_Pc av (fun U => P U.heap ∧ Kp G U ∧ STK A t1 t2 U U.heap)
theorem pcX_blind {G : kG} {P : Heap → Prop} {A : Nat → Prop} {t1 t2 : Nat} {av : List Value} : FrameBlind (pcX G P A t1 t2 av) := fun a U g mk h => ⟨h.1, h.2.1, h.2.2.1.same (s := U) (U := U.calling g mk a) rfl, h.2.2.2.moved (s := U) (U := U.calling g mk a) (Vm.Alike.refl _)⟩
section MX
variable {l : Launch} {G : kG} {A : Nat → Prop} {P : Heap → Prop} {Qc : Array Value → State → Outcome → State → Prop} {av : List Value}
theorem m_startX {y : MethodName} {cc : ByteArray} {n : Nat} {ret : Option FieldType} {rm : Room} {mc ms : Nat} {free : Addr → Prop} {t1 t2 : Nat} (hy : plainName y.cls = true) (hn : (lg_sl av).length ≤ n)
    (body : ∀ (p : Program) (e : Env) (s : State) (m : MethodId) (args : Array Value) (below : List Frame) (meth : Method) (c : Code), CallFix p m c cc n s args BIG y.cls → meth.sig.returnType = ret → meth.locks = false → meth.name = y.name → P s.heap → Kp G s → STK A t1 t2 s s.heap → ∀ ls : Array Slot, lv_has ls n (lv_args 0 av) →
      W p l e rm s m args below meth c s.heap [] 0 0 (MQ below Qc args s mc ms free) (F0 m 0 ls [])) : Met l y (Cond.code y cc n ret :: BIG) rm (pcX G P A t1 t2 av) Qc mc ms free := by
  refine Met.ofW (cc := cc) (maxL := n) (ret := ret) hy rfl ?_
  intro p e s m args below meth c s₁ B hml hv
  obtain ⟨rfl, hP, hK, hX⟩ := hv
  have hts := atoms_spec (ws := Cond.code y cc n ret :: BIG) B.pre
  rw [lg_entry_eq]
  exact body p e s m _ below meth c ⟨B.exec, B.bytes, hml, findClass_of_methodNamed B.named, fun w h => hts w (List.mem_cons_of_mem _ h)⟩ B.returns B.notSynchronized (name_of_methodNamed B.named B.method).1 hP hK hX _ (lv_entry av hn)
end MX
section RX
variable {p : Program} {l : Launch} {e : Env} {R : Room} {s : State} {m : MethodId} {args : Array Value} {below : List Frame} {meth : Method} {c : Code} {H : Heap} {locs : List Loc} {cells slots : Nat} {Q : State → Prop}
variable {cc : ByteArray} {pc nL : Nat} {own : String} {ls : Array Slot} {rest : List Value} {G : kG}
variable {y : MethodName} {bytes : ByteArray} {n maxL idx : Nat} {ret : Option FieldType} {ws : List Cond} {rm : Room} {P P' : Heap → Prop} {A0 A1 : Nat → Prop} {b : Nat} {As : List Value} {st : List Value}
theorem r_callIX {v : Int32} {t1 t2 : Nat} (S : CallFix p m c cc nL s args BIG own) (hK : Kp G s) (hX : STK A0 t1 t2 s s.heap) (hP : P H) (hM : Met l y ws rm (pcX G P A1 t1 t2 (.ref b :: As)) (qcI G A1 P' v) 0 0 A1) (cw : CallW R s args own y.cls idx y bytes maxL ret ws rm 0 0 n) (hr : ∃ cell : Cell, H[b]? = some cell ∧ cell.vm.isStatics = false ∧ s.vm.findClass y.cls = some cell.cls)
    (hn : As.length = n) (hl : ls.size = nL) (hst : st = As.reverse ++ .ref b :: rest) (hW : (rest.map fun v => v.category).sum ≤ 8) (hdg : decode cc pc = .ok (.invokevirtual idx, 3)) (hc : cells ≤ R.cells ∧ slots ≤ R.slots) (hS : va_S A0 s.heap H locs) (hA : ∀ q, A1 q → A0 q)
    (kk : ∀ (H1 : Heap) (locs1 : List Loc), P' H1 → (∀ q : Nat, q < H.size → ¬ A1 q → H1[q]? = H[q]?) → H.size ≤ H1.size → va_S A0 s.heap H1 locs1 → W p l e R s m args below meth c H1 locs1 cells slots Q (F0 m (pc + 3) ls (.int v :: rest))) : W p l e R s m args below meth c H locs cells slots Q (F0 m pc ls st) := by
  subst hst
  refine va_calli (mc := 0) (ms := 0) (va_runV (As := As) (rest := rest) S hM cw ⟨pcX_blind, hr, fun U hU hW => ⟨rfl, by rw [hU]; exact hP, hK.warm hW, by rw [hU]; exact ((hX.kept hS.2.1).moved hW.alike).narrow hA⟩⟩ rfl hn hl rfl (lv_room hW) hdg hc) hS (fun q _ h => hA q h) hA (fun r u t H1 locs1 ht hvm hw hB hz hk hS1 => ?_)
  cases hw
  exact kk H1 locs1 (ht ▸ hB.1) hk hz hS1
end RX
theorem vp_valueOf {b : Nat → Nat → Int32} {x : Int32} (h : ¬ v_X3_valueOf b x = (-1 : Int32)) : vp_in x 5 := by
  unfold v_X3_valueOf at h
  refine (Classical.em (x < 0)).elim (fun c1 => ?_) (fun c1 => ?_)
  · rw [if_pos c1] at h; exact absurd rfl h
  rw [if_neg c1] at h
  refine (Classical.em ((5 : Int32) ≤ x)).elim (fun c2 => ?_) (fun c2 => ?_)
  · rw [if_pos c2] at h; exact absurd rfl h
  · exact vp_of (vp_lo1 c1) (vp_hi1 (n := 5) c2 rfl (by decide))
