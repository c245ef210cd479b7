/-! constructors: families of cells that grow -/
def aw (a : Nat → Nat) (n q : Nat) : Nat → Nat := fun i => if i = n then q else a i
def ue (E : Nat → va_E) (n : Nat) (x : va_E) : Nat → va_E := fun i => if i = n then x else E i
theorem ue_same {E : Nat → va_E} {n : Nat} {x : va_E} : ue E n x n = x := if_pos rfl
theorem ue_ne {E : Nat → va_E} {n i : Nat} {x : va_E} (h : i ≠ n) : ue E n x i = E i := if_neg h
theorem aw_same {a : Nat → Nat} {n q : Nat} : aw a n q n = q := if_pos rfl
theorem aw_ne {a : Nat → Nat} {n i q : Nat} (h : i ≠ n) : aw a n q i = a i := if_neg h
abbrev eP (G : kG) (n : Nat) (a : Nat → Nat) (E : Nat → va_E) (H : Heap) : Prop := va_P G.1 vwCl (fW (List.range n) a E) H
abbrev eD (A : Nat → Prop) (n : Nat) (a : Nat → Nat) (E : Nat → va_E) : Prop := va_D A (fW (List.range n) a E)
theorem fW_snoc {n q : Nat} {a : Nat → Nat} {E : Nat → va_E} {x : va_E} : fW (List.range n) a E ++ [(q, x)] = fW (List.range (n + 1)) (aw a n q) (ue E n x) := by
  unfold fW
  rw [List.range_succ, List.map_append]
  congr 1
  · apply List.map_congr_left
    intro i hi
    have := List.mem_range.mp hi
    simp [aw, ue, Nat.ne_of_lt this]
  · simp [aw, ue]
theorem eW_get {n i : Nat} {a : Nat → Nat} {E : Nat → va_E} (h : i < n) : (fW (List.range n) a E)[i]? = some (a i, E i) := by simp [fW, h]
theorem eW_set {n i : Nat} {a : Nat → Nat} {E : Nat → va_E} {x : va_E} (h : i < n) : (fW (List.range n) a E).set i (a i, x) = fW (List.range n) a (ue E i x) :=
  fW_set List.nodup_range (q0 := i) (by simp [h]) ue_same (fun _ hj => ue_ne hj)
theorem eD_inj {A : Nat → Prop} {n : Nat} {a : Nat → Nat} {E : Nat → va_E} (h : eD A n a E) : gI n a :=
  ⟨List.nodup_range, fun i hi j hj e => h.1 i j _ _ (eW_get (List.mem_range.mp hi)) (eW_get (List.mem_range.mp hj)) e⟩
theorem eD_A {A : Nat → Prop} {n : Nat} {a : Nat → Nat} {E : Nat → va_E} (h : eD A n a E) {i : Nat} (hi : i < n) : A (a i) := h.2 i _ (eW_get hi)
def AO (U : State) : Prop := va_AO RX0 U ∧ va_AO RX1 U
theorem AO.moved {s U : State} (hW : s.vm.Alike U.vm) (h : AO s) : AO U := ⟨va_AO.moved hW h.1, va_AO.moved hW h.2⟩
def nA (h sz : Nat) : Nat → Prop := fun q => q = h ∨ sz ≤ q
def pcN (G : kG) (P : Heap → Prop) (sz : Nat) (av : List Value) : Array Value → State → Prop := va_Pc av (fun U => P U.heap ∧ Kp G U ∧ U.heap.size = sz ∧ AO U)
theorem pcN_blind {G : kG} {P : Heap → Prop} {sz : Nat} {av : List Value} : FrameBlind (pcN G P sz av) := fun a U g mk h => ⟨h.1, h.2.1, h.2.2.1.same (s := U) (U := U.calling g mk a) rfl, h.2.2.2.1, h.2.2.2.2.moved (s := U) (U := U.calling g mk a) (Vm.Alike.refl _)⟩
section MN
variable {l : Launch} {G : kG} {A : Nat → Prop} {P : Heap → Prop} {Qc : Array Value → State → Outcome → State → Prop} {av : List Value}
theorem m_startN {y : MethodName} {cc : ByteArray} {n : Nat} {ret : Option FieldType} {rm : Room} {mc ms sz : Nat} {free : Addr → Prop} (hy : plainName y.cls = true) (hn : (lg_sl av).length ≤ n)
    (body : ∀ (p : Program) (e : Env) (s : State) (m : MethodId) (args : Array Value) (below : List Frame) (meth : Method) (c : Code), CallFix p m c cc n s args BIG y.cls → meth.sig.returnType = ret → meth.locks = false → meth.name = y.name → P s.heap → Kp G s → s.heap.size = sz → AO s → ∀ ls : Array Slot, lv_has ls n (lv_args 0 av) →
      W p l e rm s m args below meth c s.heap [] 0 0 (MQ below Qc args s mc ms free) (F0 m 0 ls [])) : Met l y (Cond.code y cc n ret :: BIG) rm (pcN G P sz av) Qc mc ms free := by
  refine Met.ofW (cc := cc) (maxL := n) (ret := ret) hy rfl ?_
  intro p e s m args below meth c s₁ B hml hv
  obtain ⟨rfl, hP, hK, hz, hO⟩ := hv
  have hts := atoms_spec (ws := Cond.code y cc n ret :: BIG) B.pre
  rw [lg_entry_eq]
  exact body p e s m _ below meth c ⟨B.exec, B.bytes, hml, findClass_of_methodNamed B.named, fun w h => hts w (List.mem_cons_of_mem _ h)⟩ B.returns B.notSynchronized (name_of_methodNamed B.named B.method).1 hP hK hz hO _ (lv_entry av hn)
end MN
section NW
variable {p : Program} {l : Launch} {e : Env} {R : Room} {s : State} {m : MethodId} {args : Array Value} {below : List Frame} {meth : Method} {c : Code} {H : Heap} {locs : List Loc} {cells slots : Nat} {Q : State → Prop}
variable {cc : ByteArray} {pc nL : Nat} {own : String} {ls : Array Slot} {rest : List Value} {G : kG} {A : Nat → Prop} {H0 : Heap}
variable {n : Nat} {a : Nat → Nat} {E : Nat → va_E}
theorem e_obj (S : CallFix p m c cc nL s args BIG own) (hl : ls.size = nL) {idx : Nat} (hlink : Cond.methodLink own idx objectInit ∈ BIG) (h1 : Cond.instanceMethod objectInit ∈ BIG) (h2 : Cond.code objectInit ⟨#[0xb1]⟩ 1 none ∈ BIG) {b : Nat} (hd : decode cc pc = .ok (.invokespecial idx, 3)) (hf : 1 ≤ R.frames) (hW : (rest.map fun v => v.category).sum + 12 ≤ R.locals)
    (kk : W p l e R s m args below meth c H locs cells slots Q (F0 m (pc + 3) ls rest)) : W p l e R s m args below meth c H locs cells slots Q (F0 m pc ls (.ref b :: rest)) := by
  obtain ⟨hx, hb, hml, hown, hts⟩ := S
  refine W.objInit hx hb hown (hts _ hlink) (hts _ h1) (hts _ h2) rfl (hl.trans hml.symm) rfl hd hf ?_ kk
  show 2 * 0 + (rest.map fun v => v.category).sum + 12 ≤ R.locals
  omega
theorem e_new (S : CallFix p m c cc nL s args BIG own) (hK : Kp G s) (hP : eP G n a E H) (hD : eD A n a E) (hS : va_S A H0 H locs) (hA : ∀ q, H0.size ≤ q → A q) {ci N index : Nat} {Cn : String} {T : u_T} (hc : vwCl[ci]? = some (Cn, T, N)) (hin : ∀ w ∈ u_ws Cn T N, w ∈ BIG) (ty : Nat → FieldType) (hty : ∀ k, k < N → parseFieldDescriptor (T k).2.2.1 = some (ty k)) (hcl : Cond.classLink own index Cn ∈ BIG) (hinst : Cond.instantiable Cn N ∈ BIG) (hini : Cond.initialized Cn ∈ BIG) {fs : List Value} (hfs : ∀ j, j < N → defaultValue (ty j) = vp_V fs j) (hcells : cells + 1 ≤ R.cells) (hslots : slots + N ≤ R.slots) (hdg : decode cc pc = .ok (.new index, 3))
    (kk : ∀ (q : Nat) (H1 : Heap), eP G (n + 1) (aw a n q) (ue E n (.inr (ci, fs))) H1 → eD A (n + 1) (aw a n q) (ue E n (.inr (ci, fs))) → va_S A H0 H1 locs → W p l e R s m args below meth c H1 locs (cells + 1) (slots + N) Q (F0 m (pc + 3) ls (.ref q :: rest))) : W p l e R s m args below meth c H locs cells slots Q (F0 m pc ls rest) := by
  obtain ⟨hx, hb, hml, hown, hts⟩ := S
  refine va_new hx hb hts hin ty hty hown (hts _ hcl) (hts _ hinst) (hts _ hini) hK.1 hP hD hS hA hc hfs hcells hslots hdg (fun q H1 h1 h2 h3 => ?_)
  rw [fW_snoc] at h1 h2
  exact kk q H1 h1 h2 h3
theorem k_ra (hK : Kp G s) {t : Nat} {cA cB : ClassId} {ty : FieldType} (h : (kT G.2.1 G.2.2.1 G.2.2.2.1 G.2.2.2.2)[t]? = some (cB, ty)) {tys : List (ClassId × FieldType)} (h1 : va_K G.1 vwCl (tys ++ [(cA, ty)]) s) (hf : ∀ x y, va_RA s x ty → va_RA s y ty → x = y) : cA = cB :=
  hf _ _ (h1.2 tys.length (cA, ty) (by simp)).2 (hK.1.2 t _ h).2
theorem e_newi (S : CallFix p m c cc nL s args BIG own) (hK : Kp G s) (hP : eP G n a E H) (hD : eD A n a E) (hS : va_S A H0 H locs) (hA : ∀ q, H0.size ≤ q → A q) (harr : Cond.arrayClass .int ∈ BIG) {x : Int32} {N : Nat} (hn : ¬ x < 0) (hN : x.toNatClampNeg = N) (hbytes : N * 4 ≤ 536870912) (hcells : cells + 1 ≤ R.cells) (hslots : slots + N ≤ R.slots) (hdg : decode cc pc = .ok (.newarray .int, 2))
    (kk : ∀ (q : Nat) (H1 : Heap), eP G (n + 1) (aw a n q) (ue E n (.inl (G.2.1, N, .inl (fun _ => 0)))) H1 → eD A (n + 1) (aw a n q) (ue E n (.inl (G.2.1, N, .inl (fun _ => 0)))) → va_S A H0 H1 locs → W p l e R s m args below meth c H1 locs (cells + 1) (slots + N) Q (F0 m (pc + 2) ls (.ref q :: rest))) : W p l e R s m args below meth c H locs cells slots Q (F0 m pc ls (.int x :: rest)) := by
  obtain ⟨hx, hb, hml, hown, hts⟩ := S
  refine va_newa (atype := .int) (a0 := (N, .inl (fun _ => 0))) (ty := .int) hx hb (hts _ harr) rfl hK.1 hP hD hS hA (fun _ => rfl) hn hN hbytes hcells hslots hdg (fun q cA H1 h0 h1 h2 h3 => ?_)
  have e := k_ra hK (t := 0) rfl h0 (fun x y h1 h2 => Option.some.inj (h1.symm.trans h2))
  subst e
  rw [fW_snoc] at h1 h2
  exact kk q H1 h1 h2 h3
theorem e_newc (S : CallFix p m c cc nL s args BIG own) (hK : Kp G s) (hP : eP G n a E H) (hD : eD A n a E) (hS : va_S A H0 H locs) (hA : ∀ q, H0.size ≤ q → A q) (harr : Cond.arrayClass .char ∈ BIG) {x : Int32} {N : Nat} (hn : ¬ x < 0) (hN : x.toNatClampNeg = N) (hbytes : N * 2 ≤ 536870912) (hcells : cells + 1 ≤ R.cells) (hslots : slots + N ≤ R.slots) (hdg : decode cc pc = .ok (.newarray .char, 2))
    (kk : ∀ (q : Nat) (H1 : Heap), eP G (n + 1) (aw a n q) (ue E n (.inl (G.2.2.1, N, .inl (fun _ => 0)))) H1 → eD A (n + 1) (aw a n q) (ue E n (.inl (G.2.2.1, N, .inl (fun _ => 0)))) → va_S A H0 H1 locs → W p l e R s m args below meth c H1 locs (cells + 1) (slots + N) Q (F0 m (pc + 2) ls (.ref q :: rest))) : W p l e R s m args below meth c H locs cells slots Q (F0 m pc ls (.int x :: rest)) := by
  obtain ⟨hx, hb, hml, hown, hts⟩ := S
  refine va_newa (atype := .char) (a0 := (N, .inl (fun _ => 0))) (ty := .char) hx hb (hts _ harr) rfl hK.1 hP hD hS hA (fun _ => rfl) hn hN hbytes hcells hslots hdg (fun q cA H1 h0 h1 h2 h3 => ?_)
  have e := k_ra hK (t := 1) rfl h0 (fun x y h1 h2 => Option.some.inj (h1.symm.trans h2))
  subst e
  rw [fW_snoc] at h1 h2
  exact kk q H1 h1 h2 h3
theorem e_newq (S : CallFix p m c cc nL s args BIG own) (hK : Kp G s) (hP : eP G n a E H) (hD : eD A n a E) (hS : va_S A H0 H locs) (hA : ∀ q, H0.size ≤ q → A q) {Cn : String} {index t : Nat} {cB : ClassId} (ht : (kT G.2.1 G.2.2.1 G.2.2.2.1 G.2.2.2.2)[t]? = some (cB, .object Cn)) (hcl : Cond.classLink own index Cn ∈ BIG) (hover : va_AO Cn s) {x : Int32} {N : Nat} (hn : ¬ x < 0) (hN : x.toNatClampNeg = N) (hbytes : N * 4 ≤ 536870912) (hcells : cells + 1 ≤ R.cells) (hslots : slots + N ≤ R.slots) (hdg : decode cc pc = .ok (.anewarray index, 3))
    (kk : ∀ (q : Nat) (H1 : Heap), eP G (n + 1) (aw a n q) (ue E n (.inl (cB, N, .inr (.inr (.inr (.inr (fun _ => none))))))) H1 → eD A (n + 1) (aw a n q) (ue E n (.inl (cB, N, .inr (.inr (.inr (.inr (fun _ => none))))))) → va_S A H0 H1 locs → W p l e R s m args below meth c H1 locs (cells + 1) (slots + N) Q (F0 m (pc + 3) ls (.ref q :: rest))) : W p l e R s m args below meth c H locs cells slots Q (F0 m pc ls (.int x :: rest)) := by
  obtain ⟨hx, hb, hml, hown, hts⟩ := S
  refine va_newq hx hb hown (hts _ hcl) hover hK.1 hP hD hS hA hn hN hbytes hcells hslots hdg (fun q cA H1 h0 h1 h2 h3 => ?_)
  have e := k_ra hK ht h0 (fun x y h1 h2 => by
    obtain ⟨_, _, _, _, _, e1⟩ := h1
    obtain ⟨_, _, _, _, _, e2⟩ := h2
    exact Option.some.inj (e1.symm.trans e2))
  subst e
  rw [fW_snoc] at h1 h2
  exact kk q H1 h1 h2 h3
theorem e_putF (S : CallFix p m c cc nL s args BIG own) (hK : Kp G s) (hP : eP G n a E H) (hD : eD A n a E) (hS : va_S A H0 H locs) (hin2 : meth.name = "<init>") {i : Nat} (hi : i < n) {ci N : Nat} {Cn : String} {T : u_T} {fs : List Value} (he : E i = .inr (ci, fs)) (hc : vwCl[ci]? = some (Cn, T, N)) (hin : ∀ w ∈ u_ws Cn T N, w ∈ BIG) (ty0 : Nat → FieldType) (hty : ∀ k, k < N → parseFieldDescriptor (T k).2.2.1 = some (ty0 k)) (hnm : ∀ a, a < N → ∀ b, b < N → a ≠ b → (T a).2.1 ≠ (T b).2.1) (k : Nat) (hk : k < N) {index : Nat} (hlink : Cond.fieldLink own index (T k).1 (T k).2.1 (T k).2.2.1 ∈ BIG) (hfin : (T k).2.2.2 = true) (hdecl : (T k).1 = own) {ty : FieldType} {v : Value} (hd : parseFieldDescriptor (T k).2.2.1 = some ty) (hn : narrow ty v = v) (hfit : fits ty v = true) (hl : k < fs.length) (hdg : decode cc pc = .ok (.putfield index, 3))
    (kk : ∀ (H1 : Heap) (locs1 : List Loc), eP G n a (ue E i (.inr (ci, fs.set k v))) H1 → eD A n a (ue E i (.inr (ci, fs.set k v))) → va_S A H0 H1 locs1 → W p l e R s m args below meth c H1 locs1 cells slots Q (F0 m (pc + 3) ls rest)) : W p l e R s m args below meth c H locs cells slots Q (F0 m pc ls (v :: .ref (a i) :: rest)) := by
  obtain ⟨hx, hb, hml, hown, hts⟩ := S
  refine va_putF hx hb hts hin ty0 hty hnm hown hK.1 hP hD hS i (by rw [eW_get hi, he]) hc k hk (hts _ hlink) (fun _ h => h) hfin hin2 hdecl hd hn hfit hl hdg (fun H1 locs1 h1 h2 h3 => ?_)
  rw [eW_set hi] at h1 h2
  exact kk H1 locs1 h1 h2 h3
theorem e_put (S : CallFix p m c cc nL s args BIG own) (hK : Kp G s) (hP : eP G n a E H) (hD : eD A n a E) (hS : va_S A H0 H locs) {i : Nat} (hi : i < n) {ci N : Nat} {Cn : String} {T : u_T} {fs : List Value} (he : E i = .inr (ci, fs)) (hc : vwCl[ci]? = some (Cn, T, N)) (hin : ∀ w ∈ u_ws Cn T N, w ∈ BIG) (ty0 : Nat → FieldType) (hty : ∀ k, k < N → parseFieldDescriptor (T k).2.2.1 = some (ty0 k)) (hnm : ∀ a, a < N → ∀ b, b < N → a ≠ b → (T a).2.1 ≠ (T b).2.1) (k : Nat) (hk : k < N) {index : Nat} (hlink : Cond.fieldLink own index (T k).1 (T k).2.1 (T k).2.2.1 ∈ BIG) (hfin : (T k).2.2.2 = false) {ty : FieldType} {v : Value} (hd : parseFieldDescriptor (T k).2.2.1 = some ty) (hn : narrow ty v = v) (hfit : fits ty v = true) (hl : k < fs.length) (hdg : decode cc pc = .ok (.putfield index, 3))
    (kk : ∀ (H1 : Heap) (locs1 : List Loc), eP G n a (ue E i (.inr (ci, fs.set k v))) H1 → eD A n a (ue E i (.inr (ci, fs.set k v))) → va_S A H0 H1 locs1 → W p l e R s m args below meth c H1 locs1 cells slots Q (F0 m (pc + 3) ls rest)) : W p l e R s m args below meth c H locs cells slots Q (F0 m pc ls (v :: .ref (a i) :: rest)) := by
  obtain ⟨hx, hb, hml, hown, hts⟩ := S
  refine va_put hx hb hts hin ty0 hty hnm hown hK.1 hP hD hS i (by rw [eW_get hi, he]) hc k hk (hts _ hlink) (fun _ h => h) hfin hd hn hfit hl hdg (fun H1 locs1 h1 h2 h3 => ?_)
  rw [eW_set hi] at h1 h2
  exact kk H1 locs1 h1 h2 h3
end NW
