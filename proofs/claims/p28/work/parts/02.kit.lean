/-! worlds as families of cells over a list of names -/
def fW {ι : Type} (L : List ι) (a : ι → Nat) (E : ι → va_E) : va_W := L.map (fun i => (a i, E i))
def fI {ι : Type} (L : List ι) (a : ι → Nat) : Prop := L.Nodup ∧ ∀ i, i ∈ L → ∀ j, j ∈ L → a i = a j → i = j
def fA {ι : Type} (L : List ι) (a : ι → Nat) : Nat → Prop := fun q => ∃ i, i ∈ L ∧ a i = q
theorem fW_get {ι : Type} {L : List ι} {a : ι → Nat} {E : ι → va_E} {i : ι} (h : i ∈ L) : ∃ q0 : Nat, L[q0]? = some i ∧ (fW L a E)[q0]? = some (a i, E i) := by
  obtain ⟨q0, hq⟩ := List.getElem?_of_mem h
  exact ⟨q0, hq, by simp [fW, hq]⟩
theorem fW_of {ι : Type} {L : List ι} {a : ι → Nat} {E : ι → va_E} {k : Nat} {q : Nat × va_E} (h : (fW L a E)[k]? = some q) : ∃ i, L[k]? = some i ∧ q = (a i, E i) := by
  unfold fW at h
  rw [List.getElem?_map] at h
  cases hk : L[k]? with
  | none => rw [hk] at h; cases h
  | some i => rw [hk] at h; exact ⟨i, rfl, (Option.some.inj h).symm⟩
theorem nodup_at {ι : Type} {L : List ι} (hn : L.Nodup) {i j : Nat} {x : ι} (h1 : L[i]? = some x) (h2 : L[j]? = some x) : i = j :=
  (List.getElem?_inj (List.getElem?_eq_some_iff.mp h1).1 hn).mp (h1.trans h2.symm)
theorem fW_set {ι : Type} {L : List ι} (hn : L.Nodup) {a : ι → Nat} {E E' : ι → va_E} {i : ι} {q0 : Nat} (hq : L[q0]? = some i) {e : va_E} (he : E' i = e) (ho : ∀ j, j ≠ i → E' j = E j) : (fW L a E).set q0 (a i, e) = fW L a E' := by
  apply List.ext_getElem?
  intro k
  have hl := (List.getElem?_eq_some_iff.mp hq).1
  by_cases hk : k = q0
  · subst hk
    rw [List.getElem?_set_self (by simpa [fW] using hl)]
    simp [fW, hq, he]
  · rw [List.getElem?_set_ne (Ne.symm hk)]
    cases hk2 : L[k]? with
    | none => simp [fW, hk2]
    | some j =>
      have hj : j ≠ i := fun z => hk (nodup_at hn (z ▸ hk2) hq)
      simp [fW, hk2, ho j hj]
theorem fD {ι : Type} {L : List ι} {a : ι → Nat} {E : ι → va_E} (h : fI L a) : va_D (fA L a) (fW L a E) := by
  refine ⟨fun i j p q hi hj hpq => ?_, fun k q hk => ?_⟩
  · obtain ⟨x, h1, rfl⟩ := fW_of hi
    obtain ⟨y, h2, rfl⟩ := fW_of hj
    have hxy := h.2 x (List.mem_of_getElem? h1) y (List.mem_of_getElem? h2) hpq
    subst hxy
    exact nodup_at h.1 h1 h2
  · obtain ⟨x, h1, rfl⟩ := fW_of hk
    exact ⟨x, List.mem_of_getElem? h1, rfl⟩
theorem fP_at {ι : Type} {D : va_G} {cl : List vw_C} {L : List ι} {a : ι → Nat} {E : ι → va_E} {H : Heap} (h : va_P D cl (fW L a E) H) {i : ι} (hi : i ∈ L) : va_at D cl (a i, E i) H := by
  obtain ⟨q0, -, h2⟩ := fW_get (a := a) (E := E) hi
  exact h q0 _ h2
theorem fP_of {ι : Type} {D : va_G} {cl : List vw_C} {L : List ι} {a : ι → Nat} {E : ι → va_E} {H : Heap} (h : ∀ i, i ∈ L → va_at D cl (a i, E i) H) : va_P D cl (fW L a E) H := by
  intro k q hk
  obtain ⟨i, h1, rfl⟩ := fW_of hk
  exact h i (List.mem_of_getElem? h1)
/-! the words of all methods -/
abbrev vwCl : List vw_C := [(RX0, TX0, 14), (RX1, TX1, 8), (RX2, TX2, 2), (RX3, TX3, 1), (RX4, TX4, 9), (RX5, TX5, 9)]
abbrev BIG : List Cond := wsL_law
abbrev kT (cI cC cB cK : ClassId) : List (ClassId × FieldType) := [(cI, .int), (cC, .char), (cB, .object RX0), (cK, .object RX1)]
abbrev kG : Type := va_G × ClassId × ClassId × ClassId × ClassId
/-- private methods of one class that another of its nest calls: what the tables say of them -/
def nw (U : State) : Prop := va_Nw (.methodLinkNest RX1 29 yX3_init "InvoiceBook") U ∧ va_Nw (.methodLinkNest RX1 34 yX0_init "InvoiceBook") U ∧ va_Nw (.methodLinkNest RX5 31 yX4_init "InvoiceBook") U ∧ va_Nw (.methodLinkNest RX1 61 yX5_isCustomer "InvoiceBook") U ∧ va_Nw (.methodLinkNest RX1 114 yX5_isYear "InvoiceBook") U ∧ va_Nw (.methodLinkNest RX1 85 yX5_isAmount "InvoiceBook") U
theorem nw.warm {s U : State} (hW : s.WarmedH U.vm) (h : nw s) : nw U := ⟨h.1.warmM hW, h.2.1.warmM hW, h.2.2.1.warmM hW, h.2.2.2.1.warmM hW, h.2.2.2.2.1.warmM hW, h.2.2.2.2.2.warmM hW⟩
theorem nw.same {s U : State} (hW : s.vm = U.vm) (h : nw s) : nw U := ⟨h.1.same rfl hW, h.2.1.same rfl hW, h.2.2.1.same rfl hW, h.2.2.2.1.same rfl hW, h.2.2.2.2.1.same rfl hW, h.2.2.2.2.2.same rfl hW⟩
/-- the tables -/
def Kp (G : kG) (U : State) : Prop := va_K G.1 vwCl (kT G.2.1 G.2.2.1 G.2.2.2.1 G.2.2.2.2) U ∧ nw U
theorem Kp.warm {G : kG} {s U : State} (hW : s.WarmedH U.vm) (hK : Kp G s) : Kp G U := ⟨va_K.moved hW.alike hK.1, hK.2.warm hW⟩
theorem Kp.same {G : kG} {s U : State} (hW : s.vm = U.vm) (hK : Kp G s) : Kp G U := ⟨va_K.moved (hW ▸ Vm.Alike.refl _) hK.1, hK.2.same hW⟩
def rmK (d : Nat) : Room := { frames := d, cells := 0, slots := 0, locals := 28 * d }
/-- start and end of a contract -/
def pcG (G : kG) (P : Heap → Prop) (av : List Value) : Array Value → State → Prop := va_Pc av (fun U => P U.heap ∧ Kp G U)
def qcI (G : kG) (A : Nat → Prop) (P : Heap → Prop) (v : Int32) : Array Value → State → Outcome → State → Prop := va_Qi (fun r (_ : Unit) => r = v) (fun _ t => P t.heap ∧ Kp G t) A
def qcV (G : kG) (A : Nat → Prop) (P : Heap → Prop) : Array Value → State → Outcome → State → Prop := va_Qv (fun (_ : Unit) => True) (fun _ t => P t.heap ∧ Kp G t) A
def qcQ (G : kG) (A : Nat → Prop) (P : Heap → Prop) (v : Option Nat) : Array Value → State → Outcome → State → Prop := va_Qq (fun r (_ : Unit) => r = v) (fun _ t => P t.heap ∧ Kp G t) A
theorem pcG_blind {G : kG} {P : Heap → Prop} {av : List Value} : FrameBlind (pcG G P av) := fun a U g mk h => ⟨h.1, h.2.1, h.2.2.same (s := U) (U := U.calling g mk a) rfl⟩
theorem big_self : GoodIn BIG BIG := goodIn_sub (fun _ h => h) (by decide +kernel)
theorem big_cons {y : MethodName} {cc : ByteArray} {n : Nat} {ret : Option FieldType} (h : Cond.code y cc n ret ∈ BIG) : GoodIn BIG (Cond.code y cc n ret :: BIG) := fun w hw => by
  rcases List.mem_cons.mp hw with rfl | hw
  · exact big_self _ h
  · exact big_self _ hw
section MS
variable {l : Launch} {G : kG} {A : Nat → Prop} {P : Heap → Prop} {Qc : Array Value → State → Outcome → State → Prop} {av : List Value}
/-- a contract's start -/
theorem m_start {y : MethodName} {cc : ByteArray} {n : Nat} {ret : Option FieldType} {rm : Room} {mc ms : Nat} {free : Addr → Prop} (hy : plainName y.cls = true) (hn : (lg_sl av).length ≤ n)
    (body : ∀ (p : Program) (e : Env) (s : State) (m : MethodId) (args : Array Value) (below : List Frame) (meth : Method) (c : Code), CallFix p m c cc n s args BIG y.cls → meth.sig.returnType = ret → meth.locks = false → meth.name = y.name → P s.heap → Kp G s → ∀ ls : Array Slot, lv_has ls n (lv_args 0 av) →
      W p l e rm s m args below meth c s.heap [] 0 0 (MQ below Qc args s mc ms free) (F0 m 0 ls [])) : Met l y (Cond.code y cc n ret :: BIG) rm (pcG G P av) Qc mc ms free := by
  refine Met.ofW (cc := cc) (maxL := n) (ret := ret) hy rfl ?_
  intro p e s m args below meth c s₁ B hml hv
  obtain ⟨rfl, hP, hK⟩ := hv
  have hts := atoms_spec (ws := Cond.code y cc n ret :: BIG) B.pre
  rw [lg_entry_eq]
  exact body p e s m _ below meth c ⟨B.exec, B.bytes, hml, findClass_of_methodNamed B.named, fun w h => hts w (List.mem_cons_of_mem _ h)⟩ B.returns B.notSynchronized (name_of_methodNamed B.named B.method).1 hP hK _ (lv_entry av hn)
end MS
section RW
variable {p : Program} {l : Launch} {e : Env} {R : Room} {s : State} {m : MethodId} {args : Array Value} {below : List Frame} {meth : Method} {c : Code} {H : Heap} {locs : List Loc} {cells slots : Nat} {Q : State → Prop}
variable {cc : ByteArray} {pc nL : Nat} {own : String} {ls : Array Slot} {rest : List Value} {G : kG} {A : Nat → Prop} {H0 : Heap}
variable {ι : Type} {L : List ι} {a : ι → Nat} {E : ι → va_E} {i : ι}
/-- getfield out of a family -/
theorem r_get (S : CallFix p m c cc nL s args BIG own) (hK : Kp G s) (hP : va_P G.1 vwCl (fW L a E) H) (hi : i ∈ L) {ci N : Nat} {C : String} {T : u_T} {fs : List Value} (he : E i = .inr (ci, fs)) (hc : vwCl[ci]? = some (C, T, N)) (hin : ∀ w ∈ u_ws C T N, w ∈ BIG) (k : Nat) (hk : k < N) {index : Nat} (hlink : Cond.fieldLink own index (T k).1 (T k).2.1 (T k).2.2.1 ∈ BIG) {v : Value} (hv : fs[k]? = some v) (hdg : decode cc pc = .ok (.getfield index, 3))
    (kk : W p l e R s m args below meth c H locs cells slots Q (F0 m (pc + 3) ls (v :: rest))) : W p l e R s m args below meth c H locs cells slots Q (F0 m pc ls (.ref (a i) :: rest)) := by
  obtain ⟨hx, hb, hml, hown, hts⟩ := S
  obtain ⟨q0, -, h2⟩ := fW_get (a := a) (E := E) hi
  rw [he] at h2
  exact va_get hx hb hts hin hown hK.1 hP q0 h2 hc k hk (hts _ hlink) (fun _ h => h) hv hdg kk
/-- putfield into a family -/
theorem r_put (S : CallFix p m c cc nL s args BIG own) (hK : Kp G s) (hP : va_P G.1 vwCl (fW L a E) H) (hI : fI L a) (hS : va_S (fA L a) H0 H locs) (hi : i ∈ L) {ci N : Nat} {C : String} {T : u_T} {fs : List Value} (he : E i = .inr (ci, fs)) (hc : vwCl[ci]? = some (C, T, N)) (hin : ∀ w ∈ u_ws C T N, w ∈ BIG) (ty0 : Nat → FieldType) (hty : ∀ k, k < N → parseFieldDescriptor (T k).2.2.1 = some (ty0 k)) (hnm : ∀ a, a < N → ∀ b, b < N → a ≠ b → (T a).2.1 ≠ (T b).2.1) (k : Nat) (hk : k < N) {index : Nat} (hlink : Cond.fieldLink own index (T k).1 (T k).2.1 (T k).2.2.1 ∈ BIG) (hfin : (T k).2.2.2 = false) {ty : FieldType} {v : Value} (hd : parseFieldDescriptor (T k).2.2.1 = some ty) (hn : narrow ty v = v) (hfit : fits ty v = true) (hl : k < fs.length) (hdg : decode cc pc = .ok (.putfield index, 3))
    {E' : ι → va_E} (he' : E' i = .inr (ci, fs.set k v)) (ho : ∀ j, j ≠ i → E' j = E j)
    (kk : ∀ (H1 : Heap) (locs1 : List Loc), va_P G.1 vwCl (fW L a E') H1 → va_S (fA L a) H0 H1 locs1 → W p l e R s m args below meth c H1 locs1 cells slots Q (F0 m (pc + 3) ls rest)) : W p l e R s m args below meth c H locs cells slots Q (F0 m pc ls (v :: .ref (a i) :: rest)) := by
  obtain ⟨hx, hb, hml, hown, hts⟩ := S
  obtain ⟨q0, h1, h2⟩ := fW_get (a := a) (E := E) hi
  rw [he] at h2
  refine va_put hx hb hts hin ty0 hty hnm hown hK.1 hP (fD hI) hS q0 h2 hc k hk (hts _ hlink) (fun _ h => h) hfin hd hn hfit hl hdg (fun H1 locs1 hP1 hD1 hS1 => ?_)
  rw [fW_set hI.1 h1 he' ho] at hP1
  exact kk H1 locs1 hP1 hS1
/-- iaload, caload, aaload, arraylength, iastore, castore -/
theorem r_iald (S : CallFix p m c cc nL s args BIG own) (hK : Kp G s) (hP : va_P G.1 vwCl (fW L a E) H) (hi : i ∈ L) {n : Nat} {f : Nat → Int32} (he : E i = .inl (G.2.1, n, .inl f)) {x : Int32} (hin : vp_in x n) (hdg : decode cc pc = .ok (.iaload, 1))
    (kk : W p l e R s m args below meth c H locs cells slots Q (F0 m (pc + 1) ls (.int (f x.toNatClampNeg) :: rest))) : W p l e R s m args below meth c H locs cells slots Q (F0 m pc ls (.int x :: .ref (a i) :: rest)) := by
  obtain ⟨hx, hb, hml, hown, hts⟩ := S
  obtain ⟨q0, -, h2⟩ := fW_get (a := a) (E := E) hi
  rw [he] at h2
  exact va_iald hx hb hK.1 hP q0 0 h2 rfl hin hdg kk
theorem r_cald (S : CallFix p m c cc nL s args BIG own) (hK : Kp G s) (hP : va_P G.1 vwCl (fW L a E) H) (hi : i ∈ L) {n : Nat} {f : Nat → Int32} (he : E i = .inl (G.2.2.1, n, .inl f)) {x : Int32} (hin : vp_in x n) (hdg : decode cc pc = .ok (.caload, 1))
    (kk : W p l e R s m args below meth c H locs cells slots Q (F0 m (pc + 1) ls (.int (f x.toNatClampNeg) :: rest))) : W p l e R s m args below meth c H locs cells slots Q (F0 m pc ls (.int x :: .ref (a i) :: rest)) := by
  obtain ⟨hx, hb, hml, hown, hts⟩ := S
  obtain ⟨q0, -, h2⟩ := fW_get (a := a) (E := E) hi
  rw [he] at h2
  exact va_cald hx hb hK.1 hP q0 1 h2 rfl hin hdg kk
theorem r_bald (S : CallFix p m c cc nL s args BIG own) (hK : Kp G s) (hP : va_P G.1 vwCl (fW L a E) H) (hi : i ∈ L) {n : Nat} {f : Nat → Option Nat} (he : E i = .inl (G.2.2.2.1, n, .inr (.inr (.inr (.inr f))))) {x : Int32} (hin : vp_in x n) (hdg : decode cc pc = .ok (.aaload, 1))
    (kk : W p l e R s m args below meth c H locs cells slots Q (F0 m (pc + 1) ls (va_rf (f x.toNatClampNeg) :: rest))) : W p l e R s m args below meth c H locs cells slots Q (F0 m pc ls (.int x :: .ref (a i) :: rest)) := by
  obtain ⟨hx, hb, hml, hown, hts⟩ := S
  obtain ⟨q0, -, h2⟩ := fW_get (a := a) (E := E) hi
  rw [he] at h2
  exact va_aldq hx hb hK.1 hP q0 2 h2 rfl hin hdg kk
theorem r_kald (S : CallFix p m c cc nL s args BIG own) (hK : Kp G s) (hP : va_P G.1 vwCl (fW L a E) H) (hi : i ∈ L) {n : Nat} {f : Nat → Option Nat} (he : E i = .inl (G.2.2.2.2, n, .inr (.inr (.inr (.inr f))))) {x : Int32} (hin : vp_in x n) (hdg : decode cc pc = .ok (.aaload, 1))
    (kk : W p l e R s m args below meth c H locs cells slots Q (F0 m (pc + 1) ls (va_rf (f x.toNatClampNeg) :: rest))) : W p l e R s m args below meth c H locs cells slots Q (F0 m pc ls (.int x :: .ref (a i) :: rest)) := by
  obtain ⟨hx, hb, hml, hown, hts⟩ := S
  obtain ⟨q0, -, h2⟩ := fW_get (a := a) (E := E) hi
  rw [he] at h2
  exact va_aldq hx hb hK.1 hP q0 3 h2 rfl hin hdg kk
theorem r_alen (S : CallFix p m c cc nL s args BIG own) (hK : Kp G s) (hP : va_P G.1 vwCl (fW L a E) H) (hi : i ∈ L) {cA : ClassId} {x : vp_A} (he : E i = .inl (cA, x)) (t0 : Nat) {ty : FieldType} (ht : (kT G.2.1 G.2.2.1 G.2.2.2.1 G.2.2.2.2)[t0]? = some (cA, ty)) {v : Int32} (hv : Int32.ofNat x.1 = v) (hdg : decode cc pc = .ok (.arraylength, 1))
    (kk : W p l e R s m args below meth c H locs cells slots Q (F0 m (pc + 1) ls (.int v :: rest))) : W p l e R s m args below meth c H locs cells slots Q (F0 m pc ls (.ref (a i) :: rest)) := by
  obtain ⟨hx, hb, hml, hown, hts⟩ := S
  obtain ⟨q0, -, h2⟩ := fW_get (a := a) (E := E) hi
  rw [he] at h2
  exact va_alen hx hb hK.1 hP q0 t0 h2 ht hv hdg kk
theorem r_iast (S : CallFix p m c cc nL s args BIG own) (hK : Kp G s) (hP : va_P G.1 vwCl (fW L a E) H) (hI : fI L a) (hS : va_S (fA L a) H0 H locs) (hi : i ∈ L) {n : Nat} {f : Nat → Int32} (he : E i = .inl (G.2.1, n, .inl f)) {x v : Int32} (hin : vp_in x n) (hdg : decode cc pc = .ok (.iastore, 1))
    {E' : ι → va_E} (he' : E' i = .inl (G.2.1, n, .inl (upd f x.toNatClampNeg v))) (ho : ∀ j, j ≠ i → E' j = E j)
    (kk : ∀ (H1 : Heap) (locs1 : List Loc), va_P G.1 vwCl (fW L a E') H1 → va_S (fA L a) H0 H1 locs1 → W p l e R s m args below meth c H1 locs1 cells slots Q (F0 m (pc + 1) ls rest)) : W p l e R s m args below meth c H locs cells slots Q (F0 m pc ls (.int v :: .int x :: .ref (a i) :: rest)) := by
  obtain ⟨hx, hb, hml, hown, hts⟩ := S
  obtain ⟨q0, h1, h2⟩ := fW_get (a := a) (E := E) hi
  rw [he] at h2
  refine va_iast hx hb hK.1 hP (fD hI) hS q0 0 h2 rfl hin hdg (fun H1 locs1 hP1 hD1 hS1 => ?_)
  rw [fW_set hI.1 h1 he' ho] at hP1
  exact kk H1 locs1 hP1 hS1
theorem r_cast (S : CallFix p m c cc nL s args BIG own) (hK : Kp G s) (hP : va_P G.1 vwCl (fW L a E) H) (hI : fI L a) (hS : va_S (fA L a) H0 H locs) (hi : i ∈ L) {n : Nat} {f : Nat → Int32} (he : E i = .inl (G.2.2.1, n, .inl f)) {x v : Int32} (hin : vp_in x n) (hdg : decode cc pc = .ok (.castore, 1))
    {E' : ι → va_E} (he' : E' i = .inl (G.2.2.1, n, .inl (upd f x.toNatClampNeg (vp_nar .char v)))) (ho : ∀ j, j ≠ i → E' j = E j)
    (kk : ∀ (H1 : Heap) (locs1 : List Loc), va_P G.1 vwCl (fW L a E') H1 → va_S (fA L a) H0 H1 locs1 → W p l e R s m args below meth c H1 locs1 cells slots Q (F0 m (pc + 1) ls rest)) : W p l e R s m args below meth c H locs cells slots Q (F0 m pc ls (.int v :: .int x :: .ref (a i) :: rest)) := by
  obtain ⟨hx, hb, hml, hown, hts⟩ := S
  obtain ⟨q0, h1, h2⟩ := fW_get (a := a) (E := E) hi
  rw [he] at h2
  refine va_cast hx hb hK.1 hP (fD hI) hS q0 1 h2 rfl hin hdg (fun H1 locs1 hP1 hD1 hS1 => ?_)
  rw [fW_set hI.1 h1 he' ho] at hP1
  exact kk H1 locs1 hP1 hS1
/-- calls: an instance method with an int answer, none, or a reference -/
theorem r_cw {y : MethodName} {bytes : ByteArray} {n maxL : Nat} {ret : Option FieldType} {rm : Room} {idx : Nat} (S : CallFix p m c cc nL s args BIG own) (hcode : Cond.code y bytes maxL ret ∈ BIG) (hl : Cond.methodLink own idx y ∈ BIG) (hi : Cond.instanceMethod y ∈ BIG) (hs : Cond.selects y.cls y y ∈ BIG) (hini : Cond.initialized y.cls ∈ BIG)
    (hd : y.cls ≠ "java/lang/invoke/MethodHandle" ∧ y.cls ≠ "java/lang/invoke/VarHandle" ∧ (parseMethodDescriptor y.desc).map (fun d => d.parameters.length) = some n) (hR : rm.frames + 1 ≤ R.frames ∧ 8 + (maxL + 11) + rm.locals ≤ R.locals) (hrc : rm.cells = 0) (hrs : rm.slots = 0) :
    CallW R s args own y.cls idx y bytes maxL ret (Cond.code y bytes maxL ret :: BIG) rm 0 0 n :=
  ⟨callB_of n S.2.2.2.2 (big_cons hcode) rfl hrc hrs (S.2.2.2.2 _ hini) (S.2.2.2.2 _ hl) hd hR, S.2.2.2.2 _ hi, S.2.2.2.2 _ hs⟩
theorem r_cs {y : MethodName} {bytes : ByteArray} {n maxL : Nat} {ret : Option FieldType} {rm : Room} {idx : Nat} (S : CallFix p m c cc nL s args BIG own) (hcode : Cond.code y bytes maxL ret ∈ BIG) (hl : Cond.methodLink own idx y ∈ BIG) (hi : Cond.static y ∈ BIG) (hini : Cond.initialized y.cls ∈ BIG)
    (hd : y.cls ≠ "java/lang/invoke/MethodHandle" ∧ y.cls ≠ "java/lang/invoke/VarHandle" ∧ (parseMethodDescriptor y.desc).map (fun d => d.parameters.length) = some n) (hR : rm.frames + 1 ≤ R.frames ∧ 8 + (maxL + 11) + rm.locals ≤ R.locals) (hrc : rm.cells = 0) (hrs : rm.slots = 0) :
    CallB R s args own idx y bytes maxL ret (Cond.code y bytes maxL ret :: BIG) rm 0 0 n ∧ (Cond.static y).before args s = true :=
  ⟨callB_of n S.2.2.2.2 (big_cons hcode) rfl hrc hrs (S.2.2.2.2 _ hini) (S.2.2.2.2 _ hl) hd hR, S.2.2.2.2 _ hi⟩
theorem fP_recv (hK : Kp G s) (hP : va_P G.1 vwCl (fW L a E) H) (hi : i ∈ L) {ci N : Nat} {C : String} {T : u_T} {fs : List Value} (he : E i = .inr (ci, fs)) (hc : vwCl[ci]? = some (C, T, N)) : ∃ cell : Cell, H[a i]? = some cell ∧ cell.vm.isStatics = false ∧ s.vm.findClass C = some cell.cls := by
  obtain ⟨q0, -, h2⟩ := fW_get (a := a) (E := E) hi
  rw [he] at h2
  exact va_recv hK.1 hP hc h2
variable {y : MethodName} {bytes : ByteArray} {n maxL idx : Nat} {ret : Option FieldType} {ws : List Cond} {rm : Room} {P P' : Heap → Prop} {A0 A1 : Nat → Prop} {b : Nat} {As : List Value} {st : List Value}
theorem r_callI {v : Int32} (S : CallFix p m c cc nL s args BIG own) (hK : Kp G s) (hP : P H) (hM : Met l y ws rm (pcG G P (.ref b :: As)) (qcI G A1 P' v) 0 0 A1) (cw : CallW R s args own y.cls idx y bytes maxL ret ws rm 0 0 n) (hr : ∃ cell : Cell, H[b]? = some cell ∧ cell.vm.isStatics = false ∧ s.vm.findClass y.cls = some cell.cls)
    (hn : As.length = n) (hl : ls.size = nL) (hst : st = As.reverse ++ .ref b :: rest) (hW : (rest.map fun v => v.category).sum ≤ 8) (hdg : decode cc pc = .ok (.invokevirtual idx, 3)) (hc : cells ≤ R.cells ∧ slots ≤ R.slots) (hS : va_S A0 H0 H locs) (hA : ∀ q, A1 q → A0 q)
    (kk : ∀ (H1 : Heap) (locs1 : List Loc), P' H1 → (∀ q : Nat, q < H.size → ¬ A1 q → H1[q]? = H[q]?) → H.size ≤ H1.size → va_S A0 H0 H1 locs1 → W p l e R s m args below meth c H1 locs1 cells slots Q (F0 m (pc + 3) ls (.int v :: rest))) : W p l e R s m args below meth c H locs cells slots Q (F0 m pc ls st) := by
  subst hst
  refine va_calli (mc := 0) (ms := 0) (va_runV (As := As) (rest := rest) S hM cw ⟨pcG_blind, hr, fun U hU hW => ⟨rfl, by rw [hU]; exact hP, hK.warm hW⟩⟩ rfl hn hl rfl (lv_room hW) hdg hc) hS (fun q _ h => hA q h) hA (fun r u t H1 locs1 ht hvm hw hB hz hk hS1 => ?_)
  cases hw
  exact kk H1 locs1 (ht ▸ hB.1) hk hz hS1
theorem r_callV (S : CallFix p m c cc nL s args BIG own) (hK : Kp G s) (hP : P H) (hM : Met l y ws rm (pcG G P (.ref b :: As)) (qcV G A1 P') 0 0 A1) (cw : CallW R s args own y.cls idx y bytes maxL ret ws rm 0 0 n) (hr : ∃ cell : Cell, H[b]? = some cell ∧ cell.vm.isStatics = false ∧ s.vm.findClass y.cls = some cell.cls)
    (hn : As.length = n) (hl : ls.size = nL) (hst : st = As.reverse ++ .ref b :: rest) (hW : (rest.map fun v => v.category).sum ≤ 8) (hdg : decode cc pc = .ok (.invokevirtual idx, 3)) (hc : cells ≤ R.cells ∧ slots ≤ R.slots) (hS : va_S A0 H0 H locs) (hA : ∀ q, A1 q → A0 q)
    (kk : ∀ (H1 : Heap) (locs1 : List Loc), P' H1 → (∀ q : Nat, q < H.size → ¬ A1 q → H1[q]? = H[q]?) → H.size ≤ H1.size → va_S A0 H0 H1 locs1 → W p l e R s m args below meth c H1 locs1 cells slots Q (F0 m (pc + 3) ls rest)) : W p l e R s m args below meth c H locs cells slots Q (F0 m pc ls st) := by
  subst hst
  refine va_callv (mc := 0) (ms := 0) (va_runV (As := As) (rest := rest) S hM cw ⟨pcG_blind, hr, fun U hU hW => ⟨rfl, by rw [hU]; exact hP, hK.warm hW⟩⟩ rfl hn hl rfl (lv_room hW) hdg hc) hS (fun q _ h => hA q h) hA (fun u t H1 locs1 ht hvm hw hB hz hk hS1 => ?_)
  exact kk H1 locs1 (ht ▸ hB.1) hk hz hS1
theorem r_callQ {v : Option Nat} (S : CallFix p m c cc nL s args BIG own) (hK : Kp G s) (hP : P H) (hM : Met l y ws rm (pcG G P (.ref b :: As)) (qcQ G A1 P' v) 0 0 A1) (cw : CallW R s args own y.cls idx y bytes maxL ret ws rm 0 0 n) (hr : ∃ cell : Cell, H[b]? = some cell ∧ cell.vm.isStatics = false ∧ s.vm.findClass y.cls = some cell.cls)
    (hn : As.length = n) (hl : ls.size = nL) (hst : st = As.reverse ++ .ref b :: rest) (hW : (rest.map fun v => v.category).sum ≤ 8) (hdg : decode cc pc = .ok (.invokevirtual idx, 3)) (hc : cells ≤ R.cells ∧ slots ≤ R.slots) (hS : va_S A0 H0 H locs) (hA : ∀ q, A1 q → A0 q)
    (kk : ∀ (H1 : Heap) (locs1 : List Loc), P' H1 → (∀ q : Nat, q < H.size → ¬ A1 q → H1[q]? = H[q]?) → H.size ≤ H1.size → va_S A0 H0 H1 locs1 → W p l e R s m args below meth c H1 locs1 cells slots Q (F0 m (pc + 3) ls (va_rf v :: rest))) : W p l e R s m args below meth c H locs cells slots Q (F0 m pc ls st) := by
  subst hst
  refine va_callq (mc := 0) (ms := 0) (va_runV (As := As) (rest := rest) S hM cw ⟨pcG_blind, hr, fun U hU hW => ⟨rfl, by rw [hU]; exact hP, hK.warm hW⟩⟩ rfl hn hl rfl (lv_room hW) hdg hc) hS (fun q _ h => hA q h) hA (fun r u t H1 locs1 ht hvm hw hB hz hk hS1 => ?_)
  cases hw
  exact kk H1 locs1 (ht ▸ hB.1) hk hz hS1
theorem r_callS {v : Int32} (S : CallFix p m c cc nL s args BIG own) (hK : Kp G s) (hP : P H) (hM : Met l y ws rm (pcG G P As) (qcI G A1 P' v) 0 0 A1) (cw : CallB R s args own idx y bytes maxL ret ws rm 0 0 n ∧ (Cond.static y).before args s = true)
    (hn : As.length = n) (hl : ls.size = nL) (hst : st = As.reverse ++ rest) (hW : (rest.map fun v => v.category).sum ≤ 8) (hdg : decode cc pc = .ok (.invokestatic idx, 3)) (hc : cells ≤ R.cells ∧ slots ≤ R.slots) (hS : va_S A0 H0 H locs) (hA : ∀ q, A1 q → A0 q)
    (kk : ∀ (H1 : Heap) (locs1 : List Loc), P' H1 → (∀ q : Nat, q < H.size → ¬ A1 q → H1[q]? = H[q]?) → H.size ≤ H1.size → va_S A0 H0 H1 locs1 → W p l e R s m args below meth c H1 locs1 cells slots Q (F0 m (pc + 3) ls (.int v :: rest))) : W p l e R s m args below meth c H locs cells slots Q (F0 m pc ls st) := by
  subst hst
  refine va_calli (mc := 0) (ms := 0) (va_runS (As := As) (rest := rest) S hM cw ⟨pcG_blind, fun U hU hW => ⟨rfl, by rw [hU]; exact hP, hK.warm hW⟩⟩ rfl hn hl rfl (lv_room hW) hdg hc) hS (fun q _ h => hA q h) hA (fun r u t H1 locs1 ht hvm hw hB hz hk hS1 => ?_)
  cases hw
  exact kk H1 locs1 (ht ▸ hB.1) hk hz hS1
theorem r_callSN {v : Int32} {host : String} (S : CallFix p m c cc nL s args BIG own) (hK : Kp G s) (hP : P H) (hM : Met l y (Cond.code y bytes maxL ret :: BIG) rm (pcG G P As) (qcI G A1 P' v) 0 0 A1) (hcode : Cond.code y bytes maxL ret ∈ BIG) (hnest : va_Nw (.methodLinkNest own idx y host) s) (hst0 : Cond.static y ∈ BIG) (hini : Cond.initialized y.cls ∈ BIG)
    (hd : y.cls ≠ "java/lang/invoke/MethodHandle" ∧ y.cls ≠ "java/lang/invoke/VarHandle" ∧ (parseMethodDescriptor y.desc).map (fun d => d.parameters.length) = some n) (hR : rm.frames + 1 ≤ R.frames ∧ 8 + (maxL + 11) + rm.locals ≤ R.locals) (hrc : rm.cells = 0) (hrs : rm.slots = 0)
    (hn : As.length = n) (hl : ls.size = nL) (hst : st = As.reverse ++ rest) (hW : (rest.map fun v => v.category).sum ≤ 8) (hdg : decode cc pc = .ok (.invokestatic idx, 3)) (hc : cells ≤ R.cells ∧ slots ≤ R.slots) (hS : va_S A0 H0 H locs) (hA : ∀ q, A1 q → A0 q)
    (kk : ∀ (H1 : Heap) (locs1 : List Loc), P' H1 → (∀ q : Nat, q < H.size → ¬ A1 q → H1[q]? = H[q]?) → H.size ≤ H1.size → va_S A0 H0 H1 locs1 → W p l e R s m args below meth c H1 locs1 cells slots Q (F0 m (pc + 3) ls (.int v :: rest))) : W p l e R s m args below meth c H locs cells slots Q (F0 m pc ls st) := by
  subst hst
  refine va_calli (mc := 0) (ms := 0) (va_runSN (As := As) (rest := rest) S hM ⟨va_cnB n S.2.2.2.2 (big_cons hcode) rfl hrc hrs hnest (S.2.2.2.2 _ hini) hd hR, S.2.2.2.2 _ hst0, trivial⟩ ⟨pcG_blind, fun U hU hW => ⟨rfl, by rw [hU]; exact hP, hK.warm hW⟩⟩ rfl hn hl rfl (lv_room hW) hdg hc) hS (fun q _ h => hA q h) hA (fun r u t H1 locs1 ht hvm hw hB hz hk hS1 => ?_)
  cases hw
  exact kk H1 locs1 (ht ▸ hB.1) hk hz hS1
/-- ends -/
theorem e_int {v v' : Int32} {ty : FieldType} (S : CallFix p m c cc nL s args BIG own) (hr : meth.sig.returnType = some ty) (hk : meth.locks = false) (hty : narrow ty (.int v) = .int v) (hK : Kp G s) (hS : va_S A s.heap H locs) (hP : P' H) (hv : v = v') (hdg : decode cc pc = .ok (.ireturn, 1)) : W p l e R s m args below meth c H locs cells slots (MQ below (qcI G A P' v') args s cells slots A) (F0 m pc ls [.int v]) :=
  W.zret S.1 S.2.1 hr hty (fun t ht hW => ⟨⟨v, (), rfl, hv, by rw [ht]; exact hP, hK.warm hW⟩, hS.F ht⟩) hS.2.2 hdg hk
theorem e_void (S : CallFix p m c cc nL s args BIG own) (hr : meth.sig.returnType = none) (hk : meth.locks = false) (hK : Kp G s) (hS : va_S A s.heap H locs) (hP : P' H) (hdg : decode cc pc = .ok (.return_, 1)) : W p l e R s m args below meth c H locs cells slots (MQ below (qcV G A P') args s cells slots A) (F0 m pc ls []) :=
  W.vret S.1 S.2.1 hr (fun t ht hW => ⟨⟨(), rfl, trivial, by rw [ht]; exact hP, hK.warm hW⟩, hS.F ht⟩) hS.2.2 hdg hk
theorem e_ref {v v' : Option Nat} {rt : FieldType} (S : CallFix p m c cc nL s args BIG own) (hr : meth.sig.returnType = some rt) (hrt : (∃ n, rt = .object n) ∨ ∃ t, rt = .array t) (hk : meth.locks = false) (hK : Kp G s) (hS : va_S A s.heap H locs) (hP : P' H) (hv : v = v') (hdg : decode cc pc = .ok (.areturn, 1)) : W p l e R s m args below meth c H locs cells slots (MQ below (qcQ G A P' v') args s cells slots A) (F0 m pc ls [va_rf v]) :=
  W.aret S.1 S.2.1 hr hrt (by cases v with | none => exact Or.inl rfl | some a => exact Or.inr ⟨a, rfl⟩) (fun t ht hW => ⟨⟨v, (), rfl, hv, by rw [ht]; exact hP, hK.warm hW⟩, hS.F ht⟩) hS.2.2 hdg hk
end RW
/-! worlds of numbered cells: cell i holds C i (M i); M: the numbers -/
def up (M : Nat → Nat → Int32) (i k : Nat) (v : Int32) : Nat → Nat → Int32 := fun i' k' => if i' = i ∧ k' = k then v else M i' k'
theorem up_same {M : Nat → Nat → Int32} {i k : Nat} {v : Int32} : up M i k v i k = v := if_pos ⟨rfl, rfl⟩
theorem up_nk {M : Nat → Nat → Int32} {i k k' : Nat} {v : Int32} (h : k' ≠ k) : up M i k v i k' = M i k' := if_neg (fun z => h z.2)
theorem up_ni {M : Nat → Nat → Int32} {i k i' k' : Nat} {v : Int32} (h : i' ≠ i) : up M i k v i' k' = M i' k' := if_neg (fun z => h z.1)
theorem up_oi {M : Nat → Nat → Int32} {i k i' : Nat} {v : Int32} (h : i' ≠ i) : up M i k v i' = M i' := funext fun _ => up_ni h
theorem up_row {M : Nat → Nat → Int32} {i k : Nat} {v : Int32} : up M i k v i = upd (M i) k v := by
  funext k'
  by_cases h : k' = k
  · subst h; simp [up, upd]
  · simp [up, upd, h]
theorem vp_lo1 {x : Int32} (h : ¬ x < 0) : 0 ≤ x.toInt := by
  have := Int32.not_lt.mp h
  simpa using Int32.le_iff_toInt_le.mp this
theorem vp_lo2 {x : Int32} (h : 0 ≤ x) : 0 ≤ x.toInt := by simpa using Int32.le_iff_toInt_le.mp h
theorem vp_hi2 {x N : Int32} {n n' : Nat} (h : x < N) (hN : N.toInt = n) (hn : n ≤ n') : x.toInt < n' := by
  have := Int32.lt_iff_toInt_lt.mp h
  omega
theorem vp_hi1 {x N : Int32} {n n' : Nat} (h : ¬ N ≤ x) (hN : N.toInt = n) (hn : n ≤ n') : x.toInt < n' := vp_hi2 (Int32.not_le.mp h) hN hn
theorem vp_of {x : Int32} {n : Nat} (h1 : 0 ≤ x.toInt) (h2 : x.toInt < n) : vp_in x n := vp_in_iff.mpr ⟨h1, h2⟩
theorem vp_lt {x : Int32} {n : Nat} (h : vp_in x n) : x.toNatClampNeg < n := Nat.not_le.mp fun q => h (Or.inr q)
theorem vp_nI {x : Int32} {n : Nat} (h : vp_in x n) : x = nI x.toNatClampNeg := by
  obtain ⟨h1, -⟩ := vp_in_iff.mp h
  obtain ⟨j, hj, rfl⟩ := nI_of (x := x) (fun z => h (Or.inl z))
  rw [nI_clamp hj]
theorem vp_pos {x : Int32} (h : 0 < x) : ¬ x = 0 := fun z => absurd h (by rw [z]; decide)
theorem vp_pos2 {x : Int32} (h : ¬ x ≤ 0) : ¬ x = 0 := fun z => h (by rw [z]; decide)
theorem pI : parseFieldDescriptor "I" = some .int := by decide +kernel
theorem pZ : parseFieldDescriptor "Z" = some .boolean := by decide +kernel
def oel {α : Type} (o : Option Nat) (x : α) (f : Nat → α) : α := match o with
  | none => x
  | some j => f j
theorem oel_n {α : Type} {o : Option Nat} {x : α} {f : Nat → α} (h : o = none) : oel o x f = x := by rw [h]; rfl
theorem oel_s {α : Type} {o : Option Nat} {j : Nat} {x : α} {f : Nat → α} (h : o = some j) : oel o x f = f j := by rw [h]; rfl
theorem z_0 : narrow .boolean (.int (0 : Int32)) = .int (0 : Int32) := rfl
theorem z_1 : narrow .boolean (.int (1 : Int32)) = .int (1 : Int32) := rfl
theorem z_ite {c : Prop} [Decidable c] {x y : Int32} (hx : narrow .boolean (.int x) = .int x) (hy : narrow .boolean (.int y) = .int y) : narrow .boolean (.int (if c then x else y)) = .int (if c then x else y) := by
  split
  · exact hx
  · exact hy
theorem z_oel {o : Option Nat} {x : Int32} {f : Nat → Int32} (hx : narrow .boolean (.int x) = .int x) (hf : ∀ j, narrow .boolean (.int (f j)) = .int (f j)) : narrow .boolean (.int (oel o x f)) = .int (oel o x f) := by
  cases o with
  | none => exact hx
  | some j => exact hf j
abbrev cF : Type := Nat → (Nat → Int32) → va_E
abbrev gP (G : kG) (n : Nat) (a : Nat → Nat) (C : cF) (M : Nat → Nat → Int32) (H : Heap) : Prop := va_P G.1 vwCl (fW (List.range n) a (fun i => C i (M i))) H
abbrev gI (n : Nat) (a : Nat → Nat) : Prop := fI (List.range n) a
abbrev gA (n : Nat) (a : Nat → Nat) : Nat → Prop := fA (List.range n) a
theorem gP_eq {G : kG} {n : Nat} {a : Nat → Nat} {C : cF} {M M' : Nat → Nat → Int32} {H : Heap} (h : M' = M) (hP : gP G n a C M H) : gP G n a C M' H := h ▸ hP
theorem rng_get {n k : Nat} {f : Nat → Value} (hk : k < n) : ((List.range n).map f)[k]? = some (f k) := by simp [hk]
theorem rng_set {n k : Nat} {f f' : Nat → Value} {v : Value} (hk : k < n) (h1 : f' k = v) (h2 : ∀ q, q ≠ k → f' q = f q) : ((List.range n).map f).set k v = (List.range n).map f' := by
  apply List.ext_getElem?
  intro q
  by_cases hq : q = k
  · subst hq
    rw [List.getElem?_set_self (by simpa using hk)]
    simp [hk, h1]
  · rw [List.getElem?_set_ne (Ne.symm hq)]
    by_cases hn : q < n
    · simp [hn, h2 q hq]
    · simp [hn]
section GW
variable {p : Program} {l : Launch} {e : Env} {R : Room} {s : State} {m : MethodId} {args : Array Value} {below : List Frame} {meth : Method} {c : Code} {H : Heap} {locs : List Loc} {cells slots : Nat} {Q : State → Prop}
variable {cc : ByteArray} {pc nL : Nat} {own : String} {ls : Array Slot} {rest : List Value} {G : kG} {A : Nat → Prop} {H0 : Heap}
variable {nC : Nat} {a : Nat → Nat} {C : cF} {M : Nat → Nat → Int32} {i : Nat}
theorem r_top {x v : Int32} (h : x = v) (kk : W p l e R s m args below meth c H locs cells slots Q (F0 m pc ls (.int v :: rest))) : W p l e R s m args below meth c H locs cells slots Q (F0 m pc ls (.int x :: rest)) := h ▸ kk
theorem g_get (S : CallFix p m c cc nL s args BIG own) (hK : Kp G s) (hP : gP G nC a C M H) (hi : i < nC) {ci N : Nat} {Cn : String} {T : u_T} {F : (Nat → Int32) → Nat → Value} (he : ∀ x, C i x = .inr (ci, (List.range N).map (F x))) (hc : vwCl[ci]? = some (Cn, T, N)) (hin : ∀ w ∈ u_ws Cn T N, w ∈ BIG) (k : Nat) (hk : k < N) {index : Nat} (hlink : Cond.fieldLink own index (T k).1 (T k).2.1 (T k).2.2.1 ∈ BIG) {v : Value} (hv : F (M i) k = v) (hdg : decode cc pc = .ok (.getfield index, 3))
    (kk : W p l e R s m args below meth c H locs cells slots Q (F0 m (pc + 3) ls (v :: rest))) : W p l e R s m args below meth c H locs cells slots Q (F0 m pc ls (.ref (a i) :: rest)) :=
  r_get S hK hP (List.mem_range.mpr hi) (he (M i)) hc hin k hk hlink (by rw [rng_get hk, hv]) hdg kk
theorem g_put (S : CallFix p m c cc nL s args BIG own) (hK : Kp G s) (hP : gP G nC a C M H) (hI : gI nC a) (hS : va_S (gA nC a) H0 H locs) (hi : i < nC) {ci N : Nat} {Cn : String} {T : u_T} {F : (Nat → Int32) → Nat → Value} (he : ∀ x, C i x = .inr (ci, (List.range N).map (F x))) (hc : vwCl[ci]? = some (Cn, T, N)) (hin : ∀ w ∈ u_ws Cn T N, w ∈ BIG) (ty0 : Nat → FieldType) (hty : ∀ k, k < N → parseFieldDescriptor (T k).2.2.1 = some (ty0 k)) (hnm : ∀ a, a < N → ∀ b, b < N → a ≠ b → (T a).2.1 ≠ (T b).2.1) (hFn : ∀ x x' q, x q = x' q → F x q = F x' q) (k : Nat) (hk : k < N) {index : Nat} (hlink : Cond.fieldLink own index (T k).1 (T k).2.1 (T k).2.2.1 ∈ BIG) (hfin : (T k).2.2.2 = false) {ty : FieldType} {v : Int32} (hd : parseFieldDescriptor (T k).2.2.1 = some ty) (hn : narrow ty (.int v) = .int v) (hfit : fits ty (.int v) = true) (hv : ∀ x, F x k = .int (x k)) (hdg : decode cc pc = .ok (.putfield index, 3))
    (kk : ∀ (H1 : Heap) (locs1 : List Loc), gP G nC a C (up M i k v) H1 → va_S (gA nC a) H0 H1 locs1 → W p l e R s m args below meth c H1 locs1 cells slots Q (F0 m (pc + 3) ls rest)) : W p l e R s m args below meth c H locs cells slots Q (F0 m pc ls (.int v :: .ref (a i) :: rest)) := by
  refine r_put S hK hP hI hS (List.mem_range.mpr hi) (he (M i)) hc hin ty0 hty hnm k hk hlink hfin hd hn hfit (by simpa using hk) hdg (E' := fun j => C j (up M i k v j)) ?_ ?_ kk
  · show C i (up M i k v i) = _
    rw [he, rng_set hk (f' := F (up M i k v i)) (by rw [hv, up_same]) (fun q hq => hFn _ _ q (up_nk hq))]
  · intro j hj
    show C j (up M i k v j) = C j (M j)
    rw [up_oi hj]
theorem g_ald {v : Int32} (S : CallFix p m c cc nL s args BIG own) (hK : Kp G s) (hP : gP G nC a C M H) (hi : i < nC) {N : Nat} (he : ∀ x, C i x = .inl (G.2.1, N, .inl x)) {x : Int32} (hin : vp_in x N) (hv : M i x.toNatClampNeg = v) (hdg : decode cc pc = .ok (.iaload, 1))
    (kk : W p l e R s m args below meth c H locs cells slots Q (F0 m (pc + 1) ls (.int v :: rest))) : W p l e R s m args below meth c H locs cells slots Q (F0 m pc ls (.int x :: .ref (a i) :: rest)) := by
  subst hv
  exact r_iald S hK hP (List.mem_range.mpr hi) (he (M i)) hin hdg kk
theorem g_aldN {v : Int32} (S : CallFix p m c cc nL s args BIG own) (hK : Kp G s) (hP : gP G nC a C M H) (hi : i < nC) {N : Nat} (he : ∀ x, C i x = .inl (G.2.1, N, .inl x)) {k : Nat} (hk : k < N) (hN : N < 2 ^ 31) (hv : M i k = v) (hdg : decode cc pc = .ok (.iaload, 1))
    (kk : W p l e R s m args below meth c H locs cells slots Q (F0 m (pc + 1) ls (.int v :: rest))) : W p l e R s m args below meth c H locs cells slots Q (F0 m pc ls (.int (nI k) :: .ref (a i) :: rest)) := by
  refine g_ald S hK hP hi he (vp_in_nI hk hN) rfl hdg ?_
  rw [nI_clamp (Nat.lt_trans hk hN), hv]
  exact kk
theorem g_cald {v : Int32} (S : CallFix p m c cc nL s args BIG own) (hK : Kp G s) (hP : gP G nC a C M H) (hi : i < nC) {N : Nat} (he : ∀ x, C i x = .inl (G.2.2.1, N, .inl x)) {x : Int32} (hin : vp_in x N) (hv : M i x.toNatClampNeg = v) (hdg : decode cc pc = .ok (.caload, 1))
    (kk : W p l e R s m args below meth c H locs cells slots Q (F0 m (pc + 1) ls (.int v :: rest))) : W p l e R s m args below meth c H locs cells slots Q (F0 m pc ls (.int x :: .ref (a i) :: rest)) := by
  subst hv
  exact r_cald S hK hP (List.mem_range.mpr hi) (he (M i)) hin hdg kk
theorem g_caldN {v : Int32} (S : CallFix p m c cc nL s args BIG own) (hK : Kp G s) (hP : gP G nC a C M H) (hi : i < nC) {N : Nat} (he : ∀ x, C i x = .inl (G.2.2.1, N, .inl x)) {k : Nat} (hk : k < N) (hN : N < 2 ^ 31) (hv : M i k = v) (hdg : decode cc pc = .ok (.caload, 1))
    (kk : W p l e R s m args below meth c H locs cells slots Q (F0 m (pc + 1) ls (.int v :: rest))) : W p l e R s m args below meth c H locs cells slots Q (F0 m pc ls (.int (nI k) :: .ref (a i) :: rest)) := by
  refine g_cald S hK hP hi he (vp_in_nI hk hN) rfl hdg ?_
  rw [nI_clamp (Nat.lt_trans hk hN), hv]
  exact kk
theorem g_ast (S : CallFix p m c cc nL s args BIG own) (hK : Kp G s) (hP : gP G nC a C M H) (hI : gI nC a) (hS : va_S (gA nC a) H0 H locs) (hi : i < nC) {N : Nat} (he : ∀ x, C i x = .inl (G.2.1, N, .inl x)) {x v : Int32} (hin : vp_in x N) (hdg : decode cc pc = .ok (.iastore, 1))
    (kk : ∀ (H1 : Heap) (locs1 : List Loc), gP G nC a C (up M i x.toNatClampNeg v) H1 → va_S (gA nC a) H0 H1 locs1 → W p l e R s m args below meth c H1 locs1 cells slots Q (F0 m (pc + 1) ls rest)) : W p l e R s m args below meth c H locs cells slots Q (F0 m pc ls (.int v :: .int x :: .ref (a i) :: rest)) := by
  refine r_iast S hK hP hI hS (List.mem_range.mpr hi) (he (M i)) hin hdg (E' := fun j => C j (up M i x.toNatClampNeg v j)) ?_ ?_ kk
  · show C i (up M i x.toNatClampNeg v i) = _
    rw [he, up_row]
  · intro j hj
    show C j (up M i x.toNatClampNeg v j) = C j (M j)
    rw [up_oi hj]
theorem g_astN (S : CallFix p m c cc nL s args BIG own) (hK : Kp G s) (hP : gP G nC a C M H) (hI : gI nC a) (hS : va_S (gA nC a) H0 H locs) (hi : i < nC) {N : Nat} (he : ∀ x, C i x = .inl (G.2.1, N, .inl x)) {k : Nat} {v : Int32} (hk : k < N) (hN : N < 2 ^ 31) (hdg : decode cc pc = .ok (.iastore, 1))
    (kk : ∀ (H1 : Heap) (locs1 : List Loc), gP G nC a C (up M i k v) H1 → va_S (gA nC a) H0 H1 locs1 → W p l e R s m args below meth c H1 locs1 cells slots Q (F0 m (pc + 1) ls rest)) : W p l e R s m args below meth c H locs cells slots Q (F0 m pc ls (.int v :: .int (nI k) :: .ref (a i) :: rest)) := by
  refine g_ast S hK hP hI hS hi he (vp_in_nI hk hN) hdg ?_
  rw [nI_clamp (Nat.lt_trans hk hN)]
  exact kk
theorem g_cast (S : CallFix p m c cc nL s args BIG own) (hK : Kp G s) (hP : gP G nC a C M H) (hI : gI nC a) (hS : va_S (gA nC a) H0 H locs) (hi : i < nC) {N : Nat} (he : ∀ x, C i x = .inl (G.2.2.1, N, .inl x)) {x v : Int32} (hin : vp_in x N) (hv : vp_nar .char v = v) (hdg : decode cc pc = .ok (.castore, 1))
    (kk : ∀ (H1 : Heap) (locs1 : List Loc), gP G nC a C (up M i x.toNatClampNeg v) H1 → va_S (gA nC a) H0 H1 locs1 → W p l e R s m args below meth c H1 locs1 cells slots Q (F0 m (pc + 1) ls rest)) : W p l e R s m args below meth c H locs cells slots Q (F0 m pc ls (.int v :: .int x :: .ref (a i) :: rest)) := by
  refine r_cast S hK hP hI hS (List.mem_range.mpr hi) (he (M i)) hin hdg (E' := fun j => C j (up M i x.toNatClampNeg v j)) ?_ ?_ kk
  · show C i (up M i x.toNatClampNeg v i) = _
    rw [he, up_row, hv]
  · intro j hj
    show C j (up M i x.toNatClampNeg v j) = C j (M j)
    rw [up_oi hj]
theorem g_alen (S : CallFix p m c cc nL s args BIG own) (hK : Kp G s) (hP : gP G nC a C M H) (hi : i < nC) {cA : ClassId} {x : vp_A} (he : C i (M i) = .inl (cA, x)) (t0 : Nat) {ty : FieldType} (ht : (kT G.2.1 G.2.2.1 G.2.2.2.1 G.2.2.2.2)[t0]? = some (cA, ty)) {v : Int32} (hv : Int32.ofNat x.1 = v) (hdg : decode cc pc = .ok (.arraylength, 1))
    (kk : W p l e R s m args below meth c H locs cells slots Q (F0 m (pc + 1) ls (.int v :: rest))) : W p l e R s m args below meth c H locs cells slots Q (F0 m pc ls (.ref (a i) :: rest)) :=
  r_alen S hK hP (List.mem_range.mpr hi) he t0 ht hv hdg kk
theorem g_bald (S : CallFix p m c cc nL s args BIG own) (hK : Kp G s) (hP : gP G nC a C M H) (hi : i < nC) {N : Nat} {f : Nat → Option Nat} (he : ∀ x, C i x = .inl (G.2.2.2.1, N, .inr (.inr (.inr (.inr f))))) {k : Nat} (hk : k < N) (hN : N < 2 ^ 31) {v : Value} (hv : va_rf (f k) = v) (hdg : decode cc pc = .ok (.aaload, 1))
    (kk : W p l e R s m args below meth c H locs cells slots Q (F0 m (pc + 1) ls (v :: rest))) : W p l e R s m args below meth c H locs cells slots Q (F0 m pc ls (.int (nI k) :: .ref (a i) :: rest)) := by
  refine r_bald S hK hP (List.mem_range.mpr hi) (he (M i)) (vp_in_nI hk hN) hdg ?_
  rw [nI_clamp (Nat.lt_trans hk hN), hv]
  exact kk
theorem g_baldI (S : CallFix p m c cc nL s args BIG own) (hK : Kp G s) (hP : gP G nC a C M H) (hi : i < nC) {N : Nat} {f : Nat → Option Nat} (he : ∀ x, C i x = .inl (G.2.2.2.1, N, .inr (.inr (.inr (.inr f))))) {x : Int32} (hin : vp_in x N) {v : Value} (hv : va_rf (f x.toNatClampNeg) = v) (hdg : decode cc pc = .ok (.aaload, 1))
    (kk : W p l e R s m args below meth c H locs cells slots Q (F0 m (pc + 1) ls (v :: rest))) : W p l e R s m args below meth c H locs cells slots Q (F0 m pc ls (.int x :: .ref (a i) :: rest)) := by
  refine r_bald S hK hP (List.mem_range.mpr hi) (he (M i)) hin hdg ?_
  rw [hv]
  exact kk
theorem r_opt {o : Option Nat} {f : Nat → Nat} (hn : o = none → W p l e R s m args below meth c H locs cells slots Q (F0 m pc ls (.null :: rest))) (hs : ∀ j : Nat, o = some j → W p l e R s m args below meth c H locs cells slots Q (F0 m pc ls (.ref (f j) :: rest))) : W p l e R s m args below meth c H locs cells slots Q (F0 m pc ls (va_rf (o.map f) :: rest)) := by
  cases h : o with
  | none => exact hn h
  | some j => exact hs j h
theorem g_recv (hK : Kp G s) (hP : gP G nC a C M H) (hi : i < nC) {ci N : Nat} {Cn : String} {T : u_T} {fs : (Nat → Int32) → List Value} (he : ∀ x, C i x = .inr (ci, fs x)) (hc : vwCl[ci]? = some (Cn, T, N)) : ∃ cell : Cell, H[a i]? = some cell ∧ cell.vm.isStatics = false ∧ s.vm.findClass Cn = some cell.cls :=
  fP_recv hK hP (List.mem_range.mpr hi) (he (M i)) hc
/-- another answer, another end, that are the same -/
theorem q_eqI {M M' : Nat → Nat → Int32} {v v' : Int32} {g : JFrame} {mc ms : Nat} {free : Addr → Prop} (hv : v' = v) (hM : M' = M) (kk : W p l e R s m args below meth c H locs cells slots (MQ below (qcI G A (gP G nC a C M) v) args s mc ms free) g) : W p l e R s m args below meth c H locs cells slots (MQ below (qcI G A (gP G nC a C M') v') args s mc ms free) g := by
  subst hv; subst hM; exact kk
theorem q_eqV {M M' : Nat → Nat → Int32} {g : JFrame} {mc ms : Nat} {free : Addr → Prop} (hM : M' = M) (kk : W p l e R s m args below meth c H locs cells slots (MQ below (qcV G A (gP G nC a C M)) args s mc ms free) g) : W p l e R s m args below meth c H locs cells slots (MQ below (qcV G A (gP G nC a C M')) args s mc ms free) g := by
  subst hM; exact kk
end GW
theorem gA_self {n : Nat} {a : Nat → Nat} : ∀ q, gA n a q → gA n a q := fun _ h => h
/-! the world of a book: 0 the object, 1 its row of bills, 2 credits, 3 taxPaid, 4 taxClosed, 5 settings, 6 their values, j + 7 bill j -/
def bF (a : Nat → Nat) (x : Nat → Int32) : Nat → Value := fun k => match k with
  | 0 => .ref (a 1)
  | 1 => .ref (a 2)
  | 2 => .ref (a 3)
  | 3 => .ref (a 4)
  | 4 => .ref (a 5)
  | q => .int (x q)
def iF (x : Nat → Int32) : Nat → Value := fun k => .int (x k)
def bC (G : kG) (a : Nat → Nat) : cF := fun i x => match i with
  | 0 => .inr (1, (List.range 8).map (bF a x))
  | 1 => .inl (G.2.2.2.1, 40, .inr (.inr (.inr (.inr (fun j => some (a (j + 7)))))))
  | 2 => .inl (G.2.1, 8, .inl x)
  | 3 => .inl (G.2.1, 100, .inl x)
  | 4 => .inl (G.2.1, 100, .inl x)
  | 5 => .inr (3, (List.range 1).map (fun _ => .ref (a 6)))
  | 6 => .inl (G.2.1, 5, .inl x)
  | _ => .inr (0, (List.range 14).map (iF x))
theorem bC0 {G : kG} {a : Nat → Nat} (x : Nat → Int32) : bC G a 0 x = .inr (1, (List.range 8).map (bF a x)) := rfl
theorem bC1 {G : kG} {a : Nat → Nat} (x : Nat → Int32) : bC G a 1 x = .inl (G.2.2.2.1, 40, .inr (.inr (.inr (.inr (fun j => some (a (j + 7))))))) := rfl
theorem bC2 {G : kG} {a : Nat → Nat} (x : Nat → Int32) : bC G a 2 x = .inl (G.2.1, 8, .inl x) := rfl
theorem bC3 {G : kG} {a : Nat → Nat} (x : Nat → Int32) : bC G a 3 x = .inl (G.2.1, 100, .inl x) := rfl
theorem bC4 {G : kG} {a : Nat → Nat} (x : Nat → Int32) : bC G a 4 x = .inl (G.2.1, 100, .inl x) := rfl
theorem bC5 {G : kG} {a : Nat → Nat} (x : Nat → Int32) : bC G a 5 x = .inr (3, (List.range 1).map ((fun _ _ => .ref (a 6) : (Nat → Int32) → Nat → Value) x)) := rfl
theorem bC6 {G : kG} {a : Nat → Nat} (x : Nat → Int32) : bC G a 6 x = .inl (G.2.1, 5, .inl x) := rfl
theorem bC7 {G : kG} {a : Nat → Nat} {j : Nat} (x : Nat → Int32) : bC G a (j + 7) x = .inr (0, (List.range 14).map (iF x)) := rfl
theorem bF_n {a : Nat → Nat} (x x' : Nat → Int32) (q : Nat) (h : x q = x' q) : bF a x q = bF a x' q := by
  unfold bF
  split <;> first | rfl | rw [h]
theorem iF_n (x x' : Nat → Int32) (q : Nat) (h : x q = x' q) : iF x q = iF x' q := by
  unfold iF
  rw [h]
abbrev bP (G : kG) (a : Nat → Nat) (b : Nat → Nat → Int32) (H : Heap) : Prop := gP G 47 a (bC G a) b H
/-! the world of a text: 0 the object, 1 its signs -/
def tF (a : Nat → Nat) (x : Nat → Int32) : Nat → Value := fun k => match k with
  | 0 => .ref (a 1)
  | q => .int (x q)
def tC (G : kG) (a : Nat → Nat) : cF := fun i x => match i with
  | 0 => .inr (4, (List.range 9).map (tF a x))
  | _ => .inl (G.2.2.1, 60, .inl x)
theorem tC0 {G : kG} {a : Nat → Nat} (x : Nat → Int32) : tC G a 0 x = .inr (4, (List.range 9).map (tF a x)) := rfl
theorem tC1 {G : kG} {a : Nat → Nat} (x : Nat → Int32) : tC G a 1 x = .inl (G.2.2.1, 60, .inl x) := rfl
theorem tF_n {a : Nat → Nat} (x x' : Nat → Int32) (q : Nat) (h : x q = x' q) : tF a x q = tF a x' q := by
  unfold tF
  split <;> first | rfl | rw [h]
abbrev tP (G : kG) (a : Nat → Nat) (t : Nat → Nat → Int32) (H : Heap) : Prop := gP G 2 a (tC G a) t H
