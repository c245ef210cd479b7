theorem dX4_init_0 : decode cX4_init 0 = .ok (.aload_n 0, 1) := by decide +kernel
theorem dX4_init_1 : decode cX4_init 1 = .ok (.invokespecial 3, 3) := by decide +kernel
theorem dX4_init_4 : decode cX4_init 4 = .ok (.aload_n 0, 1) := by decide +kernel
theorem dX4_init_5 : decode cX4_init 5 = .ok (.bipush 60, 2) := by decide +kernel
theorem dX4_init_7 : decode cX4_init 7 = .ok (.newarray .char, 2) := by decide +kernel
theorem dX4_init_9 : decode cX4_init 9 = .ok (.putfield 9, 3) := by decide +kernel
theorem dX4_init_12 : decode cX4_init 12 = .ok (.return_, 1) := by decide +kernel
def rmN (d mc ms : Nat) : Room := { frames := d, cells := mc, slots := ms, locals := 28 * d }
theorem eP_congr {G : kG} {n : Nat} {a a' : Nat → Nat} {E E' : Nat → va_E} {H : Heap} (h : eP G n a E H) (h1 : ∀ i, i < n → a' i = a i) (h2 : ∀ i, i < n → E' i = E i) : eP G n a' E' H := by
  have e : fW (List.range n) a' E' = fW (List.range n) a E := by
    unfold fW
    apply List.map_congr_left
    intro i hi
    have := List.mem_range.mp hi
    rw [h1 i this, h2 i this]
  show va_P _ _ _ _
  rw [e]
  exact h
theorem eD_one {A : Nat → Prop} {h : Nat} {E : Nat → va_E} (hA : A h) : eD A 1 (fun _ => h) E := by
  refine ⟨fun i j p q hi hj _ => ?_, fun k q hk => ?_⟩
  · have h1 := (List.getElem?_eq_some_iff.mp hi).1
    have h2 := (List.getElem?_eq_some_iff.mp hj).1
    simp [fW] at h1 h2
    omega
  · obtain ⟨i, -, rfl⟩ := fW_of hk
    exact hA
theorem n_out {h sz n : Nat} {a : Nat → Nat} {E : Nat → va_E} (hD : eD (nA h sz) n a E) (h0 : a 0 = h) : ∀ i, 0 < i → i < n → sz ≤ a i := fun i hi hn => by
  rcases eD_A hD hn with e | e
  · have := (eD_inj hD).2 i (List.mem_range.mpr hn) 0 (List.mem_range.mpr (by omega)) (e.trans h0.symm)
    omega
  · exact e
section NW2
variable {p : Program} {l : Launch} {e : Env} {R : Room} {s : State} {m : MethodId} {args : Array Value} {below : List Frame} {meth : Method} {c : Code} {H : Heap} {locs : List Loc} {cells slots : Nat} {Q : State → Prop}
variable {cc : ByteArray} {pc nL : Nat} {own : String} {ls : Array Slot} {rest : List Value} {G : kG} {A : Nat → Prop} {H0 : Heap}
variable {n : Nat} {a : Nat → Nat} {E : Nat → va_E}
theorem e_iast (S : CallFix p m c cc nL s args BIG own) (hK : Kp G s) (hP : eP G n a E H) (hD : eD A n a E) (hS : va_S A H0 H locs) {i : Nat} (hi : i < n) {N : Nat} {f : Nat → Int32} (he : E i = .inl (G.2.1, N, .inl f)) {x v : Int32} (k : Nat) (hx' : x = nI k) (hk : k < N) (hN : N < 2 ^ 31) (hdg : decode cc pc = .ok (.iastore, 1))
    (kk : ∀ (H1 : Heap) (locs1 : List Loc), eP G n a (ue E i (.inl (G.2.1, N, .inl (upd f k v)))) H1 → eD A n a (ue E i (.inl (G.2.1, N, .inl (upd f k v)))) → va_S A H0 H1 locs1 → W p l e R s m args below meth c H1 locs1 cells slots Q (F0 m (pc + 1) ls rest)) : W p l e R s m args below meth c H locs cells slots Q (F0 m pc ls (.int v :: .int x :: .ref (a i) :: rest)) := by
  obtain ⟨hx, hb, hml, hown, hts⟩ := S
  subst hx'
  refine va_iast hx hb hK.1 hP hD hS i 0 (by rw [eW_get hi, he]) rfl (vp_in_nI hk hN) hdg (fun H1 locs1 h1 h2 h3 => ?_)
  rw [eW_set hi, nI_clamp (Nat.lt_trans hk hN)] at h1 h2
  exact kk H1 locs1 h1 h2 h3
theorem e_get (S : CallFix p m c cc nL s args BIG own) (hK : Kp G s) (hP : eP G n a E H) {i : Nat} (hi : i < n) {ci N : Nat} {Cn : String} {T : u_T} {fs : List Value} (he : E i = .inr (ci, fs)) (hc : vwCl[ci]? = some (Cn, T, N)) (hin : ∀ w ∈ u_ws Cn T N, w ∈ BIG) (k : Nat) (hk : k < N) {index : Nat} (hlink : Cond.fieldLink own index (T k).1 (T k).2.1 (T k).2.2.1 ∈ BIG) {v : Value} (hv : fs[k]? = some v) (hdg : decode cc pc = .ok (.getfield index, 3))
    (kk : W p l e R s m args below meth c H locs cells slots Q (F0 m (pc + 3) ls (v :: rest))) : W p l e R s m args below meth c H locs cells slots Q (F0 m pc ls (.ref (a i) :: rest)) :=
  r_get S hK hP (List.mem_range.mpr hi) he hc hin k hk hlink hv hdg kk
end NW2

def iI : Nat → Int32 := fun k => if k = 0 then -1 else if k = 13 then -5 else 0
def sI0 : Nat → Int32 := upd (upd (upd (upd (upd (fun _ => 0) 0 10) 1 2) 2 7) 3 5) 4 0
def enI (_ : kG) (_ : Nat → Nat) : Nat → va_E := fun _ => .inr (0, (List.range 14).map (iF iI))
def enS (G : kG) (a : Nat → Nat) : Nat → va_E := fun i => match i with
  | 0 => .inr (3, [.ref (a 1)])
  | _ => .inl (G.2.1, 5, .inl sI0)
def enT (G : kG) (a : Nat → Nat) : Nat → va_E := fun i => tC G a i (fun _ => 0)

set_option maxHeartbeats 4000000 in
set_option maxRecDepth 100000 in
theorem c_X0_init (l : Launch) (G : kG) (h sz : Nat) : Met l yX0_init (Cond.code yX0_init cX0_init 1 none :: BIG) (rmN 1 0 0) (pcN G (fun H => eP G 1 (fun _ => h) (fun _ => .inr (0, [.int 0, .int 0, .int 0, .int 0, .int 0, .int 0, .int 0, .int 0, .int 0, .int 0, .int 0, .int 0, .int 0, .int 0])) H) sz [.ref h]) (qcV G (nA h sz) (fun H => ∃ a : Nat → Nat, a 0 = h ∧ gI 1 a ∧ (∀ i, 0 < i → i < 1 → sz ≤ a i) ∧ eP G 1 a (enI G a) H)) 0 0 (nA h sz) := by
  refine m_startN (by decide) (Nat.le_of_ble_eq_true rfl) ?_
  intro p e s m args below meth c S hr hlk hnm hP hK hz hO ls hl
  subst hz
  have hx := S.1
  have hb := S.2.1
  have hA : ∀ q : Nat, s.heap.size ≤ q → nA h s.heap.size q := fun q z => Or.inr z
  have hS : va_S (nA h s.heap.size) s.heap s.heap [] := va_S.rf
  have hD : eD (nA h s.heap.size) 1 (fun _ => h) (fun _ => .inr (0, [.int 0, .int 0, .int 0, .int 0, .int 0, .int 0, .int 0, .int 0, .int 0, .int 0, .int 0, .int 0, .int 0, .int 0])) := eD_one (Or.inl rfl)
  have hl : lv_has ls 1 [(0, .ref h)] := hl
  refine lv_aload_n hx hb dX0_init_0 rfl (lv_at hl 0 rfl) ?_
  refine e_obj S hl.1 k_45 k_7 k_8 dX0_init_1 (Nat.le_of_ble_eq_true rfl) (Nat.le_of_ble_eq_true rfl) ?_
  refine lv_aload_n hx hb dX0_init_4 rfl (lv_at hl 0 rfl) ?_
  refine lv_iconst (v := -1) hx hb dX0_init_5 (by decide) ?_
  refine e_put S hK hP hD hS (i := 0) (by decide) rfl rfl inlX0 tyX0 tyX0_ok nmX0 0 (by decide) k_46 rfl pI rfl rfl (Nat.le_of_ble_eq_true rfl) dX0_init_6 (fun H locs hP hD hS => ?_)
  refine lv_aload_n hx hb dX0_init_9 rfl (lv_at hl 0 rfl) ?_
  refine lv_bipush (v := -5) hx hb dX0_init_10 (by decide) ?_
  refine e_put S hK hP hD hS (i := 0) (by decide) rfl rfl inlX0 tyX0 tyX0_ok nmX0 13 (by decide) k_47 rfl pI rfl rfl (Nat.le_of_ble_eq_true rfl) dX0_init_12 (fun H locs hP hD hS => ?_)
  refine e_void S hr hlk hK hS (P' := fun H => ∃ a : Nat → Nat, a 0 = h ∧ gI 1 a ∧ (∀ i, 0 < i → i < 1 → s.heap.size ≤ a i) ∧ eP G 1 a (enI G a) H) ⟨(fun _ => h), rfl, eD_inj hD, n_out hD rfl, eP_congr hP (fun _ _ => rfl) (fun i hi => ?_)⟩ dX0_init_15
  rcases (show i = 0 by omega) with rfl
  · rfl

set_option maxHeartbeats 4000000 in
set_option maxRecDepth 100000 in
theorem c_X3_init (l : Launch) (G : kG) (h sz : Nat) : Met l yX3_init (Cond.code yX3_init cX3_init 1 none :: BIG) (rmN 1 1 5) (pcN G (fun H => eP G 1 (fun _ => h) (fun _ => .inr (3, [.null])) H) sz [.ref h]) (qcV G (nA h sz) (fun H => ∃ a : Nat → Nat, a 0 = h ∧ gI 2 a ∧ (∀ i, 0 < i → i < 2 → sz ≤ a i) ∧ eP G 2 a (enS G a) H)) 1 5 (nA h sz) := by
  refine m_startN (by decide) (Nat.le_of_ble_eq_true rfl) ?_
  intro p e s m args below meth c S hr hlk hnm hP hK hz hO ls hl
  subst hz
  have hx := S.1
  have hb := S.2.1
  have hA : ∀ q : Nat, s.heap.size ≤ q → nA h s.heap.size q := fun q z => Or.inr z
  have hS : va_S (nA h s.heap.size) s.heap s.heap [] := va_S.rf
  have hD : eD (nA h s.heap.size) 1 (fun _ => h) (fun _ => .inr (3, [.null])) := eD_one (Or.inl rfl)
  have hl : lv_has ls 1 [(0, .ref h)] := hl
  refine lv_aload_n hx hb dX3_init_0 rfl (lv_at hl 0 rfl) ?_
  refine e_obj S hl.1 k_41 k_7 k_8 dX3_init_1 (Nat.le_of_ble_eq_true rfl) (Nat.le_of_ble_eq_true rfl) ?_
  refine lv_aload_n hx hb dX3_init_4 rfl (lv_at hl 0 rfl) ?_
  refine lv_iconst (v := 5) hx hb dX3_init_5 (by decide) ?_
  refine e_newi S hK hP hD hS hA k_29 (N := 5) (by decide) (by decide) (Nat.le_of_ble_eq_true rfl) (show 0 + 1 ≤ 1 by omega) (show 0 + 5 ≤ 5 by omega) dX3_init_6 (fun q1 H hP hD hS => ?_)
  refine lv_dup hx hb dX3_init_8 rfl ?_
  refine lv_iconst (v := 0) hx hb dX3_init_9 (by decide) ?_
  refine lv_bipush (v := 10) hx hb dX3_init_10 (by decide) ?_
  refine e_iast S hK hP hD hS (i := 1) (by decide) rfl 0 (by decide) (by decide) (by decide) dX3_init_12 (fun H locs hP hD hS => ?_)
  refine lv_dup hx hb dX3_init_13 rfl ?_
  refine lv_iconst (v := 1) hx hb dX3_init_14 (by decide) ?_
  refine lv_iconst (v := 2) hx hb dX3_init_15 (by decide) ?_
  refine e_iast S hK hP hD hS (i := 1) (by decide) rfl 1 (by decide) (by decide) (by decide) dX3_init_16 (fun H locs hP hD hS => ?_)
  refine lv_dup hx hb dX3_init_17 rfl ?_
  refine lv_iconst (v := 2) hx hb dX3_init_18 (by decide) ?_
  refine lv_bipush (v := 7) hx hb dX3_init_19 (by decide) ?_
  refine e_iast S hK hP hD hS (i := 1) (by decide) rfl 2 (by decide) (by decide) (by decide) dX3_init_21 (fun H locs hP hD hS => ?_)
  refine lv_dup hx hb dX3_init_22 rfl ?_
  refine lv_iconst (v := 3) hx hb dX3_init_23 (by decide) ?_
  refine lv_iconst (v := 5) hx hb dX3_init_24 (by decide) ?_
  refine e_iast S hK hP hD hS (i := 1) (by decide) rfl 3 (by decide) (by decide) (by decide) dX3_init_25 (fun H locs hP hD hS => ?_)
  refine lv_dup hx hb dX3_init_26 rfl ?_
  refine lv_iconst (v := 4) hx hb dX3_init_27 (by decide) ?_
  refine lv_iconst (v := 0) hx hb dX3_init_28 (by decide) ?_
  refine e_iast S hK hP hD hS (i := 1) (by decide) rfl 4 (by decide) (by decide) (by decide) dX3_init_29 (fun H locs hP hD hS => ?_)
  refine e_putF S hK hP hD hS hnm (i := 0) (by decide) rfl rfl inlX3 tyX3 tyX3_ok nmX3 0 (by decide) k_42 rfl rfl (ty := .array .int) (by decide +kernel) rfl rfl (Nat.le_of_ble_eq_true rfl) dX3_init_30 (fun H locs hP hD hS => ?_)
  refine e_void S hr hlk hK hS (P' := fun H => ∃ a : Nat → Nat, a 0 = h ∧ gI 2 a ∧ (∀ i, 0 < i → i < 2 → s.heap.size ≤ a i) ∧ eP G 2 a (enS G a) H) ⟨(aw (fun _ => h) 1 q1), rfl, eD_inj hD, n_out hD rfl, eP_congr hP (fun _ _ => rfl) (fun i hi => ?_)⟩ dX3_init_33
  rcases (show i = 0 ∨ i = 1 by omega) with rfl | rfl
  · rfl
  · rfl

set_option maxHeartbeats 4000000 in
set_option maxRecDepth 100000 in
theorem c_X4_init (l : Launch) (G : kG) (h sz : Nat) : Met l yX4_init (Cond.code yX4_init cX4_init 1 none :: BIG) (rmN 1 1 60) (pcN G (fun H => eP G 1 (fun _ => h) (fun _ => .inr (4, [.null, .int 0, .int 0, .int 0, .int 0, .int 0, .int 0, .int 0, .int 0])) H) sz [.ref h]) (qcV G (nA h sz) (fun H => ∃ a : Nat → Nat, a 0 = h ∧ gI 2 a ∧ (∀ i, 0 < i → i < 2 → sz ≤ a i) ∧ eP G 2 a (enT G a) H)) 1 60 (nA h sz) := by
  refine m_startN (by decide) (Nat.le_of_ble_eq_true rfl) ?_
  intro p e s m args below meth c S hr hlk hnm hP hK hz hO ls hl
  subst hz
  have hx := S.1
  have hb := S.2.1
  have hA : ∀ q : Nat, s.heap.size ≤ q → nA h s.heap.size q := fun q z => Or.inr z
  have hS : va_S (nA h s.heap.size) s.heap s.heap [] := va_S.rf
  have hD : eD (nA h s.heap.size) 1 (fun _ => h) (fun _ => .inr (4, [.null, .int 0, .int 0, .int 0, .int 0, .int 0, .int 0, .int 0, .int 0])) := eD_one (Or.inl rfl)
  have hl : lv_has ls 1 [(0, .ref h)] := hl
  refine lv_aload_n hx hb dX4_init_0 rfl (lv_at hl 0 rfl) ?_
  refine e_obj S hl.1 k_57 k_7 k_8 dX4_init_1 (Nat.le_of_ble_eq_true rfl) (Nat.le_of_ble_eq_true rfl) ?_
  refine lv_aload_n hx hb dX4_init_4 rfl (lv_at hl 0 rfl) ?_
  refine lv_bipush (v := 60) hx hb dX4_init_5 (by decide) ?_
  refine e_newc S hK hP hD hS hA k_58 (N := 60) (by decide) (by decide) (Nat.le_of_ble_eq_true rfl) (show 0 + 1 ≤ 1 by omega) (show 0 + 60 ≤ 60 by omega) dX4_init_7 (fun q1 H hP hD hS => ?_)
  refine e_putF S hK hP hD hS hnm (i := 0) (by decide) rfl rfl inlX4 tyX4 tyX4_ok nmX4 0 (by decide) k_59 rfl rfl (ty := .array .char) (by decide +kernel) rfl rfl (Nat.le_of_ble_eq_true rfl) dX4_init_9 (fun H locs hP hD hS => ?_)
  refine e_void S hr hlk hK hS (P' := fun H => ∃ a : Nat → Nat, a 0 = h ∧ gI 2 a ∧ (∀ i, 0 < i → i < 2 → s.heap.size ≤ a i) ∧ eP G 2 a (enT G a) H) ⟨(aw (fun _ => h) 1 q1), rfl, eD_inj hD, n_out hD rfl, eP_congr hP (fun _ _ => rfl) (fun i hi => ?_)⟩ dX4_init_12
  rcases (show i = 0 ∨ i = 1 by omega) with rfl | rfl
  · rfl
  · rfl
