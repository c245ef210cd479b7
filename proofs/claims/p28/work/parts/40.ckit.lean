/-! the class' whole world: seven books, the object, its history, its text -/
/-- which book stands where (0 now, 1 spare, 2.. the history's), and the pages of numbers: a book each, 7 the object, the history and its row, 8 the text -/
abbrev CS : Type := (Nat → Nat) × (Nat → Nat → Nat → Int32)
def upP (B : Nat → Nat → Nat → Int32) (r : Nat) (b : Nat → Nat → Int32) : Nat → Nat → Nat → Int32 := fun q => if q = r then b else B q
def upR (R : Nat → Nat) (k v : Nat) : Nat → Nat := fun q => if q = k then v else R q
theorem upP_same {B : Nat → Nat → Nat → Int32} {r : Nat} {b : Nat → Nat → Int32} : upP B r b r = b := if_pos rfl
theorem upP_ne {B : Nat → Nat → Nat → Int32} {r q : Nat} {b : Nat → Nat → Int32} (h : q ≠ r) : upP B r b q = B q := if_neg h
theorem upP_self {B : Nat → Nat → Nat → Int32} {r : Nat} : upP B r (B r) = B := by
  funext q
  by_cases h : q = r
  · subst h; exact upP_same
  · exact upP_ne h
theorem upR_same {R : Nat → Nat} {k v : Nat} : upR R k v k = v := if_pos rfl
theorem upR_ne {R : Nat → Nat} {k v q : Nat} (h : q ≠ k) : upR R k v q = R q := if_neg h
def zB (z : CS) (r : Nat) (b : Nat → Nat → Int32) : CS := (z.1, upP z.2 r b)
def zR (z : CS) (k v : Nat) : CS := (upR z.1 k v, z.2)
def RI (R : Nat → Nat) : Prop := ∀ k, k < 6 → R k < 7
def fl (B : Nat → Nat → Nat → Int32) : Nat → Nat → Int32 := fun i => if i < 332 then B (i / 47) (i % 47) else B 8 (i - 332)
def cF0 (a : Nat → Nat) (R : Nat → Nat) (x : Nat → Int32) : Nat → Value := fun k => match k with
  | 0 => .ref (a (47 * R 0))
  | 1 => .ref (a (47 * R 1))
  | 2 => .ref (a (47 * 2))
  | 4 => .ref (a 330)
  | 5 => .ref (a 332)
  | q => .int (x q)
def hF (a : Nat → Nat) (x : Nat → Int32) : Nat → Value := fun k => match k with
  | 0 => .ref (a 331)
  | q => .int (x q)
def cCo (G : kG) (a : Nat → Nat) (R : Nat → Nat) : cF := fun i x => match i with
  | 0 => .inr (5, (List.range 9).map (cF0 a R x))
  | 1 => .inr (2, (List.range 2).map (hF a x))
  | 2 => .inl (G.2.2.2.2, 4, .inr (.inr (.inr (.inr (fun j => some (a (47 * R (2 + j))))))))
  | 3 => .inr (4, (List.range 9).map (tF (fun t => a (332 + t)) x))
  | _ => .inl (G.2.2.1, 60, .inl x)
def cC (G : kG) (a : Nat → Nat) (R : Nat → Nat) : cF := fun i x => if i < 329 then bC G (fun t => a (47 * (i / 47) + t)) (i % 47) x else cCo G a R (i - 329) x
theorem cC_b {G : kG} {a R : Nat → Nat} {r t : Nat} (hr : r < 7) (ht : t < 47) (x : Nat → Int32) : cC G a R (47 * r + t) x = bC G (fun t' => a (47 * r + t')) t x := by
  unfold cC
  rw [if_pos (by omega), show (47 * r + t) / 47 = r by omega, show (47 * r + t) % 47 = t by omega]
theorem cC_o {G : kG} {a R : Nat → Nat} {i : Nat} (x : Nat → Int32) : cC G a R (329 + i) x = cCo G a R i x := by
  unfold cC
  rw [if_neg (by omega), show 329 + i - 329 = i by omega]
theorem cC0 {G : kG} {a R : Nat → Nat} (x : Nat → Int32) : cC G a R 329 x = .inr (5, (List.range 9).map (cF0 a R x)) := cC_o (i := 0) x
theorem cC1 {G : kG} {a R : Nat → Nat} (x : Nat → Int32) : cC G a R 330 x = .inr (2, (List.range 2).map (hF a x)) := cC_o (i := 1) x
theorem cC2 {G : kG} {a R : Nat → Nat} (x : Nat → Int32) : cC G a R 331 x = .inl (G.2.2.2.2, 4, .inr (.inr (.inr (.inr (fun j => some (a (47 * R (2 + j)))))))) := cC_o (i := 2) x
theorem cC3 {G : kG} {a R : Nat → Nat} (x : Nat → Int32) : cC G a R 332 x = .inr (4, (List.range 9).map (tF (fun t => a (332 + t)) x)) := cC_o (i := 3) x
theorem cC4 {G : kG} {a R : Nat → Nat} (x : Nat → Int32) : cC G a R 333 x = .inl (G.2.2.1, 60, .inl x) := cC_o (i := 4) x
theorem fl_b {B : Nat → Nat → Nat → Int32} {r t : Nat} (hr : r < 7) (ht : t < 47) : fl B (47 * r + t) = B r t := by
  unfold fl
  rw [if_pos (by omega), show (47 * r + t) / 47 = r by omega, show (47 * r + t) % 47 = t by omega]
theorem fl_7 {B : Nat → Nat → Nat → Int32} {t : Nat} (ht : t < 3) : fl B (329 + t) = B 7 t := by
  unfold fl
  rw [if_pos (by omega), show (329 + t) / 47 = 7 by omega, show (329 + t) % 47 = t by omega]
theorem fl_8 {B : Nat → Nat → Nat → Int32} {t : Nat} : fl B (332 + t) = B 8 t := by
  unfold fl
  rw [if_neg (by omega), show 332 + t - 332 = t by omega]
theorem fl_put7 {B : Nat → Nat → Nat → Int32} {t k : Nat} {v : Int32} (ht : t < 3) : up (fl B) (329 + t) k v = fl (upP B 7 (up (B 7) t k v)) := by
  funext i q
  by_cases h : i < 332
  · by_cases h7 : i / 47 = 7
    · obtain ⟨s, hs, rfl⟩ : ∃ s, s < 3 ∧ i = 329 + s := ⟨i - 329, by omega, by omega⟩
      rw [fl_7 hs, upP_same]
      by_cases e : s = t
      · subst e
        by_cases e2 : q = k
        · subst e2; rw [up_same, up_same]
        · rw [up_nk e2, up_nk e2, fl_7 hs]
      · rw [up_ni (by omega), up_ni e, fl_7 hs]
    · rw [up_ni (by omega)]
      unfold fl
      rw [if_pos h, if_pos h, upP_ne h7]
  · rw [up_ni (by omega)]
    unfold fl
    rw [if_neg h, if_neg h, upP_ne (by decide)]
theorem fl_put8 {B : Nat → Nat → Nat → Int32} {t k : Nat} {v : Int32} : up (fl B) (332 + t) k v = fl (upP B 8 (up (B 8) t k v)) := by
  funext i q
  by_cases h : i < 332
  · rw [up_ni (by omega)]
    unfold fl
    rw [if_pos h, if_pos h, upP_ne (by omega)]
  · obtain ⟨s, rfl⟩ : ∃ s, i = 332 + s := ⟨i - 332, by omega⟩
    rw [fl_8, upP_same]
    by_cases e : s = t
    · subst e
      by_cases e2 : q = k
      · subst e2; rw [up_same, up_same]
      · rw [up_nk e2, up_nk e2, fl_8]
    · rw [up_ni (by omega), up_ni e, fl_8]
abbrev cP (G : kG) (a : Nat → Nat) (z : CS) (H : Heap) : Prop := gP G 334 a (cC G a z.1) (fl z.2) H
theorem cP_eq {G : kG} {a : Nat → Nat} {z z' : CS} {H : Heap} (h : z' = z) (hP : cP G a z H) : cP G a z' H := h ▸ hP
theorem cP_at {G : kG} {a : Nat → Nat} {z : CS} {H : Heap} (hP : cP G a z H) {i : Nat} (hi : i < 334) : va_at G.1 vwCl (a i, cC G a z.1 i (fl z.2 i)) H := fP_at hP (List.mem_range.mpr hi)
theorem cP_book {G : kG} {a : Nat → Nat} {z : CS} {H : Heap} {r : Nat} (hP : cP G a z H) (hr : r < 7) : bP G (fun t => a (47 * r + t)) (z.2 r) H := by
  refine fP_of fun t ht => ?_
  have ht := List.mem_range.mp ht
  have h := cP_at hP (i := 47 * r + t) (by omega)
  rw [cC_b hr ht, fl_b hr ht] at h
  exact h
theorem cP_text {G : kG} {a : Nat → Nat} {z : CS} {H : Heap} (hP : cP G a z H) : tP G (fun t => a (332 + t)) (z.2 8) H := by
  refine fP_of fun t ht => ?_
  have ht := List.mem_range.mp ht
  have h := cP_at hP (i := 332 + t) (by omega)
  rw [fl_8] at h
  rcases (show t = 0 ∨ t = 1 by omega) with rfl | rfl
  · rw [cC3] at h; exact h
  · rw [cC4] at h; exact h
theorem gI_book {a : Nat → Nat} {r : Nat} (hI : gI 334 a) (hr : r < 7) : gI 47 (fun t => a (47 * r + t)) := by
  refine ⟨List.nodup_range, fun i hi j hj h => ?_⟩
  have hi := List.mem_range.mp hi
  have hj := List.mem_range.mp hj
  have := hI.2 (47 * r + i) (List.mem_range.mpr (by omega)) (47 * r + j) (List.mem_range.mpr (by omega)) h
  omega
theorem gI_text {a : Nat → Nat} (hI : gI 334 a) : gI 2 (fun t => a (332 + t)) := by
  refine ⟨List.nodup_range, fun i hi j hj h => ?_⟩
  have hi := List.mem_range.mp hi
  have hj := List.mem_range.mp hj
  have := hI.2 (332 + i) (List.mem_range.mpr (by omega)) (332 + j) (List.mem_range.mpr (by omega)) h
  omega
theorem gA_book {a : Nat → Nat} {r q : Nat} (hr : r < 7) (h : gA 47 (fun t => a (47 * r + t)) q) : gA 334 a q := by
  obtain ⟨t, ht, e⟩ := h
  have ht := List.mem_range.mp ht
  exact ⟨47 * r + t, List.mem_range.mpr (by omega), e⟩
theorem gA_text {a : Nat → Nat} {q : Nat} (h : gA 2 (fun t => a (332 + t)) q) : gA 334 a q := by
  obtain ⟨t, ht, e⟩ := h
  have ht := List.mem_range.mp ht
  exact ⟨332 + t, List.mem_range.mpr (by omega), e⟩
theorem cP_join {G : kG} {a : Nat → Nat} {z : CS} {H H1 : Heap} {r : Nat} {b : Nat → Nat → Int32} (hI : gI 334 a) (hr : r < 7) (hP : cP G a z H) (hB : bP G (fun t => a (47 * r + t)) b H1) (hk : ∀ q : Nat, q < H.size → ¬ gA 47 (fun t => a (47 * r + t)) q → H1[q]? = H[q]?) : cP G a (zB z r b) H1 := by
  refine fP_of fun i hi => ?_
  have hi := List.mem_range.mp hi
  by_cases h : i / 47 = r
  · obtain ⟨t, ht, rfl⟩ : ∃ t, t < 47 ∧ i = 47 * r + t := ⟨i % 47, by omega, by omega⟩
    have h2 := fP_at hB (List.mem_range.mpr ht)
    show va_at G.1 vwCl (a (47 * r + t), cC G a z.1 (47 * r + t) (fl (upP z.2 r b) (47 * r + t))) H1
    rw [cC_b hr ht, fl_b hr ht, upP_same]
    exact h2
  · have h2 := cP_at hP hi
    have e : fl (upP z.2 r b) i = fl z.2 i := by
      unfold fl
      by_cases h3 : i < 332
      · rw [if_pos h3, if_pos h3, upP_ne h]
      · rw [if_neg h3, if_neg h3, upP_ne (by omega)]
    show va_at G.1 vwCl (a i, cC G a z.1 i (fl (upP z.2 r b) i)) H1
    rw [e]
    refine h2.kept (hk _ h2.lt (fun z => ?_))
    obtain ⟨t, ht, e2⟩ := z
    have ht := List.mem_range.mp ht
    have := hI.2 (47 * r + t) (List.mem_range.mpr (by omega)) i (List.mem_range.mpr hi) e2
    omega
theorem cP_join0 {G : kG} {a : Nat → Nat} {z : CS} {H H1 : Heap} {r : Nat} (hI : gI 334 a) (hr : r < 7) (hP : cP G a z H) (hB : bP G (fun t => a (47 * r + t)) (z.2 r) H1) (hk : ∀ q : Nat, q < H.size → ¬ gA 47 (fun t => a (47 * r + t)) q → H1[q]? = H[q]?) : cP G a z H1 := by
  have h := cP_join hI hr hP hB hk
  unfold zB at h
  rw [upP_self] at h
  exact h
theorem cP_joinT {G : kG} {a : Nat → Nat} {z : CS} {H H1 : Heap} {b : Nat → Nat → Int32} (hI : gI 334 a) (hP : cP G a z H) (hB : tP G (fun t => a (332 + t)) b H1) (hk : ∀ q : Nat, q < H.size → ¬ gA 2 (fun t => a (332 + t)) q → H1[q]? = H[q]?) : cP G a (zB z 8 b) H1 := by
  refine fP_of fun i hi => ?_
  have hi := List.mem_range.mp hi
  by_cases h : 332 ≤ i
  · obtain ⟨t, ht, rfl⟩ : ∃ t, t < 2 ∧ i = 332 + t := ⟨i - 332, by omega, by omega⟩
    have h2 := fP_at hB (List.mem_range.mpr ht)
    show va_at G.1 vwCl (a (332 + t), cC G a z.1 (332 + t) (fl (upP z.2 8 b) (332 + t))) H1
    rw [fl_8, upP_same]
    rcases (show t = 0 ∨ t = 1 by omega) with rfl | rfl
    · rw [show 332 + 0 = 332 from rfl, cC3]; exact h2
    · rw [show 332 + 1 = 333 from rfl, cC4]; exact h2
  · have h2 := cP_at hP hi
    have e : fl (upP z.2 8 b) i = fl z.2 i := by
      unfold fl
      rw [if_pos (by omega), if_pos (by omega), upP_ne (by omega)]
    show va_at G.1 vwCl (a i, cC G a z.1 i (fl (upP z.2 8 b) i)) H1
    rw [e]
    refine h2.kept (hk _ h2.lt (fun z => ?_))
    obtain ⟨t, ht, e2⟩ := z
    have ht := List.mem_range.mp ht
    have := hI.2 (332 + t) (List.mem_range.mpr (by omega)) i (List.mem_range.mpr hi) e2
    omega
theorem cP_joinT0 {G : kG} {a : Nat → Nat} {z : CS} {H H1 : Heap} (hI : gI 334 a) (hP : cP G a z H) (hB : tP G (fun t => a (332 + t)) (z.2 8) H1) (hk : ∀ q : Nat, q < H.size → ¬ gA 2 (fun t => a (332 + t)) q → H1[q]? = H[q]?) : cP G a z H1 := by
  have h := cP_joinT hI hP hB hk
  unfold zB at h
  rw [upP_self] at h
  exact h
theorem cF0_n {a R : Nat → Nat} (x x' : Nat → Int32) (q : Nat) (h : x q = x' q) : cF0 a R x q = cF0 a R x' q := by
  unfold cF0
  split <;> first | rfl | rw [h]
theorem hF_n {a : Nat → Nat} (x x' : Nat → Int32) (q : Nat) (h : x q = x' q) : hF a x q = hF a x' q := by
  unfold hF
  split <;> first | rfl | rw [h]
section CW
variable {p : Program} {l : Launch} {e : Env} {R : Room} {s : State} {m : MethodId} {args : Array Value} {below : List Frame} {meth : Method} {c : Code} {H : Heap} {locs : List Loc} {cells slots : Nat} {Q : State → Prop}
variable {cc : ByteArray} {pc nL : Nat} {own : String} {ls : Array Slot} {rest : List Value} {G : kG} {A : Nat → Prop} {H0 : Heap}
variable {a : Nat → Nat} {z : CS}
/-- an int field of the object or of the history -/
theorem c_put7 {t : Nat} (ht : t < 3) (S : CallFix p m c cc nL s args BIG own) (hK : Kp G s) (hP : cP G a z H) (hI : gI 334 a) (hS : va_S (gA 334 a) H0 H locs) {ci N : Nat} {Cn : String} {T : u_T} {F : (Nat → Int32) → Nat → Value} (he : ∀ x, cC G a z.1 (329 + t) x = .inr (ci, (List.range N).map (F x))) (hc : vwCl[ci]? = some (Cn, T, N)) (hin : ∀ w ∈ u_ws Cn T N, w ∈ BIG) (ty0 : Nat → FieldType) (hty : ∀ k, k < N → parseFieldDescriptor (T k).2.2.1 = some (ty0 k)) (hnm : ∀ a, a < N → ∀ b, b < N → a ≠ b → (T a).2.1 ≠ (T b).2.1) (hFn : ∀ x x' q, x q = x' q → F x q = F x' q) (k : Nat) (hk : k < N) {index : Nat} (hlink : Cond.fieldLink own index (T k).1 (T k).2.1 (T k).2.2.1 ∈ BIG) (hfin : (T k).2.2.2 = false) {ty : FieldType} {v : Int32} (hd : parseFieldDescriptor (T k).2.2.1 = some ty) (hn : narrow ty (.int v) = .int v) (hfit : fits ty (.int v) = true) (hv : ∀ x, F x k = .int (x k)) (hdg : decode cc pc = .ok (.putfield index, 3))
    (kk : ∀ (H1 : Heap) (locs1 : List Loc), cP G a (zB z 7 (up (z.2 7) t k v)) H1 → va_S (gA 334 a) H0 H1 locs1 → W p l e R s m args below meth c H1 locs1 cells slots Q (F0 m (pc + 3) ls rest)) : W p l e R s m args below meth c H locs cells slots Q (F0 m pc ls (.int v :: .ref (a (329 + t)) :: rest)) := by
  refine g_put S hK hP hI hS (i := 329 + t) (by omega) he hc hin ty0 hty hnm hFn k hk hlink hfin hd hn hfit hv hdg (fun H1 locs1 hP1 hS1 => ?_)
  rw [fl_put7 ht] at hP1
  exact kk H1 locs1 hP1 hS1
/-- an int field of the text -/
theorem c_put8 (S : CallFix p m c cc nL s args BIG own) (hK : Kp G s) (hP : cP G a z H) (hI : gI 334 a) (hS : va_S (gA 334 a) H0 H locs) (k : Nat) (hk : k < 9) {index : Nat} (hlink : Cond.fieldLink own index (TX4 k).1 (TX4 k).2.1 (TX4 k).2.2.1 ∈ BIG) (hfin : (TX4 k).2.2.2 = false) {v : Int32} (hd : parseFieldDescriptor (TX4 k).2.2.1 = some .int) (hv : ∀ x, tF (fun t => a (332 + t)) x k = .int (x k)) (hdg : decode cc pc = .ok (.putfield index, 3))
    (kk : ∀ (H1 : Heap) (locs1 : List Loc), cP G a (zB z 8 (up (z.2 8) 0 k v)) H1 → va_S (gA 334 a) H0 H1 locs1 → W p l e R s m args below meth c H1 locs1 cells slots Q (F0 m (pc + 3) ls rest)) : W p l e R s m args below meth c H locs cells slots Q (F0 m pc ls (.int v :: .ref (a 332) :: rest)) := by
  refine g_put S hK hP hI hS (i := 332) (by omega) cC3 rfl inlX4 tyX4 tyX4_ok nmX4 tF_n k hk hlink hfin hd rfl rfl hv hdg (fun H1 locs1 hP1 hS1 => ?_)
  rw [show up (fl z.2) 332 k v = fl (upP z.2 8 (up (z.2 8) 0 k v)) from fl_put8 (t := 0)] at hP1
  exact kk H1 locs1 hP1 hS1
/-- now, spare -/
theorem c_putR (k : Nat) (hk : k < 2) (S : CallFix p m c cc nL s args BIG own) (hK : Kp G s) (hP : cP G a z H) (hI : gI 334 a) (hS : va_S (gA 334 a) H0 H locs) {index r : Nat} (hlink : Cond.fieldLink own index (TX5 k).1 (TX5 k).2.1 (TX5 k).2.2.1 ∈ BIG) (hfin : (TX5 k).2.2.2 = false) {ty : FieldType} (hd : parseFieldDescriptor (TX5 k).2.2.1 = some ty) (hn : narrow ty (.ref (a (47 * r))) = .ref (a (47 * r))) (hfit : fits ty (.ref (a (47 * r))) = true) (hdg : decode cc pc = .ok (.putfield index, 3))
    (kk : ∀ (H1 : Heap) (locs1 : List Loc), cP G a (zR z k r) H1 → va_S (gA 334 a) H0 H1 locs1 → W p l e R s m args below meth c H1 locs1 cells slots Q (F0 m (pc + 3) ls rest)) : W p l e R s m args below meth c H locs cells slots Q (F0 m pc ls (.ref (a (47 * r)) :: .ref (a 329) :: rest)) := by
  refine r_put S hK hP hI hS (List.mem_range.mpr (by decide)) (i := 329) (cC0 (fl z.2 329)) rfl inlX5 tyX5 tyX5_ok nmX5 k (by omega) hlink hfin hd hn hfit (by simp; omega) hdg (E' := fun j => cC G a (zR z k r).1 j (fl z.2 j)) ?_ ?_ kk
  · show cC G a (upR z.1 k r) 329 (fl z.2 329) = _
    rw [cC0]
    congr 2
    refine (rng_set (by omega) ?_ ?_).symm
    · rcases (show k = 0 ∨ k = 1 by omega) with rfl | rfl
      · show Value.ref (a (47 * upR z.1 0 r 0)) = _
        rw [upR_same]
      · show Value.ref (a (47 * upR z.1 1 r 1)) = _
        rw [upR_same]
    · intro q hq
      unfold cF0
      split
      · rw [upR_ne hq]
      · rw [upR_ne hq]
      · rfl
      · rfl
      · rfl
      · rfl
  · intro j hj
    show cC G a (upR z.1 k r) j (fl z.2 j) = cC G a z.1 j (fl z.2 j)
    unfold cC
    by_cases h : j < 329
    · rw [if_pos h, if_pos h]
    · rw [if_neg h, if_neg h]
      have h2 : j - 329 ≠ 0 := by omega
      unfold cCo
      split
      · exact absurd (by assumption) h2
      · rfl
      · exact congrArg (fun f => (.inl (G.2.2.2.2, 4, .inr (.inr (.inr (.inr f)))) : va_E)) (funext fun j' => by rw [upR_ne (by omega)])
      · rfl
      · rfl
/-- the row of the history: read, write -/
theorem c_kald (S : CallFix p m c cc nL s args BIG own) (hK : Kp G s) (hP : cP G a z H) {x : Int32} (hin : vp_in x 4) (hdg : decode cc pc = .ok (.aaload, 1))
    (kk : W p l e R s m args below meth c H locs cells slots Q (F0 m (pc + 1) ls (.ref (a (47 * z.1 (2 + x.toNatClampNeg))) :: rest))) : W p l e R s m args below meth c H locs cells slots Q (F0 m pc ls (.int x :: .ref (a 331) :: rest)) :=
  r_kald S hK hP (List.mem_range.mpr (by decide)) (i := 331) (cC2 (fl z.2 331)) hin hdg kk
theorem c_kast (S : CallFix p m c cc nL s args BIG own) (hK : Kp G s) (hP : cP G a z H) (hI : gI 334 a) (hS : va_S (gA 334 a) H0 H locs) {x : Int32} {r : Nat} (hr : r < 7) (hin : vp_in x 4) (hdg : decode cc pc = .ok (.aastore, 1))
    (kk : ∀ (H1 : Heap) (locs1 : List Loc), cP G a (zR z (2 + x.toNatClampNeg) r) H1 → va_S (gA 334 a) H0 H1 locs1 → W p l e R s m args below meth c H1 locs1 cells slots Q (F0 m (pc + 1) ls rest)) : W p l e R s m args below meth c H locs cells slots Q (F0 m pc ls (.ref (a (47 * r)) :: .int x :: .ref (a 331) :: rest)) := by
  obtain ⟨hx, hb, hml, hown, hts⟩ := S
  obtain ⟨q0, h1, h2⟩ := fW_get (a := a) (E := fun i => cC G a z.1 i (fl z.2 i)) (List.mem_range.mpr (show 331 < 334 by decide))
  obtain ⟨qk, h3, h4⟩ := fW_get (a := a) (E := fun i => cC G a z.1 i (fl z.2 i)) (List.mem_range.mpr (show 47 * r < 334 by omega))
  have e2 : cC G a z.1 331 (fl z.2 331) = _ := cC2 (fl z.2 331)
  have e4 : cC G a z.1 (47 * r) (fl z.2 (47 * r)) = .inr (1, (List.range 8).map (bF (fun t' => a (47 * r + t')) (fl z.2 (47 * r)))) := (cC_b (t := 0) hr (by decide) _).trans (bC0 _)
  have h2 := h2.trans (congrArg (fun y => some (a 331, y)) e2)
  have h4 := h4.trans (congrArg (fun y => some (a (47 * r), y)) e4)
  refine va_astq hx hb hK.1 hP (fD hI) hS q0 3 qk 1 (r := (RX1, TX1, 8)) h2 rfl h4 rfl hin hdg (fun H1 locs1 hP1 hD1 hS1 => ?_)
  refine kk H1 locs1 ?_ hS1
  rw [fW_set hI.1 h1 (E' := fun j => cC G a (zR z (2 + x.toNatClampNeg) r).1 j (fl z.2 j))] at hP1
  · exact hP1
  · show cC G a (upR z.1 (2 + x.toNatClampNeg) r) 331 (fl z.2 331) = _
    rw [cC2]
    refine congrArg (fun f => (.inl (G.2.2.2.2, 4, .inr (.inr (.inr (.inr f)))) : va_E)) (funext fun j => ?_)
    by_cases h : j = x.toNatClampNeg
    · subst h
      rw [upR_same]
      simp [va_up]
    · rw [upR_ne (by omega)]
      simp [va_up, h]
  · intro j hj
    show cC G a (upR z.1 (2 + x.toNatClampNeg) r) j (fl z.2 j) = cC G a z.1 j (fl z.2 j)
    unfold cC
    by_cases h : j < 329
    · rw [if_pos h, if_pos h]
    · rw [if_neg h, if_neg h]
      have h5 : j - 329 ≠ 2 := by omega
      unfold cCo
      split
      · refine congrArg (fun f => (.inr (5, (List.range 9).map f) : va_E)) (funext fun q => ?_)
        unfold cF0
        split <;> first | rfl | (rw [upR_ne (by omega)])
      · rfl
      · exact absurd (by assumption) h5
      · rfl
      · rfl
/-- another answer, another end, that are the same -/
theorem q_eqIz {z' : CS} {v v' : Int32} {g : JFrame} {mc ms : Nat} {free : Addr → Prop} (hv : v' = v) (hM : z' = z) (kk : W p l e R s m args below meth c H locs cells slots (MQ below (qcI G A (cP G a z) v) args s mc ms free) g) : W p l e R s m args below meth c H locs cells slots (MQ below (qcI G A (cP G a z') v') args s mc ms free) g := by
  subst hv; subst hM; exact kk
theorem q_eqVz {z' : CS} {g : JFrame} {mc ms : Nat} {free : Addr → Prop} (hM : z' = z) (kk : W p l e R s m args below meth c H locs cells slots (MQ below (qcV G A (cP G a z)) args s mc ms free) g) : W p l e R s m args below meth c H locs cells slots (MQ below (qcV G A (cP G a z')) args s mc ms free) g := by
  subst hM; exact kk
end CW
