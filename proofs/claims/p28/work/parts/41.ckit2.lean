theorem fl_putb {B : Nat → Nat → Nat → Int32} {r t k : Nat} {v : Int32} (hr : r < 7) (ht : t < 47) : up (fl B) (47 * r + t) k v = fl (upP B r (up (B r) t k v)) := by
  funext i q
  by_cases h : i < 332
  · by_cases h7 : i / 47 = r
    · obtain ⟨s, hs, rfl⟩ : ∃ s, s < 47 ∧ i = 47 * r + s := ⟨i % 47, by omega, by omega⟩
      rw [fl_b hr hs, upP_same]
      by_cases e : s = t
      · subst e
        by_cases e2 : q = k
        · subst e2; rw [up_same, up_same]
        · rw [up_nk e2, up_nk e2, fl_b hr hs]
      · rw [up_ni (by omega), up_ni e, fl_b hr hs]
    · rw [up_ni (by omega)]
      unfold fl
      rw [if_pos h, if_pos h, upP_ne h7]
  · rw [up_ni (by omega)]
    unfold fl
    rw [if_neg h, if_neg h, upP_ne (by omega)]
/-- a whole row -/
def upI (b : Nat → Nat → Int32) (t : Nat) (f : Nat → Int32) : Nat → Nat → Int32 := fun i => if i = t then f else b i
theorem upI_same {b : Nat → Nat → Int32} {t : Nat} {f : Nat → Int32} : upI b t f t = f := if_pos rfl
theorem upI_ne {b : Nat → Nat → Int32} {t i : Nat} {f : Nat → Int32} (h : i ≠ t) : upI b t f i = b i := if_neg h
theorem fl_rowb {B : Nat → Nat → Nat → Int32} {r t : Nat} {f : Nat → Int32} (hr : r < 7) (ht : t < 47) : upI (fl B) (47 * r + t) f = fl (upP B r (upI (B r) t f)) := by
  funext i
  by_cases h : i < 332
  · by_cases h7 : i / 47 = r
    · obtain ⟨s, hs, rfl⟩ : ∃ s, s < 47 ∧ i = 47 * r + s := ⟨i % 47, by omega, by omega⟩
      rw [fl_b hr hs, upP_same]
      by_cases e : s = t
      · subst e; rw [upI_same, upI_same]
      · rw [upI_ne (by omega), upI_ne e, fl_b hr hs]
    · rw [upI_ne (by omega)]
      unfold fl
      rw [if_pos h, if_pos h, upP_ne h7]
  · rw [upI_ne (by omega)]
    unfold fl
    rw [if_neg h, if_neg h, upP_ne (by omega)]
section CW2
variable {p : Program} {l : Launch} {e : Env} {R : Room} {s : State} {m : MethodId} {args : Array Value} {below : List Frame} {meth : Method} {c : Code} {H : Heap} {locs : List Loc} {cells slots : Nat} {Q : State → Prop}
variable {cc : ByteArray} {pc nL : Nat} {own : String} {ls : Array Slot} {rest : List Value} {G : kG} {A : Nat → Prop} {H0 : Heap}
variable {a : Nat → Nat} {z : CS}
/-- an int field of a book's cell -/
theorem c_putB {r t : Nat} (hr : r < 7) (ht : t < 47) (S : CallFix p m c cc nL s args BIG own) (hK : Kp G s) (hP : cP G a z H) (hI : gI 334 a) (hS : va_S (gA 334 a) H0 H locs) {ci N : Nat} {Cn : String} {T : u_T} {F : (Nat → Int32) → Nat → Value} (he : ∀ x, bC G (fun t' => a (47 * r + t')) t x = .inr (ci, (List.range N).map (F x))) (hc : vwCl[ci]? = some (Cn, T, N)) (hin : ∀ w ∈ u_ws Cn T N, w ∈ BIG) (ty0 : Nat → FieldType) (hty : ∀ k, k < N → parseFieldDescriptor (T k).2.2.1 = some (ty0 k)) (hnm : ∀ a, a < N → ∀ b, b < N → a ≠ b → (T a).2.1 ≠ (T b).2.1) (hFn : ∀ x x' q, x q = x' q → F x q = F x' q) (k : Nat) (hk : k < N) {index : Nat} (hlink : Cond.fieldLink own index (T k).1 (T k).2.1 (T k).2.2.1 ∈ BIG) (hfin : (T k).2.2.2 = false) {ty : FieldType} {v : Int32} (hd : parseFieldDescriptor (T k).2.2.1 = some ty) (hn : narrow ty (.int v) = .int v) (hfit : fits ty (.int v) = true) (hv : ∀ x, F x k = .int (x k)) (hdg : decode cc pc = .ok (.putfield index, 3))
    (kk : ∀ (H1 : Heap) (locs1 : List Loc), cP G a (zB z r (up (z.2 r) t k v)) H1 → va_S (gA 334 a) H0 H1 locs1 → W p l e R s m args below meth c H1 locs1 cells slots Q (F0 m (pc + 3) ls rest)) : W p l e R s m args below meth c H locs cells slots Q (F0 m pc ls (.int v :: .ref (a (47 * r + t)) :: rest)) := by
  refine g_put S hK hP hI hS (i := 47 * r + t) (by omega) (fun x => (cC_b hr ht x).trans (he x)) hc hin ty0 hty hnm hFn k hk hlink hfin hd hn hfit hv hdg (fun H1 locs1 hP1 hS1 => ?_)
  rw [fl_putb hr ht] at hP1
  exact kk H1 locs1 hP1 hS1
/-- a row of one book into another's -/
theorem c_copy {r r1 t N : Nat} (hr : r < 7) (hr1 : r1 < 7) (ht : t < 47) (S : CallFix p m c cc nL s args BIG own) (hsz : ls.size = nL) (hK : Kp G s) (hP : cP G a z H) (hI : gI 334 a) (hS : va_S (gA 334 a) H0 H locs) (he : ∀ (a' : Nat → Nat) x, bC G a' t x = .inl (G.2.1, N, .inl x)) (hN : N < 2 ^ 31) {v : Int32} (hv : v = nI N) {idx : Nat} (hlink : Cond.methodLink own idx arraycopyName ∈ BIG) (hnat : Cond.native arraycopyName ∈ BIG) (hstat : Cond.static arraycopyName ∈ BIG) (hini : Cond.initialized "java/lang/System" ∈ BIG) (hfr : 1 ≤ R.frames) (hlo : (rest.map fun v => v.category).sum + (nativeFrameWords "java/lang/System" "arraycopy" 5 + 11) ≤ R.locals) (hdg : decode cc pc = .ok (.invokestatic idx, 3))
    (kk : ∀ (H1 : Heap) (locs1 : List Loc), cP G a (zB z r (upI (z.2 r) t (va_cpy (z.2 r1 t) (z.2 r t) 0 0 N))) H1 → va_S (gA 334 a) H0 H1 locs1 → W p l e R s m args below meth c H1 locs1 cells slots Q (F0 m (pc + 3) ls rest)) : W p l e R s m args below meth c H locs cells slots Q (F0 m pc ls (.int v :: .int 0 :: .ref (a (47 * r + t)) :: .int 0 :: .ref (a (47 * r1 + t)) :: rest)) := by
  obtain ⟨hx, hb, hml, hown, hts⟩ := S
  subst hv
  obtain ⟨q0, h1, h2⟩ := fW_get (a := a) (E := fun i => cC G a z.1 i (fl z.2 i)) (List.mem_range.mpr (show 47 * r1 + t < 334 by omega))
  obtain ⟨q1, h3, h4⟩ := fW_get (a := a) (E := fun i => cC G a z.1 i (fl z.2 i)) (List.mem_range.mpr (show 47 * r + t < 334 by omega))
  have e2 : cC G a z.1 (47 * r1 + t) (fl z.2 (47 * r1 + t)) = .inl (G.2.1, N, .inl (z.2 r1 t)) := by rw [cC_b hr1 ht, he, fl_b hr1 ht]
  have e4 : cC G a z.1 (47 * r + t) (fl z.2 (47 * r + t)) = .inl (G.2.1, N, .inl (z.2 r t)) := by rw [cC_b hr ht, he, fl_b hr ht]
  have h2 := h2.trans (congrArg (fun y => some (a (47 * r1 + t), y)) e2)
  have h4 := h4.trans (congrArg (fun y => some (a (47 * r + t), y)) e4)
  have c0 : (0 : Int32).toNatClampNeg = 0 := by decide
  have cN : (nI N).toNatClampNeg = N := nI_clamp hN
  refine va_copyi hx hb (hml.trans hsz.symm) hown (hts _ hlink) (hts _ hnat) (hts _ hstat) (hts _ hini) hK.1 hP (fD hI) hS q0 q1 0 0 h2 h4 rfl rfl rfl (by decide) (by decide) (nI_pos hN) (by rw [c0, cN]; omega) (by rw [c0, cN]; omega) (fun _ _ => rfl) hfr hlo hdg (fun H1 locs1 hP1 hD1 hS1 => ?_)
  refine kk H1 locs1 ?_ hS1
  rw [c0, cN, fW_set hI.1 h3 (E' := fun j => cC G a z.1 j (fl (upP z.2 r (upI (z.2 r) t (va_cpy (z.2 r1 t) (z.2 r t) 0 0 N))) j))] at hP1
  · exact hP1
  · show cC G a z.1 (47 * r + t) (fl _ (47 * r + t)) = _
    rw [cC_b hr ht, he, fl_b hr ht, upP_same, upI_same]
  · intro j hj
    show cC G a z.1 j (fl _ j) = cC G a z.1 j (fl z.2 j)
    rw [← fl_rowb hr ht, upI_ne hj]
theorem c_kaldN (S : CallFix p m c cc nL s args BIG own) (hK : Kp G s) (hP : cP G a z H) {k : Nat} (hk : k < 4) (hdg : decode cc pc = .ok (.aaload, 1))
    (kk : W p l e R s m args below meth c H locs cells slots Q (F0 m (pc + 1) ls (.ref (a (47 * z.1 (2 + k))) :: rest))) : W p l e R s m args below meth c H locs cells slots Q (F0 m pc ls (.int (nI k) :: .ref (a 331) :: rest)) := by
  refine c_kald S hK hP (vp_in_nI hk (by decide)) hdg ?_
  rw [nI_clamp (by omega)]
  exact kk
theorem c_kastN (S : CallFix p m c cc nL s args BIG own) (hK : Kp G s) (hP : cP G a z H) (hI : gI 334 a) (hS : va_S (gA 334 a) H0 H locs) {k : Nat} {r : Nat} (hr : r < 7) (hk : k < 4) (hdg : decode cc pc = .ok (.aastore, 1))
    (kk : ∀ (H1 : Heap) (locs1 : List Loc), cP G a (zR z (2 + k) r) H1 → va_S (gA 334 a) H0 H1 locs1 → W p l e R s m args below meth c H1 locs1 cells slots Q (F0 m (pc + 1) ls rest)) : W p l e R s m args below meth c H locs cells slots Q (F0 m pc ls (.ref (a (47 * r)) :: .int (nI k) :: .ref (a 331) :: rest)) := by
  refine c_kast S hK hP hI hS hr (vp_in_nI hk (by decide)) hdg (fun H1 locs1 hP1 hS1 => ?_)
  rw [nI_clamp (by omega)] at hP1
  exact kk H1 locs1 hP1 hS1
theorem q_eqQz {z' : CS} {v v' : Nat} {g : JFrame} {mc ms : Nat} {free : Addr → Prop} (hv : v' = v) (hM : z' = z) (kk : W p l e R s m args below meth c H locs cells slots (MQ below (qcQ G A (cP G a z) (some (a (47 * v)))) args s mc ms free) g) : W p l e R s m args below meth c H locs cells slots (MQ below (qcQ G A (cP G a z') (some (a (47 * v')))) args s mc ms free) g := by
  subst hv; subst hM; exact kk
end CW2
