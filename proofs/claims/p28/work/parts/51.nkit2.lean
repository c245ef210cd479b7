/-! calls of constructors: the new cells join the family -/
def aj (a : Nat → Nat) (n : Nat) (a1 : Nat → Nat) : Nat → Nat := fun j => if j < n then a j else a1 (j - n + 1)
def Ej (E : Nat → va_E) (n i : Nat) (E1 : Nat → va_E) : Nat → va_E := fun j => if j < n then (if j = i then E1 0 else E j) else E1 (j - n + 1)
theorem eD_of {A : Nat → Prop} {n : Nat} {a : Nat → Nat} {E : Nat → va_E} (hI : gI n a) (hA : ∀ i, i < n → A (a i)) : eD A n a E := by
  refine (fD (E := E) hI).weaken (fun k q hk h => ?_)
  obtain ⟨i, hi, e⟩ := h
  rw [← e]
  exact hA i (List.mem_range.mp hi)
theorem eP_join {G : kG} {A : Nat → Prop} {n k i : Nat} {a a1 : Nat → Nat} {E E1 : Nat → va_E} {H H1 : Heap} (hD : eD A n a E) (hP : eP G n a E H) (hi : i < n) (hk : ∀ q : Nat, q < H.size → ¬ nA (a i) H.size q → H1[q]? = H[q]?) (hA : ∀ q, H.size ≤ q → A q) (h0 : a1 0 = a i) (hI1 : gI (k + 1) a1) (ho : ∀ j, 0 < j → j < k + 1 → H.size ≤ a1 j) (hP1 : eP G (k + 1) a1 E1 H1) : eP G (n + k) (aj a n a1) (Ej E n i E1) H1 ∧ eD A (n + k) (aj a n a1) (Ej E n i E1) := by
  have hI := eD_inj hD
  have hlt : ∀ j, j < n → a j < H.size := fun j hj => (fP_at hP (List.mem_range.mpr hj)).lt
  constructor
  · refine fP_of (fun j hj => ?_)
    have hj := List.mem_range.mp hj
    unfold aj Ej
    by_cases h : j < n
    · rw [if_pos h, if_pos h]
      by_cases e : j = i
      · subst e
        rw [if_pos rfl, ← h0]
        exact fP_at hP1 (List.mem_range.mpr (by omega))
      · rw [if_neg e]
        refine (fP_at hP (List.mem_range.mpr h)).kept (hk (a j) (hlt j h) ?_)
        rintro (z | z)
        · exact e (hI.2 j (List.mem_range.mpr h) i (List.mem_range.mpr hi) z)
        · have := hlt j h
          omega
    · rw [if_neg h, if_neg h]
      exact fP_at hP1 (List.mem_range.mpr (by omega))
  · refine eD_of ⟨List.nodup_range, fun x hx y hy e => ?_⟩ (fun j hj => ?_)
    · have hx := List.mem_range.mp hx
      have hy := List.mem_range.mp hy
      unfold aj at e
      by_cases h1 : x < n
      · rw [if_pos h1] at e
        by_cases h2 : y < n
        · rw [if_pos h2] at e
          exact hI.2 x (List.mem_range.mpr h1) y (List.mem_range.mpr h2) e
        · rw [if_neg h2] at e
          have := hlt x h1
          have := ho (y - n + 1) (by omega) (by omega)
          omega
      · rw [if_neg h1] at e
        by_cases h2 : y < n
        · rw [if_pos h2] at e
          have := hlt y h2
          have := ho (x - n + 1) (by omega) (by omega)
          omega
        · rw [if_neg h2] at e
          have := hI1.2 (x - n + 1) (List.mem_range.mpr (by omega)) (y - n + 1) (List.mem_range.mpr (by omega)) e
          omega
    · unfold aj
      by_cases h : j < n
      · rw [if_pos h]; exact eD_A hD h
      · rw [if_neg h]; exact hA _ (ho (j - n + 1) (by omega) (by omega))
theorem nA_sub {G : kG} {A : Nat → Prop} {n i : Nat} {a : Nat → Nat} {E : Nat → va_E} {H H0 : Heap} {locs : List Loc} (hD : eD A n a E) (hS : va_S A H0 H locs) (hA : ∀ q, H0.size ≤ q → A q) (hi : i < n) : ∀ q, nA (a i) H.size q → A q := fun q h => by
  rcases h with rfl | h
  · exact eD_A hD hi
  · exact hA q (Nat.le_trans hS.1 h)
section NW3
variable {p : Program} {l : Launch} {e : Env} {R : Room} {s : State} {m : MethodId} {args : Array Value} {below : List Frame} {meth : Method} {c : Code} {H : Heap} {locs : List Loc} {cells slots : Nat} {Q : State → Prop}
variable {cc : ByteArray} {pc nL : Nat} {own : String} {ls : Array Slot} {rest : List Value} {G : kG} {A : Nat → Prop} {H0 : Heap}
variable {n : Nat} {a : Nat → Nat} {E : Nat → va_E}
variable {y : MethodName} {bytes : ByteArray} {maxL idx mc ms : Nat} {rm : Room} {P P' : Heap → Prop} {A0 A1 : Nat → Prop} {b : Nat}
theorem n_callI (S : CallFix p m c cc nL s args BIG own) (hK : Kp G s) (hO : AO s) (hP : P H) (hM : Met l y (Cond.code y bytes maxL none :: BIG) rm (pcN G P H.size [.ref b]) (qcV G A1 P') mc ms A1) (hcode : Cond.code y bytes maxL none ∈ BIG) (hlk : Cond.methodLink own idx y ∈ BIG) (hii : Cond.instanceMethod y ∈ BIG) (hini : Cond.initialized y.cls ∈ BIG) (hname : y.name = "<init>")
    (hd : y.cls ≠ "java/lang/invoke/MethodHandle" ∧ y.cls ≠ "java/lang/invoke/VarHandle" ∧ (parseMethodDescriptor y.desc).map (fun d => d.parameters.length) = some 0) (hR : rm.frames + 1 ≤ R.frames ∧ 8 + (maxL + 11) + rm.locals ≤ R.locals) (hrc : rm.cells = mc) (hrs : rm.slots = ms)
    (hl : ls.size = nL) (hW : (rest.map fun v => v.category).sum ≤ 8) (hdg : decode cc pc = .ok (.invokespecial idx, 3)) (hc : cells + mc ≤ R.cells ∧ slots + ms ≤ R.slots) (hS : va_S A0 H0 H locs) (hA : ∀ q, A1 q → A0 q)
    (kk : ∀ (H1 : Heap) (locs1 : List Loc), P' H1 → (∀ q : Nat, q < H.size → ¬ A1 q → H1[q]? = H[q]?) → H.size ≤ H1.size → va_S A0 H0 H1 locs1 → W p l e R s m args below meth c H1 locs1 (cells + mc) (slots + ms) Q (F0 m (pc + 3) ls rest)) : W p l e R s m args below meth c H locs cells slots Q (F0 m pc ls (.ref b :: rest)) := by
  refine va_callv (mc := mc) (ms := ms) (va_runI (As := []) (rest := rest) S hM ⟨callB_of 0 S.2.2.2.2 (big_cons hcode) rfl hrc hrs (S.2.2.2.2 _ hini) (S.2.2.2.2 _ hlk) hd hR, hname, S.2.2.2.2 _ hii⟩ ⟨pcN_blind, fun U hU hW => ⟨rfl, by rw [hU]; exact hP, hK.warm hW, by rw [hU], hO.moved hW.alike⟩⟩ rfl rfl hl rfl (lv_room hW) hdg hc) hS (fun q _ h => hA q h) hA (fun u t H1 locs1 ht hvm hw hB hz hk hS1 => ?_)
  exact kk H1 locs1 (ht ▸ hB.1) hk hz hS1
theorem n_callN {host : String} (S : CallFix p m c cc nL s args BIG own) (hK : Kp G s) (hO : AO s) (hP : P H) (hM : Met l y (Cond.code y bytes maxL none :: BIG) rm (pcN G P H.size [.ref b]) (qcV G A1 P') mc ms A1) (hcode : Cond.code y bytes maxL none ∈ BIG) (hnest : va_Nw (.methodLinkNest own idx y host) s) (hii : Cond.instanceMethod y ∈ BIG) (hini : Cond.initialized y.cls ∈ BIG) (hname : y.name = "<init>")
    (hd : y.cls ≠ "java/lang/invoke/MethodHandle" ∧ y.cls ≠ "java/lang/invoke/VarHandle" ∧ (parseMethodDescriptor y.desc).map (fun d => d.parameters.length) = some 0) (hR : rm.frames + 1 ≤ R.frames ∧ 8 + (maxL + 11) + rm.locals ≤ R.locals) (hrc : rm.cells = mc) (hrs : rm.slots = ms)
    (hl : ls.size = nL) (hW : (rest.map fun v => v.category).sum ≤ 8) (hdg : decode cc pc = .ok (.invokespecial idx, 3)) (hc : cells + mc ≤ R.cells ∧ slots + ms ≤ R.slots) (hS : va_S A0 H0 H locs) (hA : ∀ q, A1 q → A0 q)
    (kk : ∀ (H1 : Heap) (locs1 : List Loc), P' H1 → (∀ q : Nat, q < H.size → ¬ A1 q → H1[q]? = H[q]?) → H.size ≤ H1.size → va_S A0 H0 H1 locs1 → W p l e R s m args below meth c H1 locs1 (cells + mc) (slots + ms) Q (F0 m (pc + 3) ls rest)) : W p l e R s m args below meth c H locs cells slots Q (F0 m pc ls (.ref b :: rest)) := by
  refine va_callv (mc := mc) (ms := ms) (va_runIN (As := []) (rest := rest) S hM ⟨va_cnB 0 S.2.2.2.2 (big_cons hcode) rfl hrc hrs hnest (S.2.2.2.2 _ hini) hd hR, hname, S.2.2.2.2 _ hii⟩ ⟨pcN_blind, fun U hU hW => ⟨rfl, by rw [hU]; exact hP, hK.warm hW, by rw [hU], hO.moved hW.alike⟩⟩ rfl rfl hl rfl (lv_room hW) hdg hc) hS (fun q _ h => hA q h) hA (fun u t H1 locs1 ht hvm hw hB hz hk hS1 => ?_)
  exact kk H1 locs1 (ht ▸ hB.1) hk hz hS1
theorem e_qast (S : CallFix p m c cc nL s args BIG own) (hK : Kp G s) (hP : eP G n a E H) (hD : eD A n a E) (hS : va_S A H0 H locs) {i i2 : Nat} (hi : i < n) (hi2 : i2 < n) {t : Nat} {cA : ClassId} {N ci : Nat} {f : Nat → Option Nat} {vs : List Value} {r : vw_C} (he : E i = .inl (cA, N, .inr (.inr (.inr (.inr f))))) (ht : (kT G.2.1 G.2.2.1 G.2.2.2.1 G.2.2.2.2)[t]? = some (cA, .object r.1)) (he2 : E i2 = .inr (ci, vs)) (hc : vwCl[ci]? = some r) {k : Nat} (hk : k < N) (hN : N < 2 ^ 31) (hdg : decode cc pc = .ok (.aastore, 1))
    (kk : ∀ (H1 : Heap) (locs1 : List Loc), eP G n a (ue E i (.inl (cA, N, .inr (.inr (.inr (.inr (va_up f k (some (a i2)))))))) ) H1 → eD A n a (ue E i (.inl (cA, N, .inr (.inr (.inr (.inr (va_up f k (some (a i2)))))))) ) → va_S A H0 H1 locs1 → W p l e R s m args below meth c H1 locs1 cells slots Q (F0 m (pc + 1) ls rest)) : W p l e R s m args below meth c H locs cells slots Q (F0 m pc ls (.ref (a i2) :: .int (nI k) :: .ref (a i) :: rest)) := by
  obtain ⟨hx, hb, hml, hown, hts⟩ := S
  refine va_astq hx hb hK.1 hP hD hS i t i2 ci (r := r) (by rw [eW_get hi, he]) ht (by rw [eW_get hi2, he2]) hc (vp_in_nI hk hN) hdg (fun H1 locs1 h1 h2 h3 => ?_)
  rw [eW_set hi, nI_clamp (Nat.lt_trans hk hN)] at h1 h2
  exact kk H1 locs1 h1 h2 h3
end NW3
