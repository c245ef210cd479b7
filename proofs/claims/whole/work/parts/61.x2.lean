/-! one bill takes of a payment: both sides -/
theorem BR0_bill {b b' : Nat → Nat → Int32} {s s' : Nat → Int32} {n d j : Nat} (h : BR0 b s n d) (hj : j < n) (hb : ∀ i, i ≠ j + 7 → i ≠ 3 → b' i = b i) (hs : ∀ k, k < 713 → (k < 25 ∨ 125 ≤ k) → (∀ t, t < 12 → k ≠ 233 + 12 * j + t) → s' k = s k) (h3 : ∀ y, y < 100 → b' 3 y = s' (25 + y)) (hB : BL (b' (j + 7)) (yR s' j) d) : BR0 b' s' n d := by
  obtain ⟨⟨⟨a1, a1'⟩, ⟨a2, a3, a4⟩, ⟨a5, c, a5c, a5'⟩, a6, a7, ⟨e, p, w, f, t, ⟨q1, q2, q3, q4, q5⟩, r1, r2, r3, r4, r5, r6⟩, a9, a10, a11⟩, hL, hE⟩ := h
  refine ⟨⟨⟨?_, a1'⟩, ⟨?_, a3, ?_⟩, ⟨?_, c, a5c, ?_⟩, ?_, ?_, ⟨e, p, w, f, t, ⟨?_, ?_, ?_, ?_, ?_⟩, r1, r2, r3, r4, r5, r6⟩, ?_, h3, ?_⟩, ?_, ?_⟩
  · rw [hs 6 (by omega) (by omega) (by omega)]; exact a1
  · rw [hs 0 (by omega) (by omega) (by omega)]; exact a2
  · rw [hb 0 (by omega) (by omega), hs 0 (by omega) (by omega) (by omega)]; exact a4
  · rw [hb 0 (by omega) (by omega), hs 8 (by omega) (by omega) (by omega)]; exact a5
  · rw [hs 8 (by omega) (by omega) (by omega)]; exact a5'
  · rw [hb 0 (by omega) (by omega), hs 7 (by omega) (by omega) (by omega)]; exact a6
  · intro k hk
    rw [hb 6 (by omega) (by omega), hs (1 + k) (by omega) (by omega) (by omega)]; exact a7 k hk
  · rw [hs 1 (by omega) (by omega) (by omega)]; exact q1
  · rw [hs 2 (by omega) (by omega) (by omega)]; exact q2
  · rw [hs 3 (by omega) (by omega) (by omega)]; exact q3
  · rw [hs 4 (by omega) (by omega) (by omega)]; exact q4
  · rw [hs 5 (by omega) (by omega) (by omega)]; exact q5
  · intro k hk
    rw [hb 2 (by omega) (by omega), hs (9 + k) (by omega) (by omega) (by omega)]; exact a9 k hk
  · intro y hy
    rw [hb 4 (by omega) (by omega), hs (125 + y) (by omega) (by omega) (by omega)]; exact a11 y hy
  · intro i hi
    by_cases e : i = j
    · subst e; exact hB
    · have e2 : yR s' i = yR s' i := rfl
      rw [hb (i + 7) (by omega) (by omega)]
      obtain ⟨⟨x0, x1, x2, x3, x4, x5, x6, x7, x8, x9, x10, x11, x12, x13⟩, cu, ne, ra, wr, du, st, pd, dc, fe, rm, lt, ⟨h0, h1, h2, h3, h4, h5, h6, h7, h8, h9, h10⟩, g, k1, k2⟩ := hL i hi
      have E : ∀ t, t < 12 → yR s' i t = yR s i t := fun t ht => hs (233 + 12 * i + t) (by omega) (by omega) (by omega)
      refine ⟨⟨?_, ?_, ?_, ?_, ?_, ?_, ?_, ?_, ?_, ?_, ?_, ?_, ?_, ?_⟩, cu, ne, ra, wr, du, st, pd, dc, fe, rm, lt, ⟨?_, ?_, ?_, ?_, ?_, ?_, ?_, ?_, ?_, ?_, ?_⟩, g, k1, k2⟩
      · rw [E 5 (by decide)]; exact x0
      · rw [E 0 (by decide)]; exact x1
      · rw [E 1 (by decide)]; exact x2
      · rw [E 2 (by decide)]; exact x3
      · rw [E 1 (by decide), E 2 (by decide)]; exact x4
      · rw [E 1 (by decide), E 2 (by decide)]; exact x5
      · rw [E 3 (by decide)]; exact x6
      · rw [E 4 (by decide)]; exact x7
      · rw [E 6 (by decide)]; exact x8
      · rw [E 7 (by decide)]; exact x9
      · rw [E 8 (by decide)]; exact x10
      · rw [E 9 (by decide)]; exact x11
      · rw [E 10 (by decide)]; exact x12
      · rw [E 11 (by decide)]; exact x13
      · rw [E 0 (by decide)]; exact h0
      · rw [E 1 (by decide)]; exact h1
      · rw [E 2 (by decide)]; exact h2
      · rw [E 3 (by decide)]; exact h3
      · rw [E 4 (by decide)]; exact h4
      · rw [E 5 (by decide)]; exact h5
      · rw [E 6 (by decide)]; exact h6
      · rw [E 7 (by decide)]; exact h7
      · rw [E 8 (by decide)]; exact h8
      · rw [E 9 (by decide)]; exact h9
      · rw [E 10 (by decide)]; exact h10
  · intro i h1 h2
    rw [hb (i + 7) (by omega) (by omega)]
    exact hE i h1 h2
section PY
variable {b : Nat → Nat → Int32} {u : Nat → Nat → Int32} {n d j : Nat} {A D t : Int32}
theorem tm_o {i : Nat} (h : i ≠ j + 7) : w_X0_takeMoney b j A D t i = b i := by
  unfold w_X0_takeMoney
  split <;> simp (disch := omega) only [up_oi]
theorem tm_k {k : Nat} (h0 : k ≠ 0) (h8 : k ≠ 8) (h9 : k ≠ 9) (h13 : k ≠ 13) : w_X0_takeMoney b j A D t (j + 7) k = b (j + 7) k := by
  unfold w_X0_takeMoney
  split <;> simp (disch := omega) only [up_nk]
theorem tm_8 : w_X0_takeMoney b j A D t (j + 7) 8 = b (j + 7) 8 + A := by
  unfold w_X0_takeMoney
  split <;> simp (disch := omega) only [up_nk, up_same]
theorem tm_9 : w_X0_takeMoney b j A D t (j + 7) 9 = b (j + 7) 9 + D := by
  unfold w_X0_takeMoney
  split <;> simp (disch := omega) only [up_nk, up_same]
theorem tm_13 : w_X0_takeMoney b j A D t (j + 7) 13 = t := by
  unfold w_X0_takeMoney
  split <;> simp (disch := omega) only [up_nk, up_same]
theorem tm_0 : w_X0_takeMoney b j A D t (j + 7) 0 = if 0 < ((b (j + 7) 5 + b (j + 7) 10) - (b (j + 7) 8 + A)) - (b (j + 7) 9 + D) then b (j + 7) 0 else (1 : Int32) := by
  have e : v_X0_owed (up (up (up b (j + 7) 8 ((b (j + 7) 8) + A)) (j + 7) 9 ((b (j + 7) 9) + D)) (j + 7) 13 t) j = ((b (j + 7) 5 + b (j + 7) 10) - (b (j + 7) 8 + A)) - (b (j + 7) 9 + D) := by
    unfold v_X0_owed
    simp (disch := omega) only [up_nk, up_same]
  unfold w_X0_takeMoney
  rw [e]
  split <;> simp (disch := omega) only [up_nk, up_same]
def payW (b : Nat → Nat → Int32) (j : Nat) (A D : Int32) (y : Nat) : Nat → Nat → Int32 := up (w_X0_takeMoney b j A D (b 0 5)) 3 y (b 3 y + v_X0_taxIn b j A)
theorem isYear1 {k : Nat} (h : k < 100) : ¬ v_X5_isYear (nI k) = 0 := by
  unfold v_X5_isYear
  rw [if_neg (nI_pos (by omega)), if_neg (show ¬ (100 : Int32) ≤ nI k from fun z => absurd ((nI_leI (a := 100) (by decide) (by omega)).mp z) (by omega))]
  decide
theorem payC {L O D : Nat} (ho : v_X0_owed b j = nI O) (hd : v_X1_discountOn b j = nI D) (hD : D < O) (hO : O < 2 ^ 30) (hL : 1 ≤ L) (hL2 : L < 2 ^ 30) (hday : b 0 5 = nI d) (hd9 : d ≤ 9999) :
    v_X1_payOn b j (nI L) = nI (if L < O - D then L else O - D) ∧ w_X1_payOn b j (nI L) = payW b j (nI (if L < O - D then L else O - D)) (nI (if L < O - D then 0 else D)) (d / 100) := by
  have e1 : (0 : Int32) < nI L := (nI_ltI (a := 0) (by decide) (by omega)).mpr (by omega)
  have eT : ∀ A D t : Int32, w_X0_takeMoney b j A D t 0 5 = b 0 5 := fun A D t => congrFun (tm_o (by omega)) 5
  have e3 : ∀ (A D t : Int32) (k : Nat), w_X0_takeMoney b j A D t 3 k = b 3 k := fun A D t k => congrFun (tm_o (by omega)) k
  have ex : ∀ A D t : Int32, v_X0_taxIn (w_X0_takeMoney b j A D t) j A = v_X0_taxIn b j A := fun A D t => by
    unfold v_X0_taxIn
    rw [tm_k (by decide) (by decide) (by decide) (by decide)]
  have ey : (nI d) / (100 : Int32) = nI (d / 100) := by rw [i100, pk_div (by omega) (by decide) (by decide)]
  have ec : (nI (d / 100)).toNatClampNeg = d / 100 := nI_clamp (by omega)
  have eS : v_X0_owed b j - v_X1_discountOn b j = nI (O - D) := by rw [ho, hd, pk_sub (by omega)]
  unfold v_X1_payOn w_X1_payOn
  rw [if_pos e1, if_pos e1, eS]
  simp only [eT, e3, ex, hday, ey, ec, ite_self]
  by_cases c : L < O - D
  · rw [if_pos ((nI_ltI (by omega) (by omega)).mpr c), if_pos ((nI_ltI (by omega) (by omega)).mpr c), if_pos c, if_pos c, if_neg (isYear1 (by omega))]
    exact ⟨rfl, by unfold payW; rw [hday]; rfl⟩
  · rw [if_neg (fun z => c ((nI_ltI (by omega) (by omega)).mp z)), if_neg (fun z => c ((nI_ltI (by omega) (by omega)).mp z)), if_neg c, if_neg c, if_neg (isYear1 (by omega)), hd]
    exact ⟨rfl, by unfold payW; rw [hday]⟩
def tk4 (u : Nat → Nat → Int32) (j : Nat) (A D : Int32) : Nat → Nat → Int32 := up (up (up (up u 1 (233 + 12 * j + 6) ((u 1 (233 + 12 * j + 6)) + A)) 1 (233 + 12 * j + 7) ((u 1 (233 + 12 * j + 7)) + D)) 1 (233 + 12 * j + 11) (u 1 0)) 1 (25 + sN (u 1) 0 / 100) ((u 1 (25 + sN (u 1) 0 / 100)) + ((A * (u 1 (233 + 12 * j + 2))) / ((100 : Int32) + (u 1 (233 + 12 * j + 2)))))
def tk (u : Nat → Nat → Int32) (j : Nat) (A D : Int32) : Nat → Nat → Int32 := if v_X6_owedOn (tk4 u j A D) j = 0 then up (tk4 u j A D) 1 (233 + 12 * j + 5) (1 : Int32) else up (tk4 u j A D) 1 (233 + 12 * j + 5) (u 1 (233 + 12 * j + 5))
theorem tkW {p2 : Int32} : w_X6_takesOf u j p2 = if p2 + (v_X6_discountOf u j) < v_X6_owedOn u j then (if (v_X6_owedOn u j) - (0 : Int32) ≤ p2 then tk u j ((v_X6_owedOn u j) - (0 : Int32)) (0 : Int32) else tk u j p2 (0 : Int32)) else if (v_X6_owedOn u j) - (v_X6_discountOf u j) ≤ p2 then tk u j ((v_X6_owedOn u j) - (v_X6_discountOf u j)) (v_X6_discountOf u j) else tk u j p2 (v_X6_discountOf u j) := rfl
theorem tkV {p2 : Int32} : v_X6_takesOf u j p2 = if p2 + (v_X6_discountOf u j) < v_X6_owedOn u j then (if (v_X6_owedOn u j) - (0 : Int32) ≤ p2 then (v_X6_owedOn u j) - (0 : Int32) else p2) else if (v_X6_owedOn u j) - (v_X6_discountOf u j) ≤ p2 then (v_X6_owedOn u j) - (v_X6_discountOf u j) else p2 := by
  unfold v_X6_takesOf
  simp only [ite_self]
theorem payM {L O D : Nat} (ho : v_X6_owedOn u j = nI O) (hd : v_X6_discountOf u j = nI D) (hD : D < O) (hO : O < 2 ^ 30) (hL : 1 ≤ L) (hL2 : L < 2 ^ 30) :
    v_X6_takesOf u j (nI L) = nI (if L < O - D then L else O - D) ∧ w_X6_takesOf u j (nI L) = tk u j (nI (if L < O - D then L else O - D)) (nI (if L < O - D then 0 else D)) := by
  rw [tkV, tkW, ho, hd, nI_add, pk_sub (by omega), Int32.sub_zero]
  by_cases c : L < O - D
  · rw [if_pos ((nI_ltI (by omega) (by omega)).mpr (by omega)), if_pos ((nI_ltI (by omega) (by omega)).mpr (by omega)), if_neg (fun z => absurd ((nI_leI (by omega) (by omega)).mp z) (by omega)), if_neg (fun z => absurd ((nI_leI (by omega) (by omega)).mp z) (by omega)), if_pos c, if_pos c]
    exact ⟨rfl, rfl⟩
  · rw [if_neg (fun z => absurd ((nI_ltI (by omega) (by omega)).mp z) (by omega)), if_neg (fun z => absurd ((nI_ltI (by omega) (by omega)).mp z) (by omega)), if_pos ((nI_leI (by omega) (by omega)).mpr (by omega)), if_pos ((nI_leI (by omega) (by omega)).mpr (by omega)), if_neg c, if_neg c]
    exact ⟨rfl, rfl⟩
theorem tk_k (hm : SI (u 1)) {k : Nat} (h5 : k ≠ 233 + 12 * j + 5) (h6 : k ≠ 233 + 12 * j + 6) (h7 : k ≠ 233 + 12 * j + 7) (h11 : k ≠ 233 + 12 * j + 11) (hy : k ≠ 25 + sN (u 1) 0 / 100) : tk u j A D 1 k = u 1 k := by
  unfold tk tk4
  split <;> simp (disch := omega) only [up_nk]
theorem tk_6 (hm : SI (u 1)) : tk u j A D 1 (233 + 12 * j + 6) = u 1 (233 + 12 * j + 6) + A := by
  have := SI_day2 hm
  unfold tk tk4
  split <;> simp (disch := omega) only [up_nk, up_same]
theorem tk_7 (hm : SI (u 1)) : tk u j A D 1 (233 + 12 * j + 7) = u 1 (233 + 12 * j + 7) + D := by
  have := SI_day2 hm
  unfold tk tk4
  split <;> simp (disch := omega) only [up_nk, up_same]
theorem tk_11 (hm : SI (u 1)) : tk u j A D 1 (233 + 12 * j + 11) = u 1 0 := by
  have := SI_day2 hm
  unfold tk tk4
  split <;> simp (disch := omega) only [up_nk, up_same]
theorem tk_y (hm : SI (u 1)) : tk u j A D 1 (25 + sN (u 1) 0 / 100) = u 1 (25 + sN (u 1) 0 / 100) + (A * (u 1 (233 + 12 * j + 2))) / ((100 : Int32) + (u 1 (233 + 12 * j + 2))) := by
  have := SI_day2 hm
  unfold tk tk4
  split <;> simp (disch := omega) only [up_nk, up_same]
theorem tk_5 (hm : SI (u 1)) : tk u j A D 1 (233 + 12 * j + 5) = if ((v_X6_sumOf u j + u 1 (233 + 12 * j + 8)) - (u 1 (233 + 12 * j + 6) + A)) - (u 1 (233 + 12 * j + 7) + D) = 0 then (1 : Int32) else u 1 (233 + 12 * j + 5) := by
  have := SI_day2 hm
  have e : v_X6_owedOn (tk4 u j A D) j = ((v_X6_sumOf u j + u 1 (233 + 12 * j + 8)) - (u 1 (233 + 12 * j + 6) + A)) - (u 1 (233 + 12 * j + 7) + D) := by
    unfold v_X6_owedOn v_X6_sumOf v_X6_taxOf tk4
    simp (disch := omega) only [up_nk, up_same]
  unfold tk
  rw [e]
  split <;> exact up_same
end PY
