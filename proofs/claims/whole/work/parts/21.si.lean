/-! what holds of a row of the reference -/
def sN (s : Nat → Int32) (k : Nat) : Nat := (s k).toNatClampNeg
theorem sN_of {s : Nat → Int32} {k j : Nat} (h : s k = nI j) (hj : j < 2 ^ 31) : s k = nI (sN s k) ∧ sN s k = j := by
  have e : sN s k = j := by unfold sN; rw [h, nI_clamp hj]
  exact ⟨by rw [e]; exact h, e⟩
def SI (s : Nat → Int32) : Prop := (∃ nb : Nat, nb ≤ 40 ∧ s 6 = nI nb) ∧ (∃ d : Nat, d ≤ 9999 ∧ s 0 = nI d) ∧ (∀ b : Nat, b < 40 → ∃ c : Nat, c < 8 ∧ s (233 + 12 * b + 0) = nI c) ∧ ∀ b : Nat, b < 40 → ∃ r : Nat, r ≤ 40 ∧ s (233 + 12 * b + 2) = nI r
theorem SI_nb {s : Nat → Int32} (h : SI s) : s 6 = nI (sN s 6) := by
  obtain ⟨nb, h1, h2⟩ := h.1
  exact (sN_of h2 (by omega)).1
theorem SI_nb2 {s : Nat → Int32} (h : SI s) : sN s 6 ≤ 40 := by
  obtain ⟨nb, h1, h2⟩ := h.1
  rw [(sN_of h2 (by omega)).2]; exact h1
theorem SI_day {s : Nat → Int32} (h : SI s) : s 0 = nI (sN s 0) := by
  obtain ⟨nb, h1, h2⟩ := h.2.1
  exact (sN_of h2 (by omega)).1
theorem SI_day2 {s : Nat → Int32} (h : SI s) : sN s 0 ≤ 9999 := by
  obtain ⟨nb, h1, h2⟩ := h.2.1
  rw [(sN_of h2 (by omega)).2]; exact h1
theorem SI_cu {s : Nat → Int32} (h : SI s) {b : Nat} (hb : b < 40) : s (233 + 12 * b + 0) = nI (sN s (233 + 12 * b + 0)) := by
  obtain ⟨nb, h1, h2⟩ := h.2.2.1 b hb
  exact (sN_of h2 (by omega)).1
theorem SI_cu2 {s : Nat → Int32} (h : SI s) {b : Nat} (hb : b < 40) : sN s (233 + 12 * b + 0) < 8 := by
  obtain ⟨nb, h1, h2⟩ := h.2.2.1 b hb
  rw [(sN_of h2 (by omega)).2]; exact h1
theorem SI_rt {s : Nat → Int32} (h : SI s) {b : Nat} (hb : b < 40) : ¬ (100 : Int32) + s (233 + 12 * b + 2) = 0 := by
  obtain ⟨r, h1, h2⟩ := h.2.2.2 b hb
  rw [h2]
  intro z
  have h3 : nI 100 + nI r = nI (100 + r) := nI_add 100 r
  have h4 : nI (100 + r) = 0 := h3.symm.trans z
  exact nI_ne0 (by omega) (by omega) h4
/-- the rows that SI looks at are the same -/
theorem SI_same {s s' : Nat → Int32} (h : SI s) (h6 : s' 6 = s 6) (h0 : s' 0 = s 0) (hc : ∀ b, b < 40 → s' (233 + 12 * b + 0) = s (233 + 12 * b + 0)) (hr : ∀ b, b < 40 → s' (233 + 12 * b + 2) = s (233 + 12 * b + 2)) : SI s' := by
  refine ⟨?_, ?_, fun b hb => ?_, fun b hb => ?_⟩
  · rw [h6]; exact h.1
  · rw [h0]; exact h.2.1
  · rw [hc b hb]; exact h.2.2.1 b hb
  · rw [hr b hb]; exact h.2.2.2 b hb
theorem SI_lt {s : Nat → Int32} (h : SI s) (h2 : ¬ s 6 = (40 : Int32)) : sN s 6 < 40 := by
  have h3 := SI_nb2 h
  rcases Nat.lt_or_ge (sN s 6) 40 with h4 | h4
  · exact h4
  · exact absurd ((SI_nb h).trans (congrArg nI (show sN s 6 = 40 by omega))) h2
/-- how many states are known -/
def KI (s0 : Nat → Int32) : Prop := ∃ k : Nat, k ≤ 4 ∧ s0 6 = nI k
def KJ (s0 : Nat → Int32) : Prop := s0 6 = nI (sN s0 6) ∧ sN s0 6 ≤ 3
theorem KJ_of {u : Nat → Nat → Int32} (h : KI (u 0)) (h2 : ¬ u 0 6 = (4 : Int32)) : KJ (u 0) := by
  obtain ⟨k, h3, h4⟩ := h
  have e := sN_of h4 (by omega)
  refine ⟨e.1, ?_⟩
  rw [e.2]
  rcases Nat.lt_or_ge k 4 with h5 | h5
  · omega
  · exact absurd (h4.trans (congrArg nI (show k = 4 by omega))) h2
theorem KJ_up {u : Nat → Nat → Int32} {i : Nat} {v : Int32} (h : KJ (u 0)) : KJ (up u 5 i v 0) := by
  rw [up_oi (by decide)]; exact h
theorem up5_0 {u : Nat → Nat → Int32} {i k : Nat} {v : Int32} : up u 5 i v 0 k = u 0 k := up_ni (by decide)
theorem KJ_dec {u : Nat → Nat → Int32} (h : u 0 6 = (4 : Int32)) : KJ (up u 0 6 (u 0 6 - (1 : Int32)) 0) := by
  have e : up u 0 6 (u 0 6 - (1 : Int32)) 0 6 = nI 3 := by
    rw [up_same, h]; decide
  have e2 := sN_of e (by decide)
  exact ⟨e2.1, by rw [e2.2]; decide⟩
theorem dn_step (n : Nat) : nI (n + 1) - (1 : Int32) + Int32.ofInt (-1) = nI n - (1 : Int32) := by
  rw [nI_pred, show Int32.ofInt (-1) = -1 from by decide, Int32.sub_eq_add_neg]
/-- a place that SI doesn't look at -/
theorem SI_upo {u : Nat → Nat → Int32} {i : Nat} {v : Int32} (h : SI (u 1)) (h0 : i ≠ 0) (h6 : i ≠ 6) (hc : ∀ b, i ≠ 233 + 12 * b + 0) (hr : ∀ b, i ≠ 233 + 12 * b + 2) : SI (up u 1 i v 1) :=
  SI_same h (up_nk (Ne.symm h6)) (up_nk (Ne.symm h0)) (fun b _ => up_nk (Ne.symm (hc b))) (fun b _ => up_nk (Ne.symm (hr b)))
theorem SI_upc {u : Nat → Nat → Int32} {b c : Nat} (h : SI (u 1)) (hb : b < 40) (hc : c < 8) : SI (up u 1 (233 + 12 * b + 0) (nI c) 1) := by
  refine ⟨?_, ?_, fun b' hb' => ?_, fun b' hb' => ?_⟩
  · rw [up_nk (by omega)]; exact h.1
  · rw [up_nk (by omega)]; exact h.2.1
  · by_cases e : b' = b
    · subst e; exact ⟨c, hc, up_same⟩
    · rw [up_nk (by omega)]; exact h.2.2.1 b' hb'
  · rw [up_nk (by omega)]; exact h.2.2.2 b' hb'
theorem SI_upr {u : Nat → Nat → Int32} {b : Nat} {v : Int32} (h : SI (u 1)) (hb : b < 40) (hr : ∃ r : Nat, r ≤ 40 ∧ v = nI r) : SI (up u 1 (233 + 12 * b + 2) v 1) := by
  refine ⟨?_, ?_, fun b' hb' => ?_, fun b' hb' => ?_⟩
  · rw [up_nk (by omega)]; exact h.1
  · rw [up_nk (by omega)]; exact h.2.1
  · rw [up_nk (by omega)]; exact h.2.2.1 b' hb'
  · by_cases e : b' = b
    · subst e
      obtain ⟨r, h1, h2⟩ := hr
      exact ⟨r, h1, by rw [up_same, h2]⟩
    · rw [up_nk (by omega)]; exact h.2.2.2 b' hb'
theorem SI_inc {u : Nat → Nat → Int32} (h : SI (u 1)) (hb : sN (u 1) 6 < 40) : SI (up u 1 6 (u 1 6 + (1 : Int32)) 1) := by
  refine ⟨⟨sN (u 1) 6 + 1, by omega, ?_⟩, ?_, fun b' hb' => ?_, fun b' hb' => ?_⟩
  · rw [up_same, SI_nb h]
    show nI (sN (u 1) 6) + 1 = _
    rw [nI_1]
  · rw [up_nk (by omega)]; exact h.2.1
  · rw [up_nk (by omega)]; exact h.2.2.1 b' hb'
  · rw [up_nk (by omega)]; exact h.2.2.2 b' hb'
theorem SI_zero {u : Nat → Nat → Int32} {i : Nat} (h : SI (u 1)) (hi : 233 ≤ i) : SI (up u 1 i (0 : Int32) 1) := by
  refine ⟨?_, ?_, fun b' hb' => ?_, fun b' hb' => ?_⟩
  · rw [up_nk (by omega)]; exact h.1
  · rw [up_nk (by omega)]; exact h.2.1
  · by_cases e : 233 + 12 * b' + 0 = i
    · subst e; exact ⟨0, by omega, up_same⟩
    · rw [up_nk e]; exact h.2.2.1 b' hb'
  · by_cases e : 233 + 12 * b' + 2 = i
    · subst e; exact ⟨0, by omega, up_same⟩
    · rw [up_nk e]; exact h.2.2.2 b' hb'
theorem SI_six {u : Nat → Nat → Int32} {b c : Nat} {v1 v3 v4 v5 p3 : Int32} (h : SI (u 1)) (hb : b < 40) (hc : c < 8) (hr : ∃ r : Nat, r ≤ 40 ∧ p3 = nI r) : SI (up (up (up (up (up (up u 1 (233 + 12 * b + 0) (nI c)) 1 (233 + 12 * b + 1) v1) 1 (233 + 12 * b + 2) p3) 1 (233 + 12 * b + 3) v3) 1 (233 + 12 * b + 4) v4) 1 (233 + 12 * b + 11) v5 1) :=
  SI_upo (SI_upo (SI_upo (SI_upr (SI_upo (SI_upc h hb hc) (by omega) (by omega) (by omega) (by omega)) hb hr) (by omega) (by omega) (by omega) (by omega)) (by omega) (by omega) (by omega) (by omega)) (by omega) (by omega) (by omega) (by omega)
theorem SI_rem {u : Nat → Nat → Int32} {b : Nat} {v1 v2 v3 : Int32} (h : SI (u 1)) (hb : b < 40) : SI (up (up (up u 1 (233 + 12 * b + 8) v1) 1 (233 + 12 * b + 9) v2) 1 (233 + 12 * b + 10) v3 1) :=
  SI_upo (SI_upo (SI_upo h (by omega) (by omega) (by omega) (by omega)) (by omega) (by omega) (by omega) (by omega)) (by omega) (by omega) (by omega) (by omega)
theorem nb_rem {u : Nat → Nat → Int32} {b : Nat} {v1 v2 v3 : Int32} : sN (up (up (up u 1 (233 + 12 * b + 8) v1) 1 (233 + 12 * b + 9) v2) 1 (233 + 12 * b + 10) v3 1) 6 = sN (u 1) 6 := by
  unfold sN
  rw [up_nk (by omega), up_nk (by omega), up_nk (by omega)]
