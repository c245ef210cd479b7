/-! what holds of a row of the reference -/
def sN (s : Nat → Int32) (k : Nat) : Nat := (s k).toNatClampNeg
theorem sN_of {s : Nat → Int32} {k j : Nat} (h : s k = nI j) (hj : j < 2 ^ 31) : s k = nI (sN s k) ∧ sN s k = j := by
  have e : sN s k = j := by unfold sN; rw [h, nI_clamp hj]
  exact ⟨by rw [e]; exact h, e⟩
def SI (s : Nat → Int32) : Prop := (∃ nb : Nat, nb ≤ 40 ∧ s 6 = nI nb) ∧ (∃ d : Nat, d ≤ 9999 ∧ s 0 = nI d) ∧ (∀ b : Nat, b < 40 → ∃ c : Nat, c < 8 ∧ s (233 + 12 * b + 0) = nI c) ∧ ∀ b : Nat, b < 40 → ∃ r : Nat, r ≤ 40 ∧ s (233 + 12 * b + 2) = nI r
theorem SI_nb {s : Nat → Int32} (h : SI s) : s 6 = nI (sN s 6) := by
  obtain ⟨nb, h1, h2⟩ := h.1
  exact (sN_of h2 (by omega)).1
theorem SI_nb2 {s : Nat → Int32} (h : SI s) : sN s 6 ≤ 40 := by
  obtain ⟨nb, h1, h2⟩ := h.1
  rw [(sN_of h2 (by omega)).2]; exact h1
theorem SI_day {s : Nat → Int32} (h : SI s) : s 0 = nI (sN s 0) := by
  obtain ⟨nb, h1, h2⟩ := h.2.1
  exact (sN_of h2 (by omega)).1
theorem SI_day2 {s : Nat → Int32} (h : SI s) : sN s 0 ≤ 9999 := by
  obtain ⟨nb, h1, h2⟩ := h.2.1
  rw [(sN_of h2 (by omega)).2]; exact h1
theorem SI_cu {s : Nat → Int32} (h : SI s) {b : Nat} (hb : b < 40) : s (233 + 12 * b + 0) = nI (sN s (233 + 12 * b + 0)) := by
  obtain ⟨nb, h1, h2⟩ := h.2.2.1 b hb
  exact (sN_of h2 (by omega)).1
theorem SI_cu2 {s : Nat → Int32} (h : SI s) {b : Nat} (hb : b < 40) : sN s (233 + 12 * b + 0) < 8 := by
  obtain ⟨nb, h1, h2⟩ := h.2.2.1 b hb
  rw [(sN_of h2 (by omega)).2]; exact h1
theorem SI_rt {s : Nat → Int32} (h : SI s) {b : Nat} (hb : b < 40) : ¬ (100 : Int32) + s (233 + 12 * b + 2) = 0 := by
  obtain ⟨r, h1, h2⟩ := h.2.2.2 b hb
  rw [h2]
  intro z
  have h3 : nI 100 + nI r = nI (100 + r) := nI_add 100 r
  have h4 : nI (100 + r) = 0 := h3.symm.trans z
  exact nI_ne0 (by omega) (by omega) h4
/-- the rows that SI looks at are the same -/
theorem SI_same {s s' : Nat → Int32} (h : SI s) (h6 : s' 6 = s 6) (h0 : s' 0 = s 0) (hc : ∀ b, b < 40 → s' (233 + 12 * b + 0) = s (233 + 12 * b + 0)) (hr : ∀ b, b < 40 → s' (233 + 12 * b + 2) = s (233 + 12 * b + 2)) : SI s' := by
  refine ⟨?_, ?_, fun b hb => ?_, fun b hb => ?_⟩
  · rw [h6]; exact h.1
  · rw [h0]; exact h.2.1
  · rw [hc b hb]; exact h.2.2.1 b hb
  · rw [hr b hb]; exact h.2.2.2 b hb
