theorem countBills_lp (b : Nat → Nat → Int32) (p1 p2 : Int32) : ∀ (n k c : Nat), ∃ c' : Nat, c' ≤ c + n ∧ v_X1_countBills_loop b p1 p2 n k (nI c) = nI c' := by
  intro n
  induction n with
  | zero => intro k c; exact ⟨c, Nat.le_refl _, rfl⟩
  | succ n ih =>
    intro k c
    by_cases h : v_X0_is b k p1 p2 = 0
    · obtain ⟨c', h1, h2⟩ := ih (k + 1) c
      exact ⟨c', by omega, (if_pos h).trans ((congrArg _ (nI_add c 0)).trans h2)⟩
    · obtain ⟨c', h1, h2⟩ := ih (k + 1) (c + 1)
      exact ⟨c', by omega, (if_neg h).trans ((congrArg _ (nI_add c 1)).trans h2)⟩
theorem countBills_nat (b : Nat → Nat → Int32) (p1 p2 : Int32) : ∃ c : Nat, c ≤ 40 ∧ v_X1_countBills b p1 p2 = nI c := by
  obtain ⟨c, h1, h2⟩ := countBills_lp b p1 p2 40 0 0
  exact ⟨c, by omega, h2⟩
theorem countBills_nn (b : Nat → Nat → Int32) (p1 p2 : Int32) : 0 ≤ (v_X1_countBills b p1 p2).toInt := by
  obtain ⟨c, h1, h2⟩ := countBills_nat b p1 p2
  rw [h2, nI_toInt (by omega)]
  omega
theorem billAt_lt {b : Nat → Nat → Int32} {x : Int32} {j : Nat} (h : v_X1_billAt b x = some j) : j < 40 := by
  unfold v_X1_billAt at h
  by_cases h1 : x < 0
  · rw [if_pos h1] at h; cases h
  · rw [if_neg h1] at h
    by_cases h2 : (40 : Int32) ≤ x
    · rw [if_pos h2] at h; cases h
    · rw [if_neg h2] at h
      have h3 := vp_lt (vp_of (vp_lo1 h1) (vp_hi1 (n := 40) (n' := 40) h2 rfl (by decide)))
      split at h
      · cases h
      · cases h; exact h3
