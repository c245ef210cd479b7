theorem i32_1 {x : Int32} {n : Nat} (h0 : 0 ≤ x.toInt) (h1 : x.toInt < n) (hn : n < 2 ^ 31) : (x + 1).toInt = x.toInt + 1 := by
  obtain ⟨j, hj, rfl⟩ := vp_in_of (vp_of h0 h1) hn
  rw [nI_1, nI_toInt (by omega), nI_toInt (by omega)]
  rfl
theorem digit_ok {t : Nat → Nat → Int32} (h : ¬ v_X4_digitAtPlace t = (-1 : Int32)) : 0 ≤ (t 0 2).toInt ∧ (t 0 2).toInt < 60 := by
  unfold v_X4_digitAtPlace at h
  by_cases h1 : t 0 2 < 0
  · exact absurd (if_pos h1) h
  · rw [if_neg h1] at h
    by_cases h2 : t 0 1 ≤ t 0 2
    · exact absurd (if_pos h2) h
    · rw [if_neg h2] at h
      by_cases h3 : t 0 2 < (60 : Int32)
      · exact ⟨vp_lo1 h1, vp_hi2 (n := 60) h3 rfl (by decide)⟩
      · exact absurd (if_neg h3) h
theorem digit_big {t : Nat → Nat → Int32} (h : 60 ≤ (t 0 2).toInt) : v_X4_digitAtPlace t = (-1 : Int32) := by
  by_cases h1 : v_X4_digitAtPlace t = (-1 : Int32)
  · exact h1
  · have := (digit_ok h1).2
    omega
theorem place_step {t : Nat → Nat → Int32} {n : Nat} (h : ¬ v_X4_digitAtPlace t = (-1 : Int32)) (hm : 61 ≤ (t 0 2).toInt + ((n + 1 : Nat) : Int)) : 61 ≤ ((up t 0 2 (t 0 2 + (1 : Int32))) 0 2).toInt + (n : Int) := by
  obtain ⟨h1, h2⟩ := digit_ok h
  rw [up_same, i32_1 (n := 60) h1 (by omega) (by decide)]
  omega
theorem place_init {t : Nat → Nat → Int32} {p1 : Int32} (h : ¬ v_X4_digitAtPlace t < p1) (h0 : ¬ p1 < 0) : 61 ≤ ((up t 0 2 (t 0 2 + (1 : Int32))) 0 2).toInt + ((61 : Nat) : Int) := by
  have h2 : ¬ v_X4_digitAtPlace t = (-1 : Int32) := by
    intro z
    rw [z] at h
    have h3 := vp_lo1 h0
    have h4 := Int32.le_iff_toInt_le.mp (Int32.not_lt.mp h)
    have h5 : (-1 : Int32).toInt = -1 := by decide
    omega
  obtain ⟨h3, h4⟩ := digit_ok h2
  rw [up_same, i32_1 (n := 60) h3 (by omega) (by decide)]
  omega
