theorem tGood_fl {u : Nat → Nat → Int32} : tGood u 0 12 = 0 := (up_nk (by decide)).trans up_same
theorem tnl_fl {p1 p2 : Int32} : ∀ (n : Nat) (X : Nat → Nat → Int32) (x3 x4 : Int32), w_X6_takesNumber_loop p1 p2 n X x3 x4 0 12 = X 0 12 := by
  intro n
  induction n with
  | zero => intro X x3 x4; rfl
  | succ n ih =>
    intro X x3 x4
    unfold w_X6_takesNumber_loop
    by_cases c1 : x4 = 0
    · rw [if_pos c1]
    · rw [if_neg c1]
      by_cases c2 : v_X6_isNext X (48 : Int32) (57 : Int32) = 0
      · rw [if_pos c2]; exact ih _ _ _
      · rw [if_neg c2]
        by_cases c3 : p2 < (((10 : Int32) * x3) + (X 6 (sN (X 0) 11))) - (48 : Int32)
        · rw [if_pos c3]; exact ih _ _ _
        · rw [if_neg c3, ih, takes_good c2, tGood_fl, (isNext_ok c2).1]
theorem takesNumber_fl {X : Nat → Nat → Int32} {a b : Int32} : w_X6_takesNumber X a b 0 12 = w_X6_takes X ((48 : Int32) + a) (57 : Int32) 0 12 := by
  unfold w_X6_takesNumber
  split
  · exact tnl_fl _ _ _ _
  · exact tnl_fl _ _ _ _
theorem takesBehind_fl {X : Nat → Nat → Int32} {a b c : Int32} (h : w_X6_takesBehind X a b c 0 12 = 0) : X 0 12 = 0 := by
  unfold w_X6_takesBehind at h
  by_cases hc : v_X6_isNext X a a = 0
  · rw [if_pos hc] at h
    exact (up_nk (by decide)).symm.trans h
  · exact (isNext_ok hc).1
theorem digit_val {c : Int32} {A B : Nat} (h : ¬ v_X6_in c (nI A) (nI B) = 0) (hB : B < 2 ^ 30) (hA : A < 2 ^ 30 := by decide) : ∃ k : Nat, A ≤ k ∧ k ≤ B ∧ c = nI k := by
  obtain ⟨h1, h2⟩ := in6 h
  obtain ⟨j, hj, rfl⟩ := vp_in_of (n := B + 1) (vp_in6 h (by rw [nI_toInt (by omega)]; omega) (by rw [nI_toInt (by omega)]; omega)) (by omega)
  exact ⟨j, (nI_leI (by omega) (by omega)).mp h1, by omega, rfl⟩
theorem tnl_val {p1 : Int32} {A P : Nat} (hP : P ≤ 99999) : ∀ (n : Nat) (X : Nat → Nat → Int32) (w : Nat) (x4 : Int32), A ≤ w → w ≤ P → ∃ w' : Nat, A ≤ w' ∧ w' ≤ P ∧ v_X6_takesNumber_loop p1 (nI P) n X (nI w) x4 = nI w' := by
  intro n
  induction n with
  | zero => intro X w x4 h1 h2; exact ⟨w, h1, h2, rfl⟩
  | succ n ih =>
    intro X w x4 h1 h2
    unfold v_X6_takesNumber_loop
    by_cases c1 : x4 = 0
    · rw [if_pos c1]; exact ⟨w, h1, h2, rfl⟩
    · rw [if_neg c1]
      by_cases c2 : v_X6_isNext X (48 : Int32) (57 : Int32) = 0
      · rw [if_pos c2]; exact ih _ _ _ h1 h2
      · rw [if_neg c2]
        obtain ⟨g1, g2, g3⟩ := isNext_ok c2
        obtain ⟨k, k1, k2, k3⟩ := digit_val (A := 48) (B := 57) g3 (by decide)
        have e10 : (10 : Int32) * nI w = nI (10 * w) := pk_mul 10 w
        have e1 : (((10 : Int32) * nI w) + (X 6 (sN (X 0) 11))) - (48 : Int32) = nI (10 * w + (k - 48)) := by
          rw [e10, k3, nI_add]
          exact (pk_sub (a := 10 * w + k) (b := 48) (by omega)).trans (congrArg nI (by omega))
        have e2 : (10 : Int32) * nI w + v_X6_takes X (48 : Int32) (57 : Int32) = nI (10 * w + (k - 48)) := by
          rw [takes_val g2, e10, k3]
          have e3 : nI k - (48 : Int32) = nI (k - 48) := pk_sub (a := k) (b := 48) k1
          rw [e3, nI_add]
        rw [e1]
        by_cases c3 : nI P < nI (10 * w + (k - 48))
        · rw [if_pos c3]; exact ih _ _ _ h1 h2
        · rw [if_neg c3, e2]
          refine ih _ _ _ (by omega) ?_
          rcases Nat.lt_or_ge P (10 * w + (k - 48)) with h5 | h5
          · exact absurd ((nI_ltI (by omega) (by omega)).mpr h5) c3
          · exact h5
theorem takesNumber_val {X : Nat → Nat → Int32} {A P : Nat} (hA : A ≤ 1) (hP9 : 9 ≤ P) (hP : P ≤ 99999) (h : w_X6_takesNumber X (nI A) (nI P) 0 12 = 0) : ∃ w : Nat, A ≤ w ∧ w ≤ P ∧ v_X6_takesNumber X (nI A) (nI P) = nI w := by
  rw [takesNumber_fl] at h
  have e48 : (48 : Int32) + nI A = nI (48 + A) := nI_add 48 A
  have hle : ¬ (48 : Int32) + nI A ≤ 0 := by
    rw [e48]; exact nI_nle (by omega) (by omega)
  obtain ⟨g1, g2, g3, g4⟩ := takes_ok hle h
  rw [e48] at g3
  obtain ⟨k, k1, k2, k3⟩ := digit_val (A := 48 + A) (B := 57) g3 (by decide) (by omega)
  have e : nI A + v_X6_takes X ((48 : Int32) + nI A) (57 : Int32) = nI (k - 48) := by
    rw [takes_val g2, k3, e48]
    have e3 : nI k - nI (48 + A) = nI (k - (48 + A)) := pk_sub k1
    rw [e3, nI_add]
    congr 1; omega
  unfold v_X6_takesNumber
  rw [e]
  split
  · exact tnl_val hP _ _ _ _ (by omega) (by omega)
  · exact tnl_val hP _ _ _ _ (by omega) (by omega)
/-- what was read is in its ranges -/
def HV (u : Nat → Nat → Int32) : Prop :=
  (u 7 0 = (98 : Int32) ∧ (∃ c : Nat, c < 8 ∧ u 7 1 = nI c) ∧ (∃ v : Nat, 1 ≤ v ∧ v ≤ 9999 ∧ u 7 2 = nI v) ∧ (∃ r : Nat, r ≤ 40 ∧ u 7 3 = nI r) ∧ ∃ d : Nat, d ≤ 99 ∧ u 7 4 = nI d) ∨
  (u 7 0 = (112 : Int32) ∧ (∃ c : Nat, c < 8 ∧ u 7 1 = nI c) ∧ (∃ v : Nat, 1 ≤ v ∧ v ≤ 99999 ∧ u 7 2 = nI v) ∧ (u 7 3 = (-5 : Int32) ∨ ∃ k : Nat, k ≤ 39 ∧ u 7 3 = nI k)) ∨
  u 7 0 = (114 : Int32) ∨ (u 7 0 = (46 : Int32) ∧ ∃ d : Nat, 1 ≤ d ∧ d ≤ 99 ∧ u 7 1 = nI d)
theorem HV.toHD {u : Nat → Nat → Int32} (h : HV u) : HD u := by
  rcases h with ⟨h0, h1, -, h3, -⟩ | ⟨h0, h1, -, -⟩ | h0 | ⟨h0, d, -, h1, h2⟩
  · exact ⟨fun _ => h1, fun _ => h3, fun z => absurd h0 z⟩
  · exact ⟨fun _ => h1, fun z => absurd (h0.symm.trans z) (by decide), fun _ z => absurd h0 z⟩
  · exact ⟨fun z => z.elim (fun z => absurd (h0.symm.trans z) (by decide)) (fun z => absurd (h0.symm.trans z) (by decide)), fun z => absurd (h0.symm.trans z) (by decide), fun _ _ z => absurd h0 z⟩
  · exact ⟨fun z => z.elim (fun z => absurd (h0.symm.trans z) (by decide)) (fun z => absurd (h0.symm.trans z) (by decide)), fun z => absurd (h0.symm.trans z) (by decide), fun _ _ _ => ⟨d, h1, h2⟩⟩
theorem rtL_7 {u : Nat → Nat → Int32} : rtL u 7 0 = u 6 (sN (u 0) 11) := up_same
theorem thC_ok {Y : Nat → Nat → Int32} (h : thC Y 0 12 = 0) : ∃ c : Nat, c < 8 ∧ thC Y 7 1 = nI c := by
  have h1 : w_X6_takes Y (48 : Int32) (55 : Int32) 0 12 = 0 := (up_ni (by decide)).symm.trans h
  obtain ⟨g1, g2, g3, g4⟩ := takes_ok (by decide) h1
  obtain ⟨k, k1, k2, k3⟩ := digit_val (A := 48) (B := 55) g3 (by decide)
  refine ⟨k - 48, by omega, ?_⟩
  have e3 : nI k - (48 : Int32) = nI (k - 48) := pk_sub (a := k) (b := 48) k1
  show up _ 7 1 _ 7 1 = _
  rw [up_same, takes_val g2, k3, e3]
theorem thK_ok {Y : Nat → Nat → Int32} (h : thK Y 0 12 = 0) : Y 0 12 = 0 := (takes_ok (by decide) h).1
theorem thA_ok {Y : Nat → Nat → Int32} {P : Nat} (hP9 : 9 ≤ P) (hP : P ≤ 99999) (h : thA (nI P) Y 0 12 = 0) : Y 0 12 = 0 ∧ ∃ v : Nat, 1 ≤ v ∧ v ≤ P ∧ thA (nI P) Y 7 2 = nI v := by
  have h1 : w_X6_takesNumber Y (1 : Int32) (nI P) 0 12 = 0 := (up_ni (by decide)).symm.trans h
  obtain ⟨w, w1, w2, w3⟩ := takesNumber_val (A := 1) (by decide) hP9 hP h1
  rw [takesNumber_fl] at h1
  exact ⟨(takes_ok (by decide) h1).1, w, w1, w2, up_same.trans w3⟩
theorem thD_ok {Y : Nat → Nat → Int32} (h : thD Y 0 12 = 0) : ∃ v : Nat, 1 ≤ v ∧ v ≤ 99 ∧ thD Y 7 1 = nI v := by
  have h1 : w_X6_takesNumber Y (1 : Int32) (nI 99) 0 12 = 0 := (up_ni (by decide)).symm.trans h
  obtain ⟨w, w1, w2, w3⟩ := takesNumber_val (A := 1) (by decide) (by decide) (by decide) h1
  exact ⟨w, w1, w2, up_same.trans w3⟩
theorem thN_ok {Y : Nat → Nat → Int32} {k P : Nat} {a c : Int32} (hP9 : 9 ≤ P) (hP : P ≤ 99999) (h : thN k a (nI P) c Y 0 12 = 0) : Y 0 12 = 0 ∧ (thN k a (nI P) c Y 7 k = c ∨ ∃ v : Nat, v ≤ P ∧ thN k a (nI P) c Y 7 k = nI v) := by
  have h1 : w_X6_takesBehind Y a (nI P) c 0 12 = 0 := (up_ni (by decide)).symm.trans h
  refine ⟨takesBehind_fl h1, ?_⟩
  have e : thN k a (nI P) c Y 7 k = v_X6_takesBehind Y a (nI P) c := up_same
  rw [e]
  unfold v_X6_takesBehind
  unfold w_X6_takesBehind at h1
  by_cases hc : v_X6_isNext Y a a = 0
  · left; rw [if_pos hc]
  · right
    rw [if_neg hc] at h1 ⊢
    obtain ⟨w, w1, w2, w3⟩ := takesNumber_val (A := 0) (by decide) hP9 hP h1
    exact ⟨w, w2, w3⟩
theorem thN_7 {Y : Nat → Nat → Int32} {k q : Nat} {a b c : Int32} (h : q ≠ k) : thN k a b c Y 7 q = Y 7 q := (up_nk h).trans (congrFun (takesBehind_o (by decide)) q)
theorem thA_7 {Y : Nat → Nat → Int32} {q : Nat} {b : Int32} (h : q ≠ 2) : thA b Y 7 q = Y 7 q := (up_nk h).trans (congrFun (takesNumber_o (by decide)) q)
theorem thK_7 {Y : Nat → Nat → Int32} {q : Nat} : thK Y 7 q = Y 7 q := congrFun (takes_o (by decide)) q
theorem thC_7 {Y : Nat → Nat → Int32} {q : Nat} (h : q ≠ 1) : thC Y 7 q = Y 7 q := (up_nk h).trans (congrFun (takes_o (by decide)) q)
theorem thD_7 {Y : Nat → Nat → Int32} {q : Nat} (h : q ≠ 1) : thD Y 7 q = Y 7 q := (up_nk h).trans (congrFun (takesNumber_o (by decide)) q)
theorem readThing_HV {u : Nat → Nat → Int32} (hw : u 0 12 = 0) (h : w_X6_readThing u 0 12 = 0) : HV (w_X6_readThing u) := by
  have hbad : ∀ v : Int32, ¬ up (rt0 (1 : Int32) (0 : Int32) u) 7 0 v 0 12 = 0 := by
    intro v z
    have e : up (rt0 (1 : Int32) (0 : Int32) u) 7 0 v 0 12 = 1 := (up_ni (by decide)).trans ((up_nk (by decide)).trans up_same)
    rw [e] at z
    exact absurd z (by decide)
  by_cases hs : u 0 8 ≤ u 0 11
  · rw [rT_s hs] at h; exact absurd h (hbad _)
  · by_cases h1 : u 6 (sN (u 0) 11) = (98 : Int32)
    · rw [rT_b hs hw h1] at h ⊢
      obtain ⟨f1, v1⟩ := thN_ok (P := 99) (by decide) (by decide) h
      obtain ⟨f2, v2⟩ := thN_ok (P := 40) (by decide) (by decide) f1
      obtain ⟨f3, v3⟩ := thA_ok (P := 9999) (by decide) (by decide) f2
      obtain ⟨c, c1, c2⟩ := thC_ok (thK_ok f3)
      left
      refine ⟨?_, ⟨c, c1, ?_⟩, ?_, ?_, ?_⟩
      · exact (thN_7 (by decide)).trans ((thN_7 (by decide)).trans ((thA_7 (by decide)).trans (thK_7.trans ((thC_7 (by decide)).trans (rtL_7.trans h1)))))
      · exact (thN_7 (by decide)).trans ((thN_7 (by decide)).trans ((thA_7 (by decide)).trans (thK_7.trans c2)))
      · obtain ⟨v, w1, w2, w3⟩ := v3
        exact ⟨v, w1, w2, (thN_7 (by decide)).trans ((thN_7 (by decide)).trans w3)⟩
      · rcases v2 with w | ⟨v, w1, w2⟩
        · exact ⟨20, by decide, (thN_7 (by decide)).trans w⟩
        · exact ⟨v, w1, (thN_7 (by decide)).trans w2⟩
      · rcases v1 with w | ⟨v, w1, w2⟩
        · exact ⟨14, by decide, w⟩
        · exact ⟨v, w1, w2⟩
    · by_cases h2 : u 6 (sN (u 0) 11) = (112 : Int32)
      · rw [rT_p hs hw h2] at h ⊢
        have h' : thN 3 (35 : Int32) (nI 39) (-5 : Int32) (thA (99999 : Int32) (thK (thC (rtL u)))) 0 12 = 0 := (up_ni (by decide)).symm.trans h
        obtain ⟨f2, v2⟩ := thN_ok (P := 39) (by decide) (by decide) h'
        obtain ⟨f3, v3⟩ := thA_ok (P := 99999) (by decide) (by decide) f2
        obtain ⟨c, c1, c2⟩ := thC_ok (thK_ok f3)
        right; left
        refine ⟨?_, ⟨c, c1, ?_⟩, ?_, ?_⟩
        · exact (up_nk (by decide)).trans ((thN_7 (by decide)).trans ((thA_7 (by decide)).trans (thK_7.trans ((thC_7 (by decide)).trans (rtL_7.trans h2)))))
        · exact (up_nk (by decide)).trans ((thN_7 (by decide)).trans ((thA_7 (by decide)).trans (thK_7.trans c2)))
        · obtain ⟨v, w1, w2, w3⟩ := v3
          exact ⟨v, w1, w2, (up_nk (by decide)).trans ((thN_7 (by decide)).trans w3)⟩
        · rcases v2 with w | ⟨v, w1, w2⟩
          · exact Or.inl ((up_nk (by decide)).trans w)
          · exact Or.inr ⟨v, w1, (up_nk (by decide)).trans w2⟩
      · by_cases h3 : u 6 (sN (u 0) 11) = (114 : Int32)
        · rw [rT_r hs hw h3] at h ⊢
          right; right; left
          exact rtL_7.trans h3
        · by_cases h4 : u 6 (sN (u 0) 11) = (46 : Int32)
          · rw [rT_d hs hw h4] at h ⊢
            right; right; right
            obtain ⟨v, w1, w2, w3⟩ := thD_ok h
            exact ⟨(thD_7 (by decide)).trans (rtL_7.trans h4), v, w1, w2, w3⟩
          · rw [rT_x hs hw h1 h2 h3 h4] at h; exact absurd h (hbad _)
