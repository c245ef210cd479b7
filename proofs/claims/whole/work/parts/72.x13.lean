/-! what the reference records -/
theorem rc2 : ∀ (m k : Nat) (u : Nat → Nat → Int32), k + m = 713 → w_X6_records_loop2 m k u 0 6 = u 0 6 + (1 : Int32) ∧ (∀ q, q ≠ 6 → w_X6_records_loop2 m k u 0 q = u 0 q) ∧ ∀ p, w_X6_records_loop2 m k u 5 p = if 713 * sN (u 0) 6 + k ≤ p ∧ p < 713 * sN (u 0) 6 + 713 then u 3 (p - 713 * sN (u 0) 6) else u 5 p := by
  intro m
  induction m with
  | zero =>
    intro k u hk
    refine ⟨up_same, fun q hq => up_nk hq, fun p => ?_⟩
    rw [if_neg (by omega)]
    exact up_ni (by decide)
  | succ m ih =>
    intro k u hk
    have e : w_X6_records_loop2 (m + 1) k u = w_X6_records_loop2 m (k + 1) (up u 5 (713 * (sN (u 0) 6) + k) (u 3 k)) := rfl
    have e0 : ∀ v : Int32, up u 5 (713 * (sN (u 0) 6) + k) v 0 = u 0 := fun v => up_oi (by decide)
    have e3 : ∀ v : Int32, up u 5 (713 * (sN (u 0) 6) + k) v 3 = u 3 := fun v => up_oi (by decide)
    obtain ⟨h1, h2, h3⟩ := ih (k + 1) (up u 5 (713 * (sN (u 0) 6) + k) (u 3 k)) (by omega)
    rw [e0] at h1 h3
    refine ⟨by rw [e]; exact h1, fun q hq => by rw [e, h2 q hq, e0], fun p => ?_⟩
    rw [e, h3 p, e3]
    by_cases g : p = 713 * sN (u 0) 6 + k
    · subst g
      rw [if_neg (by omega), if_pos (by omega), up_same]
      congr 1; omega
    · rw [up_nk g]
      by_cases g2 : 713 * sN (u 0) 6 + (k + 1) ≤ p ∧ p < 713 * sN (u 0) 6 + 713
      · rw [if_pos g2, if_pos (by omega)]
      · rw [if_neg g2, if_neg (by omega)]
theorem rc1 : ∀ (m k : Nat) (u : Nat → Nat → Int32), k + m = 2139 → ∃ U : Nat → Nat → Int32, w_X6_records_loop1 m k u = w_X6_records_loop2 713 0 (up U 0 6 (U 0 6 - (1 : Int32))) ∧ (∀ i, i ≠ 5 → U i = u i) ∧ ∀ p, U 5 p = if k ≤ p ∧ p < 2139 then u 5 (713 + p) else u 5 p := by
  intro m
  induction m with
  | zero =>
    intro k u hk
    refine ⟨u, rfl, fun _ _ => rfl, fun p => ?_⟩
    rw [if_neg (by omega)]
  | succ m ih =>
    intro k u hk
    obtain ⟨U, h1, h2, h3⟩ := ih (k + 1) (up u 5 k (u 5 (713 + k))) (by omega)
    refine ⟨U, h1, fun i hi => (h2 i hi).trans (up_oi hi), fun p => ?_⟩
    rw [h3 p]
    by_cases g : p = k
    · subst g
      rw [if_neg (by omega), if_pos (by omega), up_same]
    · rw [up_nk g]
      by_cases g2 : k + 1 ≤ p ∧ p < 2139
      · rw [if_pos g2, if_pos (by omega), up_nk (by omega)]
      · rw [if_neg g2, if_neg (by omega)]
theorem rec_KH {a : Nat → Int32} {u w : Nat → Nat → Int32} {k : Nat} (hk : k ≤ 4) (h6 : u 0 6 = nI k) (e6 : w 0 6 = u 0 6) (e5 : w 5 = u 5) (ea : ∀ q, q < 713 → w 3 q = a q) : KH a u (w_X6_records w) := by
  have hw6 : w 0 6 = nI k := e6.trans h6
  unfold w_X6_records
  by_cases h4 : w 0 6 = (4 : Int32)
  · rw [if_pos h4]
    have e4 : k = 4 := (nI_eq (by omega) (by decide)).mp (hw6.symm.trans h4)
    subst e4
    obtain ⟨U, h1, h2, h3⟩ := rc1 2139 0 w rfl
    rw [h1]
    have eU : up U 0 6 (U 0 6 - (1 : Int32)) 0 6 = nI 3 := by
      rw [up_same, h2 0 (by decide), hw6]; rfl
    have eU5 : up U 0 6 (U 0 6 - (1 : Int32)) 5 = U 5 := up_oi (by decide)
    have eU3 : up U 0 6 (U 0 6 - (1 : Int32)) 3 = U 3 := up_oi (by decide)
    have sU : sN (up U 0 6 (U 0 6 - (1 : Int32)) 0) 6 = 3 := (sN_of eU (by decide)).2
    obtain ⟨g1, g2, g3⟩ := rc2 713 0 (up U 0 6 (U 0 6 - (1 : Int32))) rfl
    rw [sU, eU5, eU3] at g3
    refine ⟨4, hk, h6, Or.inr ⟨rfl, ?_, fun i hi q hq => ?_, fun q hq => ?_⟩⟩
    · rw [g1, eU]; rfl
    · rw [g3, if_neg (by omega), h3, if_pos (by omega), e5, show 713 + (713 * i + q) = 713 * (i + 1) + q by omega]
    · rw [g3, if_pos (by omega), h2 3 (by decide), show 713 * 3 + q - 713 * 3 = q by omega]
      exact ea q hq
  · rw [if_neg h4]
    have hk4 : k < 4 := by
      rcases (show k = 4 ∨ k < 4 by omega) with rfl | z
      · exact absurd hw6 h4
      · exact z
    have sw : sN (w 0) 6 = k := (sN_of hw6 (by omega)).2
    obtain ⟨g1, g2, g3⟩ := rc2 713 0 w rfl
    rw [sw] at g3
    refine ⟨k, hk, h6, Or.inl ⟨hk4, ?_, fun i hi q hq => ?_, fun q hq => ?_⟩⟩
    · rw [g1, hw6, nI_1]
    · rw [g3, if_neg (by omega), e5]
    · rw [g3, if_pos (by omega), show 713 * k + q - 713 * k = q by omega]
      exact ea q hq
theorem rec_0 {u : Nat → Nat → Int32} {q : Nat} (hq : q ≠ 6) : w_X6_records u 0 q = u 0 q := by
  unfold w_X6_records
  split
  · obtain ⟨U, h1, h2, h3⟩ := rc1 2139 0 u rfl
    rw [h1, (rc2 713 0 _ rfl).2.1 q hq, up_nk hq, h2 0 (by decide)]
  · exact (rc2 713 0 u rfl).2.1 q hq
theorem looks_3 {u : Nat → Nat → Int32} {q : Nat} (hq : q < 713) : w_X6_looks u 3 q = u 1 q := by
  rw [looks_eq]
  exact if_pos ⟨rfl, hq⟩
theorem know_KH {u : Nat → Nat → Int32} (h : KI (u 0)) : KH (u 1) u (w_X6_know u) := by
  obtain ⟨k, hk, h6⟩ := h
  exact rec_KH hk h6 (by rw [looks_o (by decide)]) (looks_o (by decide)) (fun q hq => looks_3 hq)
theorem know_uA {u : Nat → Nat → Int32} : uA u (w_X6_know u) := by
  refine ⟨know_o (by decide) (by decide) (by decide), know_o (by decide) (by decide) (by decide), fun k hk => ?_⟩
  unfold w_X6_know
  rw [rec_0 (by omega), looks_o (by decide)]
/-- only the row changes behind -/
theorem KH_r {a : Nat → Int32} {u w w' : Nat → Nat → Int32} (h : KH a u w) (e0 : w' 0 6 = w 0 6) (e5 : w' 5 = w 5) : KH a u w' := by
  obtain ⟨k, hk, h6, g⟩ := h
  refine ⟨k, hk, h6, ?_⟩
  rw [e0, e5]
  exact g
theorem KH_l {a : Nat → Int32} {u u1 w : Nat → Nat → Int32} (h : KH a u1 w) (e0 : u1 0 6 = u 0 6) (e5 : u1 5 = u 5) : KH a u w := by
  obtain ⟨k, hk, h6, g⟩ := h
  refine ⟨k, hk, e0.symm.trans h6, ?_⟩
  rw [e5] at g
  exact g
theorem KH_a {a a' : Nat → Int32} {u w : Nat → Nat → Int32} (h : KH a u w) (e : ∀ q, q < 713 → a q = a' q) : KH a' u w := by
  obtain ⟨k, hk, h6, g⟩ := h
  refine ⟨k, hk, h6, ?_⟩
  rcases g with ⟨g1, g2, g3, g4⟩ | ⟨g1, g2, g3, g4⟩
  · exact Or.inl ⟨g1, g2, g3, fun q hq => (g4 q hq).trans (e q hq)⟩
  · exact Or.inr ⟨g1, g2, g3, fun q hq => (g4 q hq).trans (e q hq)⟩
theorem uA_r {u w w' : Nat → Nat → Int32} (h : uA u w) (e4 : w' 4 = w 4) (e6 : w' 6 = w 6) (e0 : w' 0 = w 0) : uA u w' := ⟨e4.trans h.1, e6.trans h.2.1, fun k hk => by rw [e0]; exact h.2.2 k hk⟩
theorem RL_SI {z : CS} {u : Nat → Nat → Int32} (h : RLz z u) : SI (u 1) := h.2.2.1.1
theorem RL_KI {z : CS} {u : Nat → Nat → Int32} (h : RLz z u) : KI (u 0) := by
  obtain ⟨k, hk, -, h5, -⟩ := h.2.2.2.1
  exact ⟨k, hk, h5⟩
theorem RL_LI {z : CS} {u : Nat → Nat → Int32} (h : RLz z u) : LI (u 0) := by
  obtain ⟨n, hn, -, h5, -⟩ := h.2.2.2.2.2.1
  exact ⟨n, hn, h5⟩
theorem uE_PR2 {u u' : Nat → Nat → Int32} (h1 : u' 1 = u 1) (ho : ∀ i, i ≠ 1 → i ≠ 2 → u' i = u i) : uE u u' := ⟨fun q _ => congrFun h1 q, ho 5 (by decide) (by decide), ho 4 (by decide) (by decide), ho 6 (by decide) (by decide), fun k _ => congrFun (ho 0 (by decide) (by decide)) k⟩
theorem uE_KI {u u' : Nat → Nat → Int32} (h : uE u u') (hk : KI (u 0)) : KI (u' 0) := by
  obtain ⟨k, h1, h2⟩ := hk
  exact ⟨k, h1, (h.2.2.2.2 6 (by omega)).trans h2⟩
/-- know, then a change of the row alone -/
theorem act_know {z : CS} {u u1 w W : Nat → Nat → Int32} {ans : Int32} (h : RLz z u) (he : uE u u1) (ha : ¬ ans < 0) (hw : ∀ i, i ≠ 1 → w i = w_X6_know u1 i) (hW : BR W (w 1)) : RLz (w_X5_endAct (zB (w_X5_startAct z) (z.1 0) W) ans) w := by
  have hK := know_KH (uE_KI he (RL_KI h))
  have hA := know_uA (u := u1)
  refine act_ok h ha hW (KH_r (KH_a (KH_l hK (he.2.2.2.2 6 (by omega)) he.2.1) he.1) (congrFun (hw 0 (by decide)) 6) (hw 5 (by decide))) ⟨?_, ?_, fun k hk => ?_⟩
  · rw [hw 4 (by decide), hA.1, he.2.2.1]
  · rw [hw 6 (by decide), hA.2.1, he.2.2.2.1]
  · rw [hw 0 (by decide), hA.2.2 k hk, he.2.2.2.2 k (by omega)]
