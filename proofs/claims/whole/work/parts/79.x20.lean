/-! the text is read alike on both sides -/
def TR (t u : Nat → Nat → Int32) (n p : Nat) : Prop := p ≤ n ∧ n ≤ 60 ∧ t 0 1 = nI n ∧ u 0 8 = nI n ∧ t 0 2 = nI p ∧ u 0 11 = nI p ∧ ∀ q, q < n → t 1 q = u 6 q
theorem TR_t {t u : Nat → Nat → Int32} {n p k : Nat} {v : Int32} (h : TR t u n p) (h1 : k ≠ 1) (h2 : k ≠ 2) : TR (up t 0 k v) u n p := by
  obtain ⟨a1, a2, a3, a4, a5, a6, a7⟩ := h
  exact ⟨a1, a2, (up_nk (Ne.symm h1)).trans a3, a4, (up_nk (Ne.symm h2)).trans a5, a6, fun q hq => (up_ni (by decide)).trans (a7 q hq)⟩
theorem TR_7 {t u : Nat → Nat → Int32} {n p k : Nat} {v : Int32} (h : TR t u n p) : TR t (up u 7 k v) n p := by
  obtain ⟨a1, a2, a3, a4, a5, a6, a7⟩ := h
  exact ⟨a1, a2, a3, (up_ni (by decide)).trans a4, a5, (up_ni (by decide)).trans a6, fun q hq => (a7 q hq).trans (up_ni (by decide)).symm⟩
theorem TR_12 {t u : Nat → Nat → Int32} {n p : Nat} {w v : Int32} (h : TR t u n p) (hv : v = nI p) : TR t (up (up u 0 12 w) 0 11 v) n p := by
  obtain ⟨a1, a2, a3, a4, a5, a6, a7⟩ := h
  exact ⟨a1, a2, a3, (up_nk (by decide)).trans ((up_nk (by decide)).trans a4), a5, up_same.trans hv, fun q hq => (a7 q hq).trans ((up_ni (by decide)).trans (up_ni (by decide))).symm⟩
theorem TR_bad {t u : Nat → Nat → Int32} {n p : Nat} (h : TR t u n p) : TR t (tBad u) n p ∧ tBad u 0 12 = (1 : Int32) := ⟨TR_12 h ((Int32.add_zero _).trans h.2.2.2.2.2.1), (up_nk (by decide)).trans up_same⟩
theorem TR_p1 {t u : Nat → Nat → Int32} {n p : Nat} {w : Int32} (h : TR t u n p) (hp : p < n) : TR (up t 0 2 (t 0 2 + (1 : Int32))) (up (up u 0 12 w) 0 11 (u 0 11 + (1 : Int32))) n (p + 1) := by
  obtain ⟨a1, a2, a3, a4, a5, a6, a7⟩ := h
  refine ⟨by omega, a2, (up_nk (by decide)).trans a3, (up_nk (by decide)).trans ((up_nk (by decide)).trans a4), ?_, ?_, fun q hq => (up_ni (by decide)).trans ((a7 q hq).trans ((up_ni (by decide)).trans (up_ni (by decide))).symm)⟩
  · rw [up_same, a5, nI_1]
  · rw [up_same, a6, nI_1]
theorem TR_good {t u : Nat → Nat → Int32} {n p : Nat} (h : TR t u n p) (hp : p < n) : TR (up t 0 2 (t 0 2 + (1 : Int32))) (tGood u) n (p + 1) := TR_p1 h hp
theorem TR_pb {t u : Nat → Nat → Int32} {n p : Nat} (h : TR t u n p) (hp : p < n) : TR (up t 0 2 (t 0 2 + (1 : Int32))) (up u 0 11 (u 0 11 + (1 : Int32))) n (p + 1) := by
  obtain ⟨a1, a2, a3, a4, a5, a6, a7⟩ := h
  refine ⟨by omega, a2, (up_nk (by decide)).trans a3, (up_nk (by decide)).trans a4, ?_, ?_, fun q hq => (up_ni (by decide)).trans ((a7 q hq).trans (up_ni (by decide)).symm)⟩
  · rw [up_same, a5, nI_1]
  · rw [up_same, a6, nI_1]
theorem TR_pz {t u : Nat → Nat → Int32} {n p : Nat} (h : TR t u n p) : TR t (up u 0 11 (u 0 11 + (0 : Int32))) n p := by
  have e : up u 0 11 (u 0 11 + (0 : Int32)) = u := by
    rw [Int32.add_zero]; exact up_self
  rw [e]; exact h
theorem TR_s {t u : Nat → Nat → Int32} {n p : Nat} (h : TR t u n p) : sN (u 0) 11 = p ∧ (t 0 2).toNatClampNeg = p ∧ (u 0 8 ≤ u 0 11 ↔ n ≤ p) ∧ (t 0 1 ≤ t 0 2 ↔ n ≤ p) ∧ ¬ t 0 2 < 0 ∧ (p < 60 ↔ t 0 2 < (60 : Int32)) := by
  obtain ⟨a1, a2, a3, a4, a5, a6, a7⟩ := h
  refine ⟨(sN_of a6 (by omega)).2, by rw [a5]; exact nI_clamp (by omega), ?_, ?_, by rw [a5]; exact nn (by omega), ?_⟩
  · rw [a4, a6]; exact nI_leI (by omega) (by omega)
  · rw [a3, a5]; exact nI_leI (by omega) (by omega)
  · rw [a5]; exact (nI_ltI (b := 60) (by omega) (by decide)).symm
section TT
variable {t u : Nat → Nat → Int32} {n p : Nat}
theorem in_same {x c : Int32} : v_X6_in x c c = 0 ↔ ¬ x = c := by
  unfold v_X6_in
  by_cases h1 : x < c
  · rw [if_pos h1]; exact ⟨fun _ e => by subst e; exact absurd h1 Int32.lt_irrefl, fun _ => rfl⟩
  · rw [if_neg h1]
    by_cases h2 : c < x
    · rw [if_pos h2]; exact ⟨fun _ e => by subst e; exact absurd h2 Int32.lt_irrefl, fun _ => rfl⟩
    · rw [if_neg h2]
      exact ⟨fun z => absurd z (by decide), fun z => absurd (Int32.le_antisymm (Int32.not_lt.mp h2) (Int32.not_lt.mp h1)) z⟩
theorem skip_cs {c : Int32} (hT : TR t u n p) (hw : u 0 12 = 0) (hc : ¬ c ≤ 0) :
    (v_X4_skip t c = (1 : Int32) ∧ w_X4_skip t c = up t 0 2 (t 0 2 + (1 : Int32)) ∧ p < n ∧ u 6 p = c ∧ ¬ v_X6_isNext u c c = 0 ∧ w_X6_takes u c c = tGood u) ∨ (v_X4_skip t c = 0 ∧ w_X4_skip t c = t ∧ ¬ (p < n ∧ u 6 p = c) ∧ v_X6_isNext u c c = 0 ∧ w_X6_takes u c c = tBad u) := by
  obtain ⟨s1, s2, s3, s4, s5, s6⟩ := TR_s hT
  have a2 := hT.2.1
  by_cases hp : p < n
  · have h3 : ¬ u 0 8 ≤ u 0 11 := fun z => absurd (s3.mp z) (by omega)
    have h4 : ¬ t 0 1 ≤ t 0 2 := fun z => absurd (s4.mp z) (by omega)
    have h6 : ¬ (60 : Int32) ≤ t 0 2 := Int32.not_le.mpr (s6.mp (by omega))
    have a7 := hT.2.2.2.2.2.2 p hp
    by_cases e : u 6 p = c
    · left
      have hn : ¬ v_X6_isNext u c c = 0 := by
        unfold v_X6_isNext
        rw [if_pos hw, if_neg h3, s1, if_neg (fun z => (in_same.mp z) e)]
        decide
      refine ⟨?_, ?_, hp, e, hn, takes_good hn⟩
      · unfold v_X4_skip
        rw [if_neg s5, if_neg h4, if_neg h6, s2, a7, if_pos e]
      · unfold w_X4_skip
        rw [if_neg s5, if_neg h4, if_neg h6, s2, a7, if_pos e]
    · right
      have hn : v_X6_isNext u c c = 0 := by
        unfold v_X6_isNext
        rw [if_pos hw, if_neg h3, s1, if_pos (in_same.mpr e)]
      refine ⟨?_, ?_, fun z => e z.2, hn, ?_⟩
      · unfold v_X4_skip
        rw [if_neg s5, if_neg h4, if_neg h6, s2, a7, if_neg e]
      · unfold w_X4_skip
        rw [if_neg s5, if_neg h4, if_neg h6, s2, a7, if_neg e]
      · rcases takes_cs (u := u) (p2 := c) hc with z | ⟨-, -, z, -⟩
        · exact z
        · rw [s1] at z
          exact absurd (in_same.mpr e) z
  · right
    have h3 : u 0 8 ≤ u 0 11 := s3.mpr (by omega)
    have h4 : t 0 1 ≤ t 0 2 := s4.mpr (by omega)
    refine ⟨?_, ?_, fun z => hp z.1, ?_, ?_⟩
    · unfold v_X4_skip
      rw [if_neg s5, if_pos h4]
    · unfold w_X4_skip
      rw [if_neg s5, if_pos h4]
    · unfold v_X6_isNext
      rw [if_pos hw, if_pos h3]
    · rcases takes_cs (u := u) (p2 := c) hc with z | ⟨-, z, -, -⟩
      · exact z
      · exact absurd h3 z
/-- the digit at the place -/
theorem dig_cs (hT : TR t u n p) : (v_X4_digitAtPlace t = (-1 : Int32) ∧ ∀ k : Nat, 48 ≤ k → k ≤ 57 → ¬ (p < n ∧ u 6 p = nI k)) ∨ ∃ k : Nat, 48 ≤ k ∧ k ≤ 57 ∧ p < n ∧ u 6 p = nI k ∧ v_X4_digitAtPlace t = nI (k - 48) := by
  obtain ⟨s1, s2, s3, s4, s5, s6⟩ := TR_s hT
  have a2 := hT.2.1
  unfold v_X4_digitAtPlace
  rw [if_neg s5]
  by_cases hp : p < n
  · have h4 : ¬ t 0 1 ≤ t 0 2 := fun z => absurd (s4.mp z) (by omega)
    have h6 : t 0 2 < (60 : Int32) := s6.mp (by omega)
    rw [if_neg h4, if_pos h6, s2, hT.2.2.2.2.2.2 p hp]
    by_cases c1 : u 6 p < (48 : Int32)
    · left
      rw [if_pos c1]
      refine ⟨rfl, fun k h1 h2 h3 => ?_⟩
      rw [h3.2] at c1
      exact absurd c1 (nI_nlt (b := 48) h1 (by omega))
    · rw [if_neg c1]
      by_cases c2 : (57 : Int32) < u 6 p
      · left
        rw [if_pos c2]
        refine ⟨rfl, fun k h1 h2 h3 => ?_⟩
        rw [h3.2] at c2
        exact absurd c2 (nI_nlt (a := 57) h2 (by decide))
      · right
        rw [if_neg c2]
        have c0 : ¬ u 6 p < 0 := fun z => c1 (Int32.lt_trans z (by decide))
        obtain ⟨k, hk, e⟩ := nI_of2 (M := 57) (n := 57) (by decide) c0 (Int32.not_lt.mp c2)
        have hk2 : 48 ≤ k := by
          rcases Nat.lt_or_ge k 48 with z | z
          · rw [e] at c1; exact absurd (nI_lt (b := 48) z (by decide)) c1
          · exact z
        refine ⟨k, hk2, hk, hp, e, ?_⟩
        rw [e]
        exact pk_sub (b := 48) hk2
  · left
    rw [if_pos (s4.mpr (by omega))]
    exact ⟨rfl, fun k _ _ h3 => hp h3.1⟩
/-- a sign of a range is taken, or is not -/
theorem tak_cs {A B : Nat} (hA : 1 ≤ A) (hAB : A < 2 ^ 30) (hB : B < 2 ^ 30) (hT : TR t u n p) (hw : u 0 12 = 0) : (∃ k : Nat, A ≤ k ∧ k ≤ B ∧ p < n ∧ u 6 p = nI k ∧ w_X6_takes u (nI A) (nI B) = tGood u ∧ v_X6_takes u (nI A) (nI B) = nI (k - A)) ∨ ((∀ k : Nat, A ≤ k → k ≤ B → ¬ (p < n ∧ u 6 p = nI k)) ∧ w_X6_takes u (nI A) (nI B) = tBad u) := by
  obtain ⟨s1, s2, s3, s4, s5, s6⟩ := TR_s hT
  rcases takes_cs (u := u) (p2 := nI B) (nI_nle hA (by omega)) with e | ⟨-, h2, h3, e⟩
  · right
    refine ⟨fun k h1 h2 h3 => ?_, e⟩
    have h8 : ¬ u 0 8 ≤ u 0 11 := fun z => absurd (s3.mp z) (by omega)
    have hin : ¬ v_X6_in (u 6 (sN (u 0) 11)) (nI A) (nI B) = 0 := by
      unfold v_X6_in
      rw [s1, h3.2, if_neg (nI_nlt h1 (by omega)), if_neg (nI_nlt h2 (by omega))]
      decide
    have hg : ¬ v_X6_isNext u (nI A) (nI B) = 0 := by
      unfold v_X6_isNext
      rw [if_pos hw, if_neg h8, if_neg hin]
      decide
    have e2 := congrFun (congrFun ((takes_good hg).symm.trans e) 0) 12
    rw [(TR_bad hT).2, tGood_fl] at e2
    exact absurd e2 (by decide)
  · left
    rw [s1] at h3
    obtain ⟨k, k1, k2, k3⟩ := digit_val (A := A) (B := B) h3 hB hAB
    refine ⟨k, k1, k2, Nat.not_le.mp (fun z => h2 (s3.mpr z)), k3, e, ?_⟩
    rw [takes_val h2, s1, k3, pk_sub k1]
theorem sk_k {c : Int32} {k : Nat} (h : k ≠ 2) : w_X4_skip t c 0 k = t 0 k := by
  unfold w_X4_skip
  (repeat' split) <;> first | rfl | exact up_nk h
theorem rnl_k {p1 p2 : Int32} {k : Nat} (h : k ≠ 2) : ∀ (m : Nat) (t : Nat → Nat → Int32) (x : Int32), w_X4_readNumber_loop p1 p2 m t x 0 k = t 0 k := by
  intro m
  induction m with
  | zero =>
    intro t x
    unfold w_X4_readNumber_loop
    (repeat' split) <;> rfl
  | succ m ih =>
    intro t x
    unfold w_X4_readNumber_loop
    (repeat' split) <;> first | rfl | exact (ih _ _).trans (up_nk h)
theorem rn_k {p1 p2 : Int32} {k : Nat} (h : k ≠ 2) : w_X4_readNumber t p1 p2 0 k = t 0 k := by
  unfold w_X4_readNumber
  (repeat' split) <;> first | rfl | exact (rnl_k h _ _ _).trans (up_nk h)
theorem tnl_wr {p1 p2 : Int32} {X : Nat → Nat → Int32} (h : ¬ X 0 12 = 0) : ∀ (m : Nat) (x3 x4 : Int32), w_X6_takesNumber_loop p1 p2 m X x3 x4 = X := by
  have hn : v_X6_isNext X (48 : Int32) (57 : Int32) = 0 := by
    unfold v_X6_isNext
    rw [if_neg h]
  intro m
  induction m with
  | zero => intro x3 x4; rfl
  | succ m ih =>
    intro x3 x4
    show (if _ then _ else if _ then _ else _) = _
    rw [if_pos hn, ih, ite_self]
/-- a number's further digits -/
theorem nl_eq {A : Int32} {P : Nat} (hP : P ≤ 99999) : ∀ (r m m' p v : Nat) (t u : Nat → Nat → Int32), TR t u n p → u 0 12 = 0 → n - p = r → r < m → r < m' → v ≤ P →
    ∃ v' p' : Nat, v ≤ v' ∧ v' ≤ P ∧ p ≤ p' ∧ v_X4_readNumber_loop A (nI P) m t (nI v) = nI v' ∧ v_X6_takesNumber_loop A (nI P) m' u (nI v) (if v = 0 then 0 else 1) = nI v' ∧ TR (w_X4_readNumber_loop A (nI P) m t (nI v)) (w_X6_takesNumber_loop A (nI P) m' u (nI v) (if v = 0 then 0 else 1)) n p' ∧ w_X6_takesNumber_loop A (nI P) m' u (nI v) (if v = 0 then 0 else 1) 0 12 = 0 := by
  intro r
  induction r with
  | zero =>
    intro m m' p v t u hT hw hr hm hm' hv
    obtain ⟨s1, s2, s3, s4, s5, s6⟩ := TR_s hT
    have hpn : n ≤ p := by omega
    obtain ⟨m1, rfl⟩ : ∃ m1, m = m1 + 1 := ⟨m - 1, by omega⟩
    obtain ⟨m2, rfl⟩ : ∃ m2, m' = m2 + 1 := ⟨m' - 1, by omega⟩
    have hn : v_X6_isNext u (48 : Int32) (57 : Int32) = 0 := by
      unfold v_X6_isNext
      rw [if_pos hw, if_pos (s3.mpr hpn)]
    have z0 : ∀ x : Int32, v_X6_takesNumber_loop A (nI P) m2 u x (0 : Int32) = x ∧ w_X6_takesNumber_loop A (nI P) m2 u x (0 : Int32) = u := fun x => by
      cases m2 with
      | zero => exact ⟨rfl, rfl⟩
      | succ m2 => exact ⟨if_pos rfl, if_pos rfl⟩
    have e1 : v_X4_readNumber_loop A (nI P) (m1 + 1) t (nI v) = nI v := by
      show (if _ then _ else if _ then _ else _) = _
      rw [if_pos (s4.mpr hpn), ite_self]
    have e2 : w_X4_readNumber_loop A (nI P) (m1 + 1) t (nI v) = t := by
      show (if _ then _ else if _ then _ else _) = _
      rw [if_pos (s4.mpr hpn), ite_self]
    have e3 : v_X6_takesNumber_loop A (nI P) (m2 + 1) u (nI v) (if v = 0 then 0 else 1) = nI v := by
      show (if _ then _ else if _ then _ else _) = _
      rw [if_pos hn, (z0 _).1, ite_self]
    have e4 : w_X6_takesNumber_loop A (nI P) (m2 + 1) u (nI v) (if v = 0 then 0 else 1) = u := by
      show (if _ then _ else if _ then _ else _) = _
      rw [if_pos hn, (z0 _).2, ite_self]
    rw [e1, e2, e3, e4]
    exact ⟨v, p, Nat.le_refl _, hv, Nat.le_refl _, rfl, rfl, hT, hw⟩
  | succ r ih =>
    intro m m' p v t u hT hw hr hm hm' hv
    obtain ⟨s1, s2, s3, s4, s5, s6⟩ := TR_s hT
    have hpn : p < n := by omega
    obtain ⟨m1, rfl⟩ : ∃ m1, m = m1 + 1 := ⟨m - 1, by omega⟩
    obtain ⟨m2, rfl⟩ : ∃ m2, m' = m2 + 1 := ⟨m' - 1, by omega⟩
    have z0 : ∀ x : Int32, v_X6_takesNumber_loop A (nI P) m2 u x (0 : Int32) = x ∧ w_X6_takesNumber_loop A (nI P) m2 u x (0 : Int32) = u := fun x => by
      cases m2 with
      | zero => exact ⟨rfl, rfl⟩
      | succ m2 => exact ⟨if_pos rfl, if_pos rfl⟩
    have e1 : v_X4_readNumber_loop A (nI P) (m1 + 1) t (nI v) = if nI v ≤ 0 then nI v else if t 0 1 ≤ t 0 2 then nI v else if v_X4_digitAtPlace t = (-1 : Int32) then nI v else if (nI v * (10 : Int32)) + (v_X4_digitAtPlace t) ≤ nI P then (v_X4_readNumber_loop A (nI P) m1 (up t 0 2 ((t 0 2) + (1 : Int32))) ((nI v * (10 : Int32)) + (v_X4_digitAtPlace t))) else nI v := rfl
    have e2 : w_X4_readNumber_loop A (nI P) (m1 + 1) t (nI v) = if nI v ≤ 0 then t else if t 0 1 ≤ t 0 2 then t else if v_X4_digitAtPlace t = (-1 : Int32) then t else if (nI v * (10 : Int32)) + (v_X4_digitAtPlace t) ≤ nI P then (w_X4_readNumber_loop A (nI P) m1 (up t 0 2 ((t 0 2) + (1 : Int32))) ((nI v * (10 : Int32)) + (v_X4_digitAtPlace t))) else t := rfl
    have e3 : ∀ x4 : Int32, v_X6_takesNumber_loop A (nI P) (m2 + 1) u (nI v) x4 = if x4 = 0 then nI v else if v_X6_isNext u (48 : Int32) (57 : Int32) = 0 then (v_X6_takesNumber_loop A (nI P) m2 u (nI v) (0 : Int32)) else if nI P < (((10 : Int32) * nI v) + (u 6 (sN (u 0) 11))) - (48 : Int32) then (v_X6_takesNumber_loop A (nI P) m2 u (nI v) (0 : Int32)) else v_X6_takesNumber_loop A (nI P) m2 (w_X6_takes u (48 : Int32) (57 : Int32)) (((10 : Int32) * nI v) + (v_X6_takes u (48 : Int32) (57 : Int32))) (1 : Int32) := fun _ => rfl
    have e4 : ∀ x4 : Int32, w_X6_takesNumber_loop A (nI P) (m2 + 1) u (nI v) x4 = if x4 = 0 then u else if v_X6_isNext u (48 : Int32) (57 : Int32) = 0 then (w_X6_takesNumber_loop A (nI P) m2 u (nI v) (0 : Int32)) else if nI P < (((10 : Int32) * nI v) + (u 6 (sN (u 0) 11))) - (48 : Int32) then (w_X6_takesNumber_loop A (nI P) m2 u (nI v) (0 : Int32)) else w_X6_takesNumber_loop A (nI P) m2 (w_X6_takes u (48 : Int32) (57 : Int32)) (((10 : Int32) * nI v) + (v_X6_takes u (48 : Int32) (57 : Int32))) (1 : Int32) := fun _ => rfl
    rw [e1, e2, e3, e4]
    rcases Nat.eq_zero_or_pos v with rfl | hv1
    · rw [if_pos (show nI 0 ≤ 0 by decide), if_pos (show nI 0 ≤ 0 by decide), if_pos (if_pos rfl), if_pos (if_pos rfl)]
      exact ⟨0, p, Nat.le_refl _, hv, Nat.le_refl _, rfl, rfl, hT, hw⟩
    · have hx4 : ¬ (if v = 0 then (0 : Int32) else 1) = 0 := by rw [if_neg (by omega)]; decide
      have hle : ¬ nI v ≤ 0 := nI_nle hv1 (by omega)
      have h4 : ¬ t 0 1 ≤ t 0 2 := fun z => absurd (s4.mp z) (by omega)
      rw [if_neg hle, if_neg hle, if_neg h4, if_neg h4, if_neg hx4, if_neg hx4, s1]
      rcases dig_cs hT with ⟨g1, g2⟩ | ⟨k, k1, k2, -, k4, k5⟩
      · have hn : v_X6_isNext u (48 : Int32) (57 : Int32) = 0 := by
          rcases tak_cs (A := 48) (B := 57) (by decide) (by decide) (by decide) hT hw with ⟨k, q1, q2, q3, q4, -⟩ | ⟨-, q⟩
          · exact absurd ⟨q3, q4⟩ (g2 k q1 q2)
          · rcases Classical.em (v_X6_isNext u (48 : Int32) (57 : Int32) = 0) with z | z
            · exact z
            · have e := congrFun (congrFun ((takes_good z).symm.trans q) 0) 12
              rw [(TR_bad hT).2, tGood_fl] at e
              exact absurd e (by decide)
        rw [if_pos g1, if_pos g1, if_pos hn, if_pos hn, (z0 _).1, (z0 _).2]
        exact ⟨v, p, Nat.le_refl _, hv, Nat.le_refl _, rfl, rfl, hT, hw⟩
      · have hd : ¬ nI (k - 48) = (-1 : Int32) := nI_nm (by omega) (by decide)
        have hn : ¬ v_X6_isNext u (48 : Int32) (57 : Int32) = 0 := by
          unfold v_X6_isNext v_X6_in
          rw [if_pos hw, if_neg (fun z => absurd (s3.mp z) (by omega)), s1, k4, if_neg (show ¬ nI k < (48 : Int32) from nI_nlt (b := 48) k1 (by omega)), if_neg (show ¬ (57 : Int32) < nI k from nI_nlt (a := 57) k2 (by decide))]
          decide
        have q4 : w_X6_takes u (48 : Int32) (57 : Int32) = tGood u := takes_good hn
        have q5 : v_X6_takes u (48 : Int32) (57 : Int32) = nI (k - 48) := by
          rw [takes_val (fun z => absurd (s3.mp z) (by omega)), s1, k4]
          exact pk_sub (b := 48) k1
        have f1 : nI v * (10 : Int32) + nI (k - 48) = nI (v * 10 + (k - 48)) := by
          rw [show (10 : Int32) = nI 10 from rfl, pk_mul, nI_add]
        have f2 : (10 : Int32) * nI v + nI k - (48 : Int32) = nI (v * 10 + (k - 48)) := by
          rw [show (10 : Int32) = nI 10 from rfl, pk_mul, nI_add, show (48 : Int32) = nI 48 from rfl, pk_sub (by omega)]
          exact congrArg nI (by omega)
        have f3 : (10 : Int32) * nI v + nI (k - 48) = nI (v * 10 + (k - 48)) := by
          rw [show (10 : Int32) = nI 10 from rfl, pk_mul, nI_add, Nat.mul_comm]
        rw [k5, if_neg hd, if_neg hd, if_neg hn, if_neg hn, k4, f1, f2, q4, q5, f3]
        by_cases c : v * 10 + (k - 48) ≤ P
        · have c1 : nI (v * 10 + (k - 48)) ≤ nI P := nI_le c (by omega)
          have c2 : ¬ nI P < nI (v * 10 + (k - 48)) := nI_nlt c (by omega)
          rw [if_pos c1, if_pos c1, if_neg c2, if_neg c2]
          obtain ⟨v', p', i1, i2, i3, i4, i5, i6, i7⟩ := ih m1 m2 (p + 1) (v * 10 + (k - 48)) _ _ (TR_good hT hpn) tGood_fl (by omega) (by omega) (by omega) c
          rw [if_neg (show ¬ v * 10 + (k - 48) = 0 by omega)] at i5 i6 i7
          exact ⟨v', p', by omega, i2, by omega, i4, i5, i6, i7⟩
        · have c1 : ¬ nI (v * 10 + (k - 48)) ≤ nI P := fun z => c ((nI_leI (by omega) (by omega)).mp z)
          have c2 : nI P < nI (v * 10 + (k - 48)) := nI_lt (by omega) (by omega)
          rw [if_neg c1, if_neg c1, if_pos c2, if_pos c2, (z0 _).1, (z0 _).2]
          exact ⟨v, p, Nat.le_refl _, hv, Nat.le_refl _, rfl, rfl, hT, hw⟩
/-- a number -/
theorem num_rd {A P : Nat} (hA : A ≤ 1) (hP9 : 9 ≤ P) (hP : P ≤ 99999) (hT : TR t u n p) (hw : u 0 12 = 0) :
    (∃ v p' : Nat, A ≤ v ∧ v ≤ P ∧ p < p' ∧ v_X4_readNumber t (nI A) (nI P) = nI v ∧ v_X6_takesNumber u (nI A) (nI P) = nI v ∧ TR (w_X4_readNumber t (nI A) (nI P)) (w_X6_takesNumber u (nI A) (nI P)) n p' ∧ w_X6_takesNumber u (nI A) (nI P) 0 12 = 0) ∨ (v_X4_readNumber t (nI A) (nI P) = (-1 : Int32) ∧ TR (w_X4_readNumber t (nI A) (nI P)) (w_X6_takesNumber u (nI A) (nI P)) n p ∧ w_X6_takesNumber u (nI A) (nI P) 0 12 = (1 : Int32)) := by
  have a2 := hT.2.1
  have e48 : (48 : Int32) + nI A = nI (48 + A) := nI_add 48 A
  unfold v_X4_readNumber w_X4_readNumber v_X6_takesNumber w_X6_takesNumber
  rw [e48]
  have fail : v_X4_digitAtPlace t < nI A → w_X6_takes u (nI (48 + A)) (57 : Int32) = tBad u → (if v_X4_digitAtPlace t < nI A then (-1 : Int32) else if v_X4_digitAtPlace t ≤ nI P then (v_X4_readNumber_loop (nI A) (nI P) 61 (up t 0 2 ((t 0 2) + (1 : Int32))) (v_X4_digitAtPlace t)) else (-1 : Int32)) = (-1 : Int32) ∧ TR (if v_X4_digitAtPlace t < nI A then t else if v_X4_digitAtPlace t ≤ nI P then (w_X4_readNumber_loop (nI A) (nI P) 61 (up t 0 2 ((t 0 2) + (1 : Int32))) (v_X4_digitAtPlace t)) else t) (if nI A + (v_X6_takes u (nI (48 + A)) (57 : Int32)) ≤ 0 then (w_X6_takesNumber_loop (nI A) (nI P) 62 (w_X6_takes u (nI (48 + A)) (57 : Int32)) (nI A + (v_X6_takes u (nI (48 + A)) (57 : Int32))) (0 : Int32)) else w_X6_takesNumber_loop (nI A) (nI P) 62 (w_X6_takes u (nI (48 + A)) (57 : Int32)) (nI A + (v_X6_takes u (nI (48 + A)) (57 : Int32))) (1 : Int32)) n p ∧ (if nI A + (v_X6_takes u (nI (48 + A)) (57 : Int32)) ≤ 0 then (w_X6_takesNumber_loop (nI A) (nI P) 62 (w_X6_takes u (nI (48 + A)) (57 : Int32)) (nI A + (v_X6_takes u (nI (48 + A)) (57 : Int32))) (0 : Int32)) else w_X6_takesNumber_loop (nI A) (nI P) 62 (w_X6_takes u (nI (48 + A)) (57 : Int32)) (nI A + (v_X6_takes u (nI (48 + A)) (57 : Int32))) (1 : Int32)) 0 12 = (1 : Int32) := by
    intro g1 g2
    have hb := TR_bad hT
    have hnb : ¬ tBad u 0 12 = 0 := by rw [hb.2]; decide
    rw [if_pos g1, if_pos g1, g2, tnl_wr hnb, tnl_wr hnb, ite_self]
    exact ⟨rfl, hb.1, hb.2⟩
  rcases dig_cs hT with ⟨g1, g2⟩ | ⟨k, k1, k2, k3, k4, k5⟩
  · right
    refine fail ?_ ?_
    · rw [g1]
      rcases (show A = 0 ∨ A = 1 by omega) with rfl | rfl <;> decide
    · rcases tak_cs (A := 48 + A) (B := 57) (by omega) (by omega) (by decide) hT hw with ⟨k, q1, q2, q3, q4, -⟩ | ⟨-, q⟩
      · exact absurd ⟨q3, q4⟩ (g2 k (by omega) q2)
      · exact q
  · by_cases c : k - 48 < A
    · right
      refine fail ?_ ?_
      · rw [k5]; exact nI_lt c (by omega)
      · rcases tak_cs (A := 48 + A) (B := 57) (by omega) (by omega) (by decide) hT hw with ⟨k', q1, q2, q3, q4, -⟩ | ⟨-, q⟩
        · have : k = k' := (nI_eq (by omega) (by omega)).mp (k4.symm.trans q4)
          omega
        · exact q
    · left
      rcases tak_cs (A := 48 + A) (B := 57) (by omega) (by omega) (by decide) hT hw with ⟨k', q1, q2, q3, q4, q5, q6⟩ | ⟨q, -⟩
      · have ek : k = k' := (nI_eq (by omega) (by omega)).mp (k4.symm.trans q4)
        subst ek
        have q5 : w_X6_takes u (nI (48 + A)) (57 : Int32) = tGood u := q5
        have q6 : v_X6_takes u (nI (48 + A)) (57 : Int32) = nI (k - (48 + A)) := q6
        have e1 : nI A + nI (k - (48 + A)) = nI (k - 48) := by
          rw [nI_add]; exact congrArg nI (by omega)
        have c1 : ¬ nI (k - 48) < nI A := nI_nlt (by omega) (by omega)
        have c2 : nI (k - 48) ≤ nI P := nI_le (by omega) (by omega)
        rw [k5, if_neg c1, if_neg c1, if_pos c2, if_pos c2, q5, q6, e1]
        obtain ⟨v', p', i1, i2, i3, i4, i5, i6, i7⟩ := nl_eq (A := nI A) hP (n - (p + 1)) 61 62 (p + 1) (k - 48) _ _ (TR_good hT k3) tGood_fl rfl (by omega) (by omega) (by omega)
        refine ⟨v', p', by omega, i2, by omega, i4, ?_⟩
        by_cases z : k - 48 = 0
        · rw [z] at i4 i5 i6 i7 ⊢
          rw [if_pos (show nI 0 ≤ 0 by decide), if_pos (show nI 0 ≤ 0 by decide)]
          exact ⟨i5, i6, i7⟩
        · rw [if_neg z] at i5 i6 i7
          have hle : ¬ nI (k - 48) ≤ 0 := nI_nle (by omega) (by omega)
          rw [if_neg hle, if_neg hle]
          exact ⟨i5, i6, i7⟩
      · exact absurd ⟨k3, k4⟩ (q k (by omega) k2)
end TT
