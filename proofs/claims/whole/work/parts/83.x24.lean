/-! the whole text: the first run looks for a fault, the second does -/
theorem TR_14 {t u : Nat → Nat → Int32} {n p : Nat} {v : Int32} (h : TR t u n p) : TR t (up u 0 14 v) n p := by
  obtain ⟨a1, a2, a3, a4, a5, a6, a7⟩ := h
  exact ⟨a1, a2, a3, (up_nk (by decide)).trans a4, a5, (up_nk (by decide)).trans a6, fun q hq => (a7 q hq).trans (up_ni (by decide)).symm⟩
theorem fl_14 {u : Nat → Nat → Int32} {v : Int32} : up u 0 14 v 0 12 = u 0 12 := up_nk (by decide)
theorem TR_u {t u u' : Nat → Nat → Int32} {n p : Nat} (h : TR t u n p) (h0 : u' 0 = u 0) (h6 : u' 6 = u 6) : TR t u' n p := by
  obtain ⟨a1, a2, a3, a4, a5, a6, a7⟩ := h
  exact ⟨a1, a2, a3, by rw [h0]; exact a4, a5, by rw [h0]; exact a6, fun q hq => by rw [h6]; exact a7 q hq⟩
/-- the same text -/
def TXn (t u : Nat → Nat → Int32) (n : Nat) : Prop := n ≤ 60 ∧ t 0 1 = nI n ∧ u 0 8 = nI n ∧ ∀ q, q < n → t 1 q = u 6 q
theorem TR_TX {t u : Nat → Nat → Int32} {n p : Nat} (h : TR t u n p) : TXn t u n := ⟨h.2.1, h.2.2.1, h.2.2.2.1, h.2.2.2.2.2.2⟩
theorem TXn_u {t u u' : Nat → Nat → Int32} {n : Nat} (h : TXn t u n) (h8 : u' 0 8 = u 0 8) (h6 : u' 6 = u 6) : TXn t u' n := ⟨h.1, h.2.1, h8.trans h.2.2.1, fun q hq => by rw [h6]; exact h.2.2.2 q hq⟩
theorem TXn_T {t u : Nat → Nat → Int32} {n : Nat} (h : TXn t u n) : TXT t u := ⟨n, h.1, h.2.1, h.2.2.1, h.2.2.2⟩
theorem ff_lp {n : Nat} : ∀ (m k p : Nat) (t u : Nat → Nat → Int32) (x2 : Int32), TR t u n p → u 0 12 = 0 → 60 ≤ p + m →
    ∃ p' : Nat, TR (w_X4_findFault_loop m k t) (w_X6_goes_loop (0 : Int32) (m + 1) u x2 (1 : Int32)) n p' ∧ ((v_X4_findFault_loop m k t = (-1 : Int32) ∧ w_X6_goes_loop (0 : Int32) (m + 1) u x2 (1 : Int32) 0 12 = 0) ∨ (v_X4_findFault_loop m k t = nI p' ∧ w_X6_goes_loop (0 : Int32) (m + 1) u x2 (1 : Int32) 0 12 = (1 : Int32))) := by
  intro m
  induction m with
  | zero =>
    intro k p t u x2 hT hw hp
    have hpn : n ≤ p := by have := hT.1; have := hT.2.1; omega
    have hs : u 0 8 ≤ u 0 11 := (TR_s hT).2.2.1.mpr hpn
    have e1 : v_X4_findFault_loop 0 k t = t 0 2 := rfl
    have e2 : w_X4_findFault_loop 0 k t = t := rfl
    have hR := rT_s hs
    have hB : WT t (w_X6_readThing u) n p := by rw [hR]; exact WT_7 (TR_bad hT)
    have hn : ¬ w_X6_readThing u 0 12 = 0 := by rw [hB.2]; decide
    have e3 : w_X6_goes_loop (0 : Int32) (0 + 1) u x2 (1 : Int32) = up (w_X6_readThing u) 0 14 (0 : Int32) := by
      unfold w_X6_goes_loop
      rw [if_neg (by decide), if_pos rfl, if_neg hn, goes_x0]
    rw [e1, e2, e3]
    exact ⟨p, TR_14 hB.1, Or.inr ⟨hT.2.2.2.2.1, fl_14.trans hB.2⟩⟩
  | succ m ih =>
    intro k p t u x2 hT hw hp
    have e1 : v_X4_findFault_loop (m + 1) k t = if v_X4_readThing t = 0 then ((w_X4_readThing t) 0 2) else if (w_X4_readThing t) 0 2 < (w_X4_readThing t) 0 1 then (if v_X4_skip (w_X4_readThing t) (59 : Int32) = 0 then ((w_X4_skip (w_X4_readThing t) (59 : Int32)) 0 2) else v_X4_findFault_loop m (k + 1) (w_X4_skip (w_X4_readThing t) (59 : Int32))) else (-1 : Int32) := rfl
    have e2 : w_X4_findFault_loop (m + 1) k t = if v_X4_readThing t = 0 then (w_X4_readThing t) else if (w_X4_readThing t) 0 2 < (w_X4_readThing t) 0 1 then (if v_X4_skip (w_X4_readThing t) (59 : Int32) = 0 then (w_X4_skip (w_X4_readThing t) (59 : Int32)) else w_X4_findFault_loop m (k + 1) (w_X4_skip (w_X4_readThing t) (59 : Int32))) else w_X4_readThing t := rfl
    have e3 : w_X6_goes_loop (0 : Int32) (m + 1 + 1) u x2 (1 : Int32) = if (w_X6_readThing u) 0 12 = 0 then (if (w_X6_readThing u) 0 8 ≤ (w_X6_readThing u) 0 11 then (up (w_X6_readThing u) 0 14 (0 : Int32)) else if (w_X6_takes (up (w_X6_readThing u) 0 14 (0 : Int32)) (59 : Int32) (59 : Int32)) 0 12 = 0 then (w_X6_goes_loop (0 : Int32) (m + 1) (w_X6_takes (up (w_X6_readThing u) 0 14 (0 : Int32)) (59 : Int32) (59 : Int32)) (x2 + (1 : Int32)) (1 : Int32)) else w_X6_takes (up (w_X6_readThing u) 0 14 (0 : Int32)) (59 : Int32) (59 : Int32)) else up (w_X6_readThing u) 0 14 (0 : Int32) := by
      show (if _ then _ else _) = _
      rw [if_neg (by decide), if_pos rfl, goes_x0, goes_x0]
    rw [e1, e2, e3]
    rcases rd_thing hT hw with ⟨p', h1, h2, h3, h4, -⟩ | ⟨h1, p', h2⟩
    · have hn : ¬ v_X4_readThing t = 0 := by rw [h2]; decide
      rw [if_neg hn, if_neg hn, if_pos h4]
      obtain ⟨s1, s2, s3, s4, s5, s6⟩ := TR_s h3
      by_cases g : p' < n
      · have c1 : w_X4_readThing t 0 2 < w_X4_readThing t 0 1 := Int32.not_le.mp (fun z => absurd (s4.mp z) (by omega))
        have c2 : ¬ w_X6_readThing u 0 8 ≤ w_X6_readThing u 0 11 := fun z => absurd (s3.mp z) (by omega)
        rw [if_pos c1, if_pos c1, if_neg c2]
        rcases skip_cs (c := (59 : Int32)) (TR_14 (v := (0 : Int32)) h3) (fl_14.trans h4) (by decide) with ⟨a1, a2, a3, a4, a5, a6⟩ | ⟨a1, a2, a3, a4, a5⟩
        · have hn2 : ¬ v_X4_skip (w_X4_readThing t) (59 : Int32) = 0 := by rw [a1]; decide
          rw [if_neg hn2, if_neg hn2, a6, if_pos tGood_fl, a2]
          exact ih (k + 1) (p' + 1) _ _ _ (TR_good (TR_14 h3) g) tGood_fl (by omega)
        · have hb := TR_bad (TR_14 (v := (0 : Int32)) h3)
          rw [if_pos a1, if_pos a1, a5, if_neg (by rw [hb.2]; decide), a2]
          exact ⟨p', hb.1, Or.inr ⟨h3.2.2.2.2.1, hb.2⟩⟩
      · have c1 : ¬ w_X4_readThing t 0 2 < w_X4_readThing t 0 1 := Int32.not_lt.mpr (s4.mpr (by omega))
        rw [if_neg c1, if_neg c1, if_pos (s3.mpr (by omega))]
        exact ⟨p', TR_14 h3, Or.inl ⟨rfl, fl_14.trans h4⟩⟩
    · have hn : ¬ w_X6_readThing u 0 12 = 0 := by rw [h2.2]; decide
      rw [if_pos h1, if_pos h1, if_neg hn]
      exact ⟨p', TR_14 h2.1, Or.inr ⟨h2.1.2.2.2.2.1, fl_14.trans h2.2⟩⟩
theorem da_lp {n : Nat} : ∀ (m k p : Nat) (y : CS) (u : Nat → Nat → Int32), TR (y.2 8) u n p → u 0 12 = 0 → 60 ≤ p + m → PV (m + 1) u → BR (y.2 (y.1 0)) (u 1) → y.1 0 < 7 →
    ∃ K : Nat, K ≤ k + m + 1 ∧ v_X6_goes_loop (1 : Int32) (m + 1) u (nI k) (1 : Int32) = nI K ∧ (w_X5_doAllThings_loop m k y).1 = y.1 ∧ (∀ q, q ≠ y.1 0 → q ≠ 7 → q ≠ 8 → (w_X5_doAllThings_loop m k y).2 q = y.2 q) ∧ TXn ((w_X5_doAllThings_loop m k y).2 8) (w_X6_goes_loop (1 : Int32) (m + 1) u (nI k) (1 : Int32)) n ∧
    ((v_X5_doAllThings_loop m k y = nI K ∧ w_X6_goes_loop (1 : Int32) (m + 1) u (nI k) (1 : Int32) 0 14 = 0 ∧ BR ((w_X5_doAllThings_loop m k y).2 (y.1 0)) (w_X6_goes_loop (1 : Int32) (m + 1) u (nI k) (1 : Int32) 1) ∧ (w_X5_doAllThings_loop m k y).2 7 = y.2 7) ∨
     (v_X5_doAllThings_loop m k y = (-4 : Int32) ∧ w_X6_goes_loop (1 : Int32) (m + 1) u (nI k) (1 : Int32) 0 14 < 0 ∧ (w_X5_doAllThings_loop m k y).2 7 = up (up (up (y.2 7) 0 6 (1 : Int32)) 0 7 (nI K)) 0 8 (w_X6_goes_loop (1 : Int32) (m + 1) u (nI k) (1 : Int32) 0 14))) := by
  intro m
  induction m with
  | zero =>
    intro k p y u hT hw hp hPV hB hy
    rcases rd_thing hT hw with ⟨p', h1, h2, h3, -⟩ | ⟨h1, p', h2⟩
    · have := h3.1; have := h3.2.1; omega
    · have := hPV.2.1
      rw [h2.2] at this
      exact absurd this (by decide)
  | succ m ih =>
    intro k p y u hT hw hp hPV hB hy
    rcases rd_thing hT hw with ⟨p', h1, h2, h3, h4, h5⟩ | ⟨h1, p', h2⟩
    case inr =>
      have := hPV.2.1
      rw [h2.2] at this
      exact absurd this (by decide)
    have hm : SI (u 1) := hB.1
    have r1 : w_X6_readThing u 1 = u 1 := readThing_o (by decide) (by decide)
    have hV := readThing_HV hw h4
    have hPR := does_PR2 (u := w_X6_readThing u) (by rw [r1]; exact hm) hV.toHD
    have d0 : w_X6_does (w_X6_readThing u) 0 = w_X6_readThing u 0 := hPR.2.1 0 (by decide) (by decide)
    have d6 : w_X6_does (w_X6_readThing u) 6 = w_X6_readThing u 6 := hPR.2.1 6 (by decide) (by decide)
    have hTD : TR (w_X4_readThing (y.2 8)) (w_X6_does (w_X6_readThing u)) n p' := TR_u h3 d0 d6
    have hwD : w_X6_does (w_X6_readThing u) 0 12 = 0 := by rw [d0]; exact h4
    obtain ⟨s1, s2, s3, s4, s5, s6⟩ := TR_s hTD
    have y8 : (zB y 8 (w_X4_readThing (y.2 8))).2 8 = w_X4_readThing (y.2 8) := wz_same
    have y0 : (zB y 8 (w_X4_readThing (y.2 8))).2 (y.1 0) = y.2 (y.1 0) := wz_ne (by omega)
    obtain ⟨W, w1, w2⟩ := dt (z := zB y 8 (w_X4_readThing (y.2 8))) (u := w_X6_readThing u) (by
      show BR ((zB y 8 (w_X4_readThing (y.2 8))).2 (y.1 0)) _
      rw [y0, r1]; exact hB) (by rw [y8]; exact h5) hV
    have w1 : w_X5_doThing (zB y 8 (w_X4_readThing (y.2 8))) = zB (zB y 8 (w_X4_readThing (y.2 8))) (y.1 0) W := w1
    have v8 : (zB (zB y 8 (w_X4_readThing (y.2 8))) (y.1 0) W).2 8 = w_X4_readThing (y.2 8) := (wz_ne (by omega)).trans y8
    have e1 : v_X5_doAllThings_loop (m + 1) k y = if v_X4_readThing (y.2 8) = 0 then (nI k) else if 0 ≤ v_X5_doThing (zB y 8 (w_X4_readThing (y.2 8))) then (v_X5_doAllThings_loop m (k + 1) (zB (w_X5_doThing (zB y 8 (w_X4_readThing (y.2 8)))) 8 (w_X4_skip ((w_X5_doThing (zB y 8 (w_X4_readThing (y.2 8)))).2 8) (59 : Int32)))) else if v_X5_doThing (zB y 8 (w_X4_readThing (y.2 8))) = (-5 : Int32) then (v_X5_doAllThings_loop m (k + 1) (zB (w_X5_doThing (zB y 8 (w_X4_readThing (y.2 8)))) 8 (w_X4_skip ((w_X5_doThing (zB y 8 (w_X4_readThing (y.2 8)))).2 8) (59 : Int32)))) else (-4 : Int32) := rfl
    have e2 : w_X5_doAllThings_loop (m + 1) k y = if v_X4_readThing (y.2 8) = 0 then (zB y 8 (w_X4_readThing (y.2 8))) else if 0 ≤ v_X5_doThing (zB y 8 (w_X4_readThing (y.2 8))) then (w_X5_doAllThings_loop m (k + 1) (zB (w_X5_doThing (zB y 8 (w_X4_readThing (y.2 8)))) 8 (w_X4_skip ((w_X5_doThing (zB y 8 (w_X4_readThing (y.2 8)))).2 8) (59 : Int32)))) else if v_X5_doThing (zB y 8 (w_X4_readThing (y.2 8))) = (-5 : Int32) then (w_X5_doAllThings_loop m (k + 1) (zB (w_X5_doThing (zB y 8 (w_X4_readThing (y.2 8)))) 8 (w_X4_skip ((w_X5_doThing (zB y 8 (w_X4_readThing (y.2 8)))).2 8) (59 : Int32)))) else w7 (w7 (w7 (w_X5_doThing (zB y 8 (w_X4_readThing (y.2 8)))) 0 6 (1 : Int32)) 0 7 (nI k)) 0 8 (v_X5_doThing (zB y 8 (w_X4_readThing (y.2 8)))) := rfl
    have hn : ¬ v_X4_readThing (y.2 8) = 0 := by rw [h2]; decide
    rw [e1, e2, if_neg hn, if_neg hn, w1, v8]
    have f1 : w_X6_goes_loop (1 : Int32) (m + 1 + 1) u (nI k) (1 : Int32) = if 0 ≤ v_X6_does (w_X6_readThing u) then (if (w_X6_does (w_X6_readThing u)) 0 8 ≤ (w_X6_does (w_X6_readThing u)) 0 11 then (up (w_X6_does (w_X6_readThing u)) 0 14 (0 : Int32)) else if (w_X6_takes (up (w_X6_does (w_X6_readThing u)) 0 14 (0 : Int32)) (59 : Int32) (59 : Int32)) 0 12 = 0 then (w_X6_goes_loop (1 : Int32) (m + 1) (w_X6_takes (up (w_X6_does (w_X6_readThing u)) 0 14 (0 : Int32)) (59 : Int32) (59 : Int32)) (nI (k + 1)) (1 : Int32)) else w_X6_takes (up (w_X6_does (w_X6_readThing u)) 0 14 (0 : Int32)) (59 : Int32) (59 : Int32)) else if v_X6_does (w_X6_readThing u) = 0 then w_X6_goes_loop (1 : Int32) (m + 1 + 1) u (nI k) (1 : Int32) else up (w_X6_does (w_X6_readThing u)) 0 14 (v_X6_does (w_X6_readThing u)) := by
      by_cases c : 0 ≤ v_X6_does (w_X6_readThing u)
      · rw [if_pos c]
        show (if _ then _ else _) = _
        rw [if_neg (by decide), if_neg (by decide), if_pos c, if_pos hwD, goes_x0, goes_x0, nI_1]
      · rw [if_neg c]
        by_cases c2 : v_X6_does (w_X6_readThing u) = 0
        · rw [if_pos c2]
        · rw [if_neg c2]
          show (if _ then _ else _) = _
          rw [if_neg (by decide), if_neg (by decide), if_neg c, if_neg c2, goes_x0]
    have f2 : v_X6_goes_loop (1 : Int32) (m + 1 + 1) u (nI k) (1 : Int32) = if 0 ≤ v_X6_does (w_X6_readThing u) then (if (w_X6_does (w_X6_readThing u)) 0 8 ≤ (w_X6_does (w_X6_readThing u)) 0 11 then nI (k + 1) else if (w_X6_takes (up (w_X6_does (w_X6_readThing u)) 0 14 (0 : Int32)) (59 : Int32) (59 : Int32)) 0 12 = 0 then (v_X6_goes_loop (1 : Int32) (m + 1) (w_X6_takes (up (w_X6_does (w_X6_readThing u)) 0 14 (0 : Int32)) (59 : Int32) (59 : Int32)) (nI (k + 1)) (1 : Int32)) else nI (k + 1)) else if v_X6_does (w_X6_readThing u) = 0 then v_X6_goes_loop (1 : Int32) (m + 1 + 1) u (nI k) (1 : Int32) else nI k := by
      by_cases c : 0 ≤ v_X6_does (w_X6_readThing u)
      · rw [if_pos c]
        show (if _ then _ else _) = _
        rw [if_neg (by decide), if_neg (by decide), if_pos c, if_pos hwD, goes_v0, goes_v0, nI_1]
      · rw [if_neg c]
        by_cases c2 : v_X6_does (w_X6_readThing u) = 0
        · rw [if_pos c2]
        · rw [if_neg c2]
          show (if _ then _ else _) = _
          rw [if_neg (by decide), if_neg (by decide), if_neg c, if_neg c2, goes_v0, Int32.add_zero]
    rcases w2 with ⟨g1, g2, g3⟩ | ⟨g1, g2, g3⟩
    · rw [f1, f2, if_pos g2, if_pos g2]
      have eC : ∀ {α : Type} (A B C : α), A = B → (if 0 ≤ v_X5_doThing (zB y 8 (w_X4_readThing (y.2 8))) then A else if v_X5_doThing (zB y 8 (w_X4_readThing (y.2 8))) = (-5 : Int32) then B else C) = A := fun A B C e => by
        subst e
        rcases g1 with g | g
        · rw [if_pos g]
        · by_cases q : 0 ≤ v_X5_doThing (zB y 8 (w_X4_readThing (y.2 8)))
          · rw [if_pos q]
          · rw [if_neg q, if_pos g]
      rw [eC _ _ _ rfl, eC _ _ _ rfl]
      have key : ∀ S : Nat → Nat → Int32, (zB (zB (zB y 8 (w_X4_readThing (y.2 8))) (y.1 0) W) 8 S).1 = y.1 ∧ (zB (zB (zB y 8 (w_X4_readThing (y.2 8))) (y.1 0) W) 8 S).2 8 = S ∧ (zB (zB (zB y 8 (w_X4_readThing (y.2 8))) (y.1 0) W) 8 S).2 (y.1 0) = W ∧ ∀ q, q ≠ y.1 0 → q ≠ 8 → (zB (zB (zB y 8 (w_X4_readThing (y.2 8))) (y.1 0) W) 8 S).2 q = y.2 q := fun S =>
        ⟨rfl, wz_same, (wz_ne (by omega)).trans wz_same, fun q q1 q2 => (wz_ne q2).trans ((wz_ne q1).trans (wz_ne q2))⟩
      by_cases g : p' < n
      · have c2 : ¬ w_X6_does (w_X6_readThing u) 0 8 ≤ w_X6_does (w_X6_readThing u) 0 11 := fun z => absurd (s3.mp z) (by omega)
        rw [if_neg c2, if_neg c2]
        have hPV2 := goes_PV (v := (0 : Int32)) hPV (sm_pr2 hPR) c2
        have hfl : w_X6_takes (up (w_X6_does (w_X6_readThing u)) 0 14 (0 : Int32)) (59 : Int32) (59 : Int32) 0 12 = 0 := hPV2.1
        rw [if_pos hfl, if_pos hfl]
        rcases skip_cs (c := (59 : Int32)) (TR_14 (v := (0 : Int32)) hTD) (fl_14.trans hwD) (by decide) with ⟨a1, a2, a3, a4, a5, a6⟩ | ⟨a1, a2, a3, a4, a5⟩
        · rw [a6] at hPV2
          rw [a2, a6]
          have hTG := TR_good (TR_14 (v := (0 : Int32)) hTD) g
          generalize up (w_X4_readThing (y.2 8)) 0 2 (w_X4_readThing (y.2 8) 0 2 + (1 : Int32)) = S at hTG
          obtain ⟨k1, k2, k3, k4⟩ := key S
          have k5 : (tGood (up (w_X6_does (w_X6_readThing u)) 0 14 (0 : Int32))) 1 = w_X6_does (w_X6_readThing u) 1 := (up_oi (by decide)).trans ((up_oi (by decide)).trans (up_oi (by decide)))
          generalize zB (zB (zB y 8 (w_X4_readThing (y.2 8))) (y.1 0) W) 8 S = y' at k1 k2 k3 k4
          obtain ⟨K, K1, K2, K3, K4, K5, K6⟩ := ih (k + 1) (p' + 1) y' _ (by rw [k2]; exact hTG) tGood_fl (by omega) hPV2 (by rw [k1, k3, k5]; exact g3) (by rw [k1]; exact hy)
          rw [k1] at K3 K4 K6
          refine ⟨K, by omega, K2, K3, fun q q1 q2 q3 => (K4 q q1 q2 q3).trans (k4 q q1 q3), K5, ?_⟩
          have k7 : y'.2 7 = y.2 7 := k4 7 (by omega) (by decide)
          rw [k7] at K6
          exact K6
        · rw [a5, (TR_bad (TR_14 (v := (0 : Int32)) hTD)).2] at hfl
          exact absurd hfl (by decide)
      · have c2 : w_X6_does (w_X6_readThing u) 0 8 ≤ w_X6_does (w_X6_readThing u) 0 11 := s3.mpr (by omega)
        rw [if_pos c2, if_pos c2]
        have hsk : w_X4_skip (w_X4_readThing (y.2 8)) (59 : Int32) = w_X4_readThing (y.2 8) := by
          rcases skip_cs (c := (59 : Int32)) hTD hwD (by decide) with ⟨a1, a2, a3, -⟩ | ⟨a1, a2, -⟩
          · exact absurd a3 g
          · exact a2
        rw [hsk]
        have hfin : v_X5_doAllThings_loop m (k + 1) (zB (zB (zB y 8 (w_X4_readThing (y.2 8))) (y.1 0) W) 8 (w_X4_readThing (y.2 8))) = nI (k + 1) ∧ ∃ S : Nat → Nat → Int32, w_X5_doAllThings_loop m (k + 1) (zB (zB (zB y 8 (w_X4_readThing (y.2 8))) (y.1 0) W) 8 (w_X4_readThing (y.2 8))) = zB (zB (zB y 8 (w_X4_readThing (y.2 8))) (y.1 0) W) 8 S ∧ TXn S (w_X6_does (w_X6_readThing u)) n := by
          cases m with
          | zero => exact ⟨rfl, _, rfl, TR_TX hTD⟩
          | succ m =>
            have k2 := (key (w_X4_readThing (y.2 8))).2.1
            rcases rd_thing hTD hwD with ⟨p2, b1, b2, b3, -⟩ | ⟨b1, p2, b2⟩
            · have := b3.1; omega
            · have b1' : v_X4_readThing ((zB (zB (zB y 8 (w_X4_readThing (y.2 8))) (y.1 0) W) 8 (w_X4_readThing (y.2 8))).2 8) = 0 := by rw [k2]; exact b1
              refine ⟨if_pos b1', w_X4_readThing (w_X4_readThing (y.2 8)), ?_, ?_⟩
              · refine (if_pos b1').trans ?_
                rw [k2]
                exact Prod.ext rfl (funext fun q => by
                  by_cases e : q = 8
                  · subst e; exact wz_same.trans wz_same.symm
                  · exact (wz_ne e).trans ((wz_ne e).trans (wz_ne e).symm))
              · refine TXn_u (TR_TX b2.1) ?_ ?_
                · exact (readThing_k hwD (by decide) (by decide)).symm
                · exact (readThing_o (by decide) (by decide)).symm
        obtain ⟨q1, S, q2, q3⟩ := hfin
        obtain ⟨k1, k2, k3, k4⟩ := key S
        rw [q1, q2, k1, k2, k3]
        refine ⟨k + 1, by omega, rfl, rfl, fun q z1 z2 z3 => k4 q z1 z3, TXn_u q3 (up_nk (by decide)) (up_oi (by decide)), Or.inl ⟨rfl, up_same, ?_, k4 7 (by omega) (by decide)⟩⟩
        rw [up_oi (by decide)]; exact g3
    · have n1 : ¬ 0 ≤ v_X6_does (w_X6_readThing u) := by rw [g3]; exact Int32.not_le.mpr g1
      have n2 : ¬ v_X6_does (w_X6_readThing u) = 0 := by
        rw [g3]; intro e; rw [e] at g1; exact absurd g1 (by decide)
      have n3 : ¬ 0 ≤ v_X5_doThing (zB y 8 (w_X4_readThing (y.2 8))) := Int32.not_le.mpr g1
      rw [f1, f2, if_neg n1, if_neg n1, if_neg n2, if_neg n2, if_neg n3, if_neg n3, if_neg g2, if_neg g2, g3]
      have z7 : (zB (zB y 8 (w_X4_readThing (y.2 8))) (y.1 0) W).2 7 = y.2 7 := (wz_ne (by omega)).trans (wz_ne (by decide))
      have key : ∀ (x : CS) (a b c : Int32), (w7 (w7 (w7 x 0 6 a) 0 7 b) 0 8 c).1 = x.1 ∧ (∀ q, q ≠ 7 → (w7 (w7 (w7 x 0 6 a) 0 7 b) 0 8 c).2 q = x.2 q) ∧ (w7 (w7 (w7 x 0 6 a) 0 7 b) 0 8 c).2 7 = up (up (up (x.2 7) 0 6 a) 0 7 b) 0 8 c := fun x a b c => by
        have e : ∀ (x : CS) (k : Nat) (a : Int32), (w7 x 0 k a).2 7 = up (x.2 7) 0 k a := fun x k a => wz_same
        refine ⟨rfl, fun q hq => (wz_ne hq).trans ((wz_ne hq).trans (wz_ne hq)), ?_⟩
        rw [e, e, e]
      obtain ⟨k1, k2, k3⟩ := key (zB (zB y 8 (w_X4_readThing (y.2 8))) (y.1 0) W) (1 : Int32) (nI k) (v_X5_doThing (zB y 8 (w_X4_readThing (y.2 8))))
      refine ⟨k, by omega, rfl, k1, fun q z1 z2 z3 => (k2 q z2).trans ((wz_ne z1).trans (wz_ne z3)), ?_, Or.inr ⟨rfl, ?_, ?_⟩⟩
      · rw [k2 8 (by decide), v8]
        exact TXn_u (TR_TX hTD) (up_nk (by decide)) (up_oi (by decide))
      · rw [up_same]; exact g1
      · rw [k3, z7, up_same]
