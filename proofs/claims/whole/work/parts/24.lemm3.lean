theorem putAside_lp : ∀ (n k : Nat) (u : Nat → Nat → Int32), k + n = 713 → w_X6_putAside_loop n k u = fun i q => if i = 2 ∧ k ≤ q ∧ q < 713 then u 1 q else u i q := by
  intro n
  induction n with
  | zero =>
    intro k u hk
    funext i q
    show u i q = _
    rw [if_neg (by omega)]
  | succ n ih =>
    intro k u hk
    show w_X6_putAside_loop n (k + 1) (up u 2 k (u 1 k)) = _
    rw [ih (k + 1) _ (by omega)]
    funext i q
    show (if i = 2 ∧ k + 1 ≤ q ∧ q < 713 then up u 2 k (u 1 k) 1 q else up u 2 k (u 1 k) i q) = (if i = 2 ∧ k ≤ q ∧ q < 713 then u 1 q else u i q)
    by_cases h : i = 2 ∧ k ≤ q ∧ q < 713
    · obtain ⟨rfl, h1, h2⟩ := h
      rw [if_pos (show 2 = 2 ∧ k ≤ q ∧ q < 713 from ⟨rfl, h1, h2⟩)]
      by_cases h3 : q = k
      · subst h3
        rw [if_neg (by omega)]
        exact up_same
      · rw [if_pos ⟨rfl, by omega, h2⟩]
        exact up_ni (by decide)
    · rw [if_neg h, if_neg (by omega)]
      exact if_neg (by omega)
theorem putAside_eq (u : Nat → Nat → Int32) : w_X6_putAside u = fun i q => if i = 2 ∧ q < 713 then u 1 q else u i q := by
  show w_X6_putAside_loop 713 0 u = _
  rw [putAside_lp 713 0 u rfl]
  funext i q
  simp
theorem putAside_o {u : Nat → Nat → Int32} {i : Nat} (h : i ≠ 2) : w_X6_putAside u i = u i := by
  rw [putAside_eq]
  funext q
  exact if_neg (fun z => h z.1)
theorem putBack_lp : ∀ (n k : Nat) (u : Nat → Nat → Int32), k + n = 713 → w_X6_putBack_loop n k u = fun i q => if i = 1 ∧ k ≤ q ∧ q < 713 then u 2 q else u i q := by
  intro n
  induction n with
  | zero =>
    intro k u hk
    funext i q
    show u i q = _
    rw [if_neg (by omega)]
  | succ n ih =>
    intro k u hk
    show w_X6_putBack_loop n (k + 1) (up u 1 k (u 2 k)) = _
    rw [ih (k + 1) _ (by omega)]
    funext i q
    show (if i = 1 ∧ k + 1 ≤ q ∧ q < 713 then up u 1 k (u 2 k) 2 q else up u 1 k (u 2 k) i q) = (if i = 1 ∧ k ≤ q ∧ q < 713 then u 2 q else u i q)
    by_cases h : i = 1 ∧ k ≤ q ∧ q < 713
    · obtain ⟨rfl, h1, h2⟩ := h
      rw [if_pos (show 1 = 1 ∧ k ≤ q ∧ q < 713 from ⟨rfl, h1, h2⟩)]
      by_cases h3 : q = k
      · subst h3
        rw [if_neg (by omega)]
        exact up_same
      · rw [if_pos ⟨rfl, by omega, h2⟩]
        exact up_ni (by decide)
    · rw [if_neg h, if_neg (by omega)]
      exact if_neg (by omega)
theorem putBack_eq (u : Nat → Nat → Int32) : w_X6_putBack u = fun i q => if i = 1 ∧ q < 713 then u 2 q else u i q := by
  show w_X6_putBack_loop 713 0 u = _
  rw [putBack_lp 713 0 u rfl]
  funext i q
  simp
theorem putBack_o {u : Nat → Nat → Int32} {i : Nat} (h : i ≠ 1) : w_X6_putBack u i = u i := by
  rw [putBack_eq]
  funext q
  exact if_neg (fun z => h z.1)
/-- a change of the row alone, and of what it may be -/
def PR (u u' : Nat → Nat → Int32) : Prop := SI (u' 1) ∧ (∀ i, i ≠ 1 → u' i = u i) ∧ ∀ k, 713 ≤ k → u' 1 k = u 1 k
theorem PR.rf {u : Nat → Nat → Int32} (h : SI (u 1)) : PR u u := ⟨h, fun _ _ => rfl, fun _ _ => rfl⟩
theorem PR.tr {u u' u'' : Nat → Nat → Int32} (h1 : PR u u') (h2 : PR u' u'') : PR u u'' := ⟨h2.1, fun i hi => (h2.2.1 i hi).trans (h1.2.1 i hi), fun k hk => (h2.2.2 k hk).trans (h1.2.2 k hk)⟩
theorem PRup {u u' : Nat → Nat → Int32} (i : Nat) (v : Int32) (h : PR u u') (hi : i < 713) (hs : SI (up u' 1 i v 1)) : PR u (up u' 1 i v) := ⟨hs, fun j hj => (up_oi hj).trans (h.2.1 j hj), fun k hk => (up_nk (by omega)).trans (h.2.2 k hk)⟩
theorem PRupo {u u' : Nat → Nat → Int32} (i : Nat) (v : Int32) (h : PR u u') (hi : i < 713) (h0 : i ≠ 0) (h6 : i ≠ 6) (hc : ∀ b, i ≠ 233 + 12 * b + 0) (hr : ∀ b, i ≠ 233 + 12 * b + 2) : PR u (up u' 1 i v) := PRup i v h hi (SI_upo h.1 h0 h6 hc hr)
theorem takesOf_PR {u : Nat → Nat → Int32} {j : Nat} {p : Int32} (hm : SI (u 1)) (hj : j < 40) : PR u (w_X6_takesOf u j p) := by
  have hd := SI_day2 hm
  exact ⟨takesOf_SI hm hj, fun i hi => takesOf_o hi, fun k hk => takesOf_1 hm hj (by omega) (by omega) (by omega) (by omega) (by omega)⟩
theorem pay2_PR {u : Nat → Nat → Int32} {cu : Nat} {v w : Int32} (hm : SI (u 1)) (hcu : cu < 8) : PR u (up (up u 1 (9 + cu) v) 1 (17 + cu) w) :=
  PRupo (17 + cu) w (PRupo (9 + cu) v (PR.rf hm) (by omega) (by omega) (by omega) (by omega) (by omega)) (by omega) (by omega) (by omega) (by omega) (by omega)
theorem paysAll_lp {cu : Nat} {p : Int32} (hcu : cu < 8) : ∀ (n k : Nat) (u1 : Nat → Nat → Int32) (x3 x4 : Int32), SI (u1 1) → k + n ≤ 40 → PR u1 (w_X6_paysAll_loop cu p n k u1 x3 x4) := by
  intro n
  induction n with
  | zero => intro k u1 x3 x4 h hk; exact pay2_PR h hcu
  | succ n ih =>
    intro k u1 x3 x4 h hk
    unfold w_X6_paysAll_loop
    split
    · exact pay2_PR h hcu
    · split
      · exact ih _ _ _ _ h (by omega)
      · split
        · exact (takesOf_PR h (by omega)).tr (ih _ _ _ _ (takesOf_SI h (by omega)) (by omega))
        · exact (takesOf_PR h (by omega)).tr (ih _ _ _ _ (takesOf_SI h (by omega)) (by omega))
theorem paysAll_PR {u : Nat → Nat → Int32} {cu : Nat} {p : Int32} (hm : SI (u 1)) (hcu : cu < 8) : PR u (w_X6_paysAll u cu p) := by
  have := SI_nb2 hm
  exact paysAll_lp hcu _ _ _ _ _ hm (by omega)
theorem six_PR {u1 : Nat → Nat → Int32} {b c : Nat} {v1 v3 v4 v5 p3 : Int32} (h : SI (u1 1)) (hb : b < 40) (hc : c < 8) (hr : ∃ r : Nat, r ≤ 40 ∧ p3 = nI r) : PR u1 (up (up (up (up (up (up u1 1 (233 + 12 * b + 0) (nI c)) 1 (233 + 12 * b + 1) v1) 1 (233 + 12 * b + 2) p3) 1 (233 + 12 * b + 3) v3) 1 (233 + 12 * b + 4) v4) 1 (233 + 12 * b + 11) v5) := by
  refine ⟨SI_six h hb hc hr, fun i hi => ?_, fun k hk => ?_⟩
  · rw [up_oi hi, up_oi hi, up_oi hi, up_oi hi, up_oi hi, up_oi hi]
  · rw [up_nk (by omega), up_nk (by omega), up_nk (by omega), up_nk (by omega), up_nk (by omega), up_nk (by omega)]
theorem billed_lp {u : Nat → Nat → Int32} {cu : Nat} {p2 p3 p4 : Int32} (hbl : sN (u 1) 6 < 40) (hcu : cu < 8) (hr : ∃ r : Nat, r ≤ 40 ∧ p3 = nI r) : ∀ (n k : Nat) (u1 : Nat → Nat → Int32), SI (u1 1) → k + n ≤ 12 → PR u1 (w_X6_billed_loop u cu p2 p3 p4 n k u1) := by
  intro n
  induction n with
  | zero =>
    intro k u1 h hk
    unfold w_X6_billed_loop
    split
    · exact six_PR h hbl hcu hr
    · exact PRupo (9 + cu) _ ((six_PR h hbl hcu hr).tr (takesOf_PR (SI_six h hbl hcu hr) hbl)) (by omega) (by omega) (by omega) (by omega) (by omega)
  | succ n ih =>
    intro k u1 h hk
    unfold w_X6_billed_loop
    exact (PRup _ _ (PR.rf h) (by omega) (SI_zero h (by omega))).tr (ih _ _ (SI_zero h (by omega)) (by omega))
theorem billed_PR {u : Nat → Nat → Int32} {cu : Nat} {p2 p3 p4 : Int32} (hm : SI (u 1)) (hcu : cu < 8) (hr : ∃ r : Nat, r ≤ 40 ∧ p3 = nI r) : PR u (w_X6_billed u cu p2 p3 p4) := by
  unfold w_X6_billed
  split
  · exact PR.rf hm
  · rename_i h
    have hbl := SI_lt hm h
    exact (PRup _ _ (PR.rf hm) (by omega) (SI_inc hm hbl)).tr (billed_lp hbl hcu hr 12 0 _ (SI_inc hm hbl) (by omega))
theorem paidOn_PR {u : Nat → Nat → Int32} {j : Nat} {p : Int32} (hm : SI (u 1)) (hj : j < 40) : PR u (w_X6_paidOn u j p) := by
  have h1 := SI_cu2 hm hj
  unfold w_X6_paidOn
  exact (takesOf_PR hm hj).tr (pay2_PR (takesOf_SI hm hj) h1)
theorem reminds_lp : ∀ (n k : Nat) (u1 : Nat → Nat → Int32) (x1 : Int32), SI (u1 1) → k + n ≤ 40 → PR u1 (w_X6_reminds_loop n k u1 x1) := by
  intro n
  induction n with
  | zero => intro k u1 x1 h hk; exact PR.rf h
  | succ n ih =>
    intro k u1 x1 h hk
    unfold w_X6_reminds_loop
    split
    · refine PR.tr ?_ (ih _ _ _ (SI_rem h (by omega)) (by omega))
      exact PRupo (233 + 12 * k + 10) _ (PRupo (233 + 12 * k + 9) _ (PRupo (233 + 12 * k + 8) _ (PR.rf h) (by omega) (by omega) (by omega) (by omega) (by omega)) (by omega) (by omega) (by omega) (by omega) (by omega)) (by omega) (by omega) (by omega) (by omega) (by omega)
    · exact ih _ _ _ h (by omega)
theorem reminds_PR {u : Nat → Nat → Int32} (hm : SI (u 1)) : PR u (w_X6_reminds u) := by
  have := SI_nb2 hm
  exact reminds_lp _ _ _ _ hm (by omega)
/-- what is put aside comes back -/
theorem back_1 {u U : Nat → Nat → Int32} (h : PR (w_X6_putAside u) U) : w_X6_putBack U 1 = u 1 := by
  rw [putBack_eq]
  funext q
  show (if 1 = 1 ∧ q < 713 then U 2 q else U 1 q) = u 1 q
  by_cases hq : q < 713
  · rw [if_pos ⟨rfl, hq⟩, h.2.1 2 (by decide), putAside_eq]
    exact if_pos ⟨rfl, hq⟩
  · rw [if_neg (fun z => hq z.2), h.2.2 q (by omega), putAside_eq]
    exact if_neg (fun z => by cases z.1)
theorem back_o {u U : Nat → Nat → Int32} {i : Nat} (h : PR (w_X6_putAside u) U) (h1 : i ≠ 1) (h2 : i ≠ 2) : w_X6_putBack U i = u i := by
  rw [putBack_o h1, h.2.1 i h1, putAside_o h2]
theorem aside_SI {u : Nat → Nat → Int32} (h : SI (u 1)) : SI (w_X6_putAside u 1) := by
  rw [putAside_o (by decide)]; exact h
theorem records_l2 : ∀ (n k : Nat) (u2 : Nat → Nat → Int32) (i : Nat), i ≠ 5 → i ≠ 0 → w_X6_records_loop2 n k u2 i = u2 i := by
  intro n
  induction n with
  | zero => intro k u2 i h5 h0; exact up_oi h0
  | succ n ih =>
    intro k u2 i h5 h0
    unfold w_X6_records_loop2
    rw [ih _ _ i h5 h0, up_oi h5]
theorem records_l1 : ∀ (n k : Nat) (u1 : Nat → Nat → Int32) (i : Nat), i ≠ 5 → i ≠ 0 → w_X6_records_loop1 n k u1 i = u1 i := by
  intro n
  induction n with
  | zero =>
    intro k u1 i h5 h0
    unfold w_X6_records_loop1
    rw [records_l2 _ _ _ i h5 h0, up_oi h0]
  | succ n ih =>
    intro k u1 i h5 h0
    unfold w_X6_records_loop1
    rw [ih _ _ i h5 h0, up_oi h5]
theorem records_o {u : Nat → Nat → Int32} {i : Nat} (h5 : i ≠ 5) (h0 : i ≠ 0) : w_X6_records u i = u i := by
  unfold w_X6_records
  split
  · exact records_l1 _ _ _ i h5 h0
  · exact records_l2 _ _ _ i h5 h0
theorem know_o {u : Nat → Nat → Int32} {i : Nat} (h5 : i ≠ 5) (h0 : i ≠ 0) (h3 : i ≠ 3) : w_X6_know u i = u i := by
  unfold w_X6_know
  rw [records_o h5 h0, looks_o h3]
theorem know_SI {u : Nat → Nat → Int32} (h : SI (u 1)) : SI (w_X6_know u 1) := by
  rw [know_o (by decide) (by decide) (by decide)]; exact h
theorem looks_SI {u : Nat → Nat → Int32} (h : SI (u 1)) : SI (w_X6_looks u 1) := by
  rw [looks_o (by decide)]; exact h
