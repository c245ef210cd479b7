def PR2 (u u' : Nat → Nat → Int32) : Prop := SI (u' 1) ∧ (∀ i, i ≠ 1 → i ≠ 2 → u' i = u i) ∧ ∀ k, 713 ≤ k → u' 1 k = u 1 k
theorem PR.to2 {u u' : Nat → Nat → Int32} (h : PR u u') : PR2 u u' := ⟨h.1, fun i h1 _ => h.2.1 i h1, h.2.2⟩
theorem PR2.tr {u u' u'' : Nat → Nat → Int32} (h1 : PR2 u u') (h2 : PR2 u' u'') : PR2 u u'' := ⟨h2.1, fun i ha hb => (h2.2.1 i ha hb).trans (h1.2.1 i ha hb), fun k hk => (h2.2.2 k hk).trans (h1.2.2 k hk)⟩
theorem would_PR2 {u : Nat → Nat → Int32} {cu : Nat} {p : Int32} (hm : SI (u 1)) (hcu : cu < 8) : PR2 u (w_X6_wouldBeTooMuch u cu p) := ⟨would_SI hm hcu, fun i h1 h2 => would_o hm hcu h1 h2, fun k _ => congrFun (would_1 hm hcu) k⟩
theorem refusal_PR2 {u : Nat → Nat → Int32} {j : Nat} {p : Int32} (hm : SI (u 1)) (hj : j < 40) : PR2 u (w_X6_refusalOn u j p) := ⟨refusal_SI hm hj, fun i h1 h2 => refusal_o hm hj h1 h2, fun k _ => congrFun (refusal_1 hm hj) k⟩
theorem paidByText_PR2 {u : Nat → Nat → Int32} {cu : Nat} {p2 p3 : Int32} (hm : SI (u 1)) (hcu : cu < 8) : PR2 u (w_X6_paidByText u cu p2 p3) := by
  unfold w_X6_paidByText
  split
  · split
    · exact (would_PR2 hm hcu).tr (paysAll_PR (would_SI hm hcu) hcu).to2
    · exact would_PR2 hm hcu
  · split
    · exact (PR.rf hm).to2
    · rename_i h
      have hj := vp_lt (vp_X6_isBill hm h)
      split
      · split
        · exact (refusal_PR2 hm hj).tr (paidOn_PR (refusal_SI hm hj) hj).to2
        · exact refusal_PR2 hm hj
      · exact (PR.rf hm).to2
theorem SI_dayup {u : Nat → Nat → Int32} {v : Int32} (hk : SI (u 1)) (hv : ∃ d : Nat, d ≤ 9999 ∧ v = nI d) : SI (up u 1 0 v 1) := by
  obtain ⟨d, h1, h2⟩ := hv
  refine ⟨?_, ⟨d, h1, ?_⟩, fun b hb => ?_, fun b hb => ?_⟩
  · rw [up_nk (by decide)]; exact hk.1
  · rw [up_same, h2]
  · rw [up_nk (by omega)]; exact hk.2.2.1 b hb
  · rw [up_nk (by omega)]; exact hk.2.2.2 b hb
theorem day_PR {u : Nat → Nat → Int32} {v : Int32} (hk : SI (u 1)) (hv : ∃ d : Nat, d ≤ 9999 ∧ v = nI d) : PR u (up u 1 0 v) := ⟨SI_dayup hk hv, fun j hj => up_oi hj, fun k hk => up_nk (by omega)⟩
theorem does_PR2 {u : Nat → Nat → Int32} (hm : SI (u 1)) (hD : HD u) : PR2 u (w_X6_does u) := by
  unfold w_X6_does
  by_cases h1 : u 7 0 = 98
  · rw [if_pos h1]
    exact (billed_PR hm (HD_c hD (Or.inl h1)) (hD.2.1 h1)).to2
  · rw [if_neg h1]
    by_cases h2 : u 7 0 = 112
    · rw [if_pos h2]
      exact paidByText_PR2 hm (HD_c hD (Or.inr h2))
    · rw [if_neg h2]
      by_cases h3 : u 7 0 = 114
      · rw [if_pos h3]
        exact (reminds_PR hm).to2
      · rw [if_neg h3]
        obtain ⟨d, hd1, hd2⟩ := hD.2.2 h1 h2 h3
        have hd := SI_day2 hm
        have e0 := SI_day hm
        by_cases h4 : (9999 : Int32) < u 1 0 + u 7 1
        · rw [if_pos h4]
          exact (day_PR hm ⟨sN (u 1) 0, hd, by rw [Int32.add_zero]; exact e0⟩).to2
        · rw [if_neg h4]
          have e1 : u 1 0 + u 7 1 = nI (sN (u 1) 0 + d) := by rw [e0, hd2, nI_add]
          rw [e1] at h4 ⊢
          refine (day_PR hm ⟨sN (u 1) 0 + d, ?_, rfl⟩).to2
          rcases Nat.lt_or_ge 9999 (sN (u 1) 0 + d) with h5 | h5
          · exact absurd ((nI_ltI (a := 9999) (by decide) (by omega)).mpr h5) h4
          · exact h5
/-- the same text, read as far -/
def sm (u u' : Nat → Nat → Int32) : Prop := u 0 8 = u' 0 8 ∧ u 0 11 = u' 0 11 ∧ u 0 12 = u' 0 12 ∧ u 6 = u' 6
theorem sm.rf {u : Nat → Nat → Int32} : sm u u := ⟨rfl, rfl, rfl, rfl⟩
theorem sm.tr {u u' u'' : Nat → Nat → Int32} (h1 : sm u u') (h2 : sm u' u'') : sm u u'' := ⟨h1.1.trans h2.1, h1.2.1.trans h2.2.1, h1.2.2.1.trans h2.2.2.1, h1.2.2.2.trans h2.2.2.2⟩
theorem sm.sy {u u' : Nat → Nat → Int32} (h : sm u u') : sm u' u := ⟨h.1.symm, h.2.1.symm, h.2.2.1.symm, h.2.2.2.symm⟩
theorem sm_up {u u' : Nat → Nat → Int32} {i k : Nat} {v : Int32} (h : sm u u') : sm (up u i k v) (up u' i k v) := by
  refine ⟨?_, ?_, ?_, ?_⟩
  · show (if 0 = i ∧ 8 = k then v else u 0 8) = (if 0 = i ∧ 8 = k then v else u' 0 8)
    rw [h.1]
  · show (if 0 = i ∧ 11 = k then v else u 0 11) = (if 0 = i ∧ 11 = k then v else u' 0 11)
    rw [h.2.1]
  · show (if 0 = i ∧ 12 = k then v else u 0 12) = (if 0 = i ∧ 12 = k then v else u' 0 12)
    rw [h.2.2.1]
  · funext q
    show (if 6 = i ∧ q = k then v else u 6 q) = (if 6 = i ∧ q = k then v else u' 6 q)
    rw [h.2.2.2]
theorem sm_r7 {u : Nat → Nat → Int32} {k : Nat} {v : Int32} : sm u (up u 7 k v) := ⟨(up_ni (by decide)).symm, (up_ni (by decide)).symm, (up_ni (by decide)).symm, (up_oi (by decide)).symm⟩
theorem sm_up7 {u u' : Nat → Nat → Int32} {k k' : Nat} {v v' : Int32} (h : sm u u') : sm (up u 7 k v) (up u' 7 k' v') := (sm_r7.sy.tr h).tr sm_r7
theorem sm_ite {c : Prop} [Decidable c] {a a' b b' : Nat → Nat → Int32} (h1 : sm a a') (h2 : sm b b') : sm (if c then a else b) (if c then a' else b') := by
  split
  · exact h1
  · exact h2
theorem cg_sign {u u' : Nat → Nat → Int32} (h : sm u u') : u 6 (sN (u 0) 11) = u' 6 (sN (u' 0) 11) := by
  unfold sN; rw [h.2.1, h.2.2.2]
theorem cg_isNext {u u' : Nat → Nat → Int32} {a b : Int32} (h : sm u u') : v_X6_isNext u a b = v_X6_isNext u' a b := by
  unfold v_X6_isNext; rw [cg_sign h, h.1, h.2.1, h.2.2.1]
theorem cg_takesV {u u' : Nat → Nat → Int32} {a b : Int32} (h : sm u u') : v_X6_takes u a b = v_X6_takes u' a b := by
  unfold v_X6_takes; rw [cg_sign h, h.1, h.2.1, h.2.2.1]
theorem cg_takes {u u' : Nat → Nat → Int32} {a b : Int32} (h : sm u u') : sm (w_X6_takes u a b) (w_X6_takes u' a b) := by
  unfold w_X6_takes; rw [cg_sign h, h.1, h.2.1, h.2.2.1]
  exact sm_ite (sm_ite (sm_ite (sm_up (sm_up h)) (sm_up (sm_up h))) (sm_up (sm_up h))) (sm_ite (sm_ite (sm_up (sm_up h)) (sm_up (sm_up h))) (sm_up (sm_up h)))
theorem cg_tnl {p1 p2 : Int32} : ∀ (n : Nat) (u u' : Nat → Nat → Int32) (x3 x4 : Int32), sm u u' → v_X6_takesNumber_loop p1 p2 n u x3 x4 = v_X6_takesNumber_loop p1 p2 n u' x3 x4 ∧ sm (w_X6_takesNumber_loop p1 p2 n u x3 x4) (w_X6_takesNumber_loop p1 p2 n u' x3 x4) := by
  intro n
  induction n with
  | zero => intro u u' x3 x4 h; exact ⟨rfl, h⟩
  | succ n ih =>
    intro u u' x3 x4 h
    unfold v_X6_takesNumber_loop w_X6_takesNumber_loop
    rw [cg_sign h, cg_isNext h, cg_takesV h]
    by_cases c1 : x4 = 0
    · rw [if_pos c1, if_pos c1, if_pos c1, if_pos c1]; exact ⟨rfl, h⟩
    · rw [if_neg c1, if_neg c1, if_neg c1, if_neg c1]
      by_cases c2 : v_X6_isNext u' (48 : Int32) (57 : Int32) = 0
      · rw [if_pos c2, if_pos c2, if_pos c2, if_pos c2]; exact ih _ _ _ _ h
      · rw [if_neg c2, if_neg c2, if_neg c2, if_neg c2]
        by_cases c3 : p2 < (((10 : Int32) * x3) + (u' 6 (sN (u' 0) 11))) - (48 : Int32)
        · rw [if_pos c3, if_pos c3, if_pos c3, if_pos c3]; exact ih _ _ _ _ h
        · rw [if_neg c3, if_neg c3, if_neg c3, if_neg c3]; exact ih _ _ _ _ (cg_takes h)
theorem cg_takesNumber {u u' : Nat → Nat → Int32} {a b : Int32} (h : sm u u') : sm (w_X6_takesNumber u a b) (w_X6_takesNumber u' a b) := by
  unfold w_X6_takesNumber; rw [cg_takesV h]
  exact sm_ite (cg_tnl _ _ _ _ _ (cg_takes h)).2 (cg_tnl _ _ _ _ _ (cg_takes h)).2
theorem cg_takesNumberV {u u' : Nat → Nat → Int32} {a b : Int32} (h : sm u u') : v_X6_takesNumber u a b = v_X6_takesNumber u' a b := by
  unfold v_X6_takesNumber; rw [cg_takesV h, (cg_tnl _ _ _ _ _ (cg_takes h)).1, (cg_tnl _ _ _ _ _ (cg_takes h)).1]
theorem cg_takesBehind {u u' : Nat → Nat → Int32} {a b c : Int32} (h : sm u u') : sm (w_X6_takesBehind u a b c) (w_X6_takesBehind u' a b c) := by
  unfold w_X6_takesBehind; rw [cg_isNext h, h.2.1]
  exact sm_ite (sm_up h) (cg_takesNumber (sm_up h))
/-! the pieces of a thing -/
def rt0 (w i : Int32) (u : Nat → Nat → Int32) : Nat → Nat → Int32 := up (up u 0 12 w) 0 11 ((u 0 11) + i)
def rtL (u : Nat → Nat → Int32) : Nat → Nat → Int32 := up (rt0 (0 : Int32) (1 : Int32) u) 7 0 (u 6 (sN (u 0) 11))
def thC (X : Nat → Nat → Int32) : Nat → Nat → Int32 := up (w_X6_takes X (48 : Int32) (55 : Int32)) 7 1 (v_X6_takes X (48 : Int32) (55 : Int32))
def thK (X : Nat → Nat → Int32) : Nat → Nat → Int32 := w_X6_takes X (58 : Int32) (58 : Int32)
def thA (mx : Int32) (X : Nat → Nat → Int32) : Nat → Nat → Int32 := up (w_X6_takesNumber X (1 : Int32) mx) 7 2 (v_X6_takesNumber X (1 : Int32) mx)
def thN (k : Nat) (a b c : Int32) (X : Nat → Nat → Int32) : Nat → Nat → Int32 := up (w_X6_takesBehind X a b c) 7 k (v_X6_takesBehind X a b c)
def thD (X : Nat → Nat → Int32) : Nat → Nat → Int32 := up (w_X6_takesNumber X (1 : Int32) (99 : Int32)) 7 1 (v_X6_takesNumber X (1 : Int32) (99 : Int32))
def rtB (Y : Nat → Nat → Int32) : Nat → Nat → Int32 := thN 4 (43 : Int32) (99 : Int32) (14 : Int32) (thN 3 (64 : Int32) (40 : Int32) (20 : Int32) (thA (9999 : Int32) (thK (thC Y))))
def rtP (Y : Nat → Nat → Int32) : Nat → Nat → Int32 := up (thN 3 (35 : Int32) (39 : Int32) (-5 : Int32) (thA (99999 : Int32) (thK (thC Y)))) 7 4 (0 : Int32)
theorem rT_s {u : Nat → Nat → Int32} (hs : u 0 8 ≤ u 0 11) : w_X6_readThing u = up (rt0 (1 : Int32) (0 : Int32) u) 7 0 (0 : Int32) := by
  unfold w_X6_readThing
  rw [if_pos hs, ite_self]
  rfl
theorem rT_b {u : Nat → Nat → Int32} (hs : ¬ u 0 8 ≤ u 0 11) (hw : u 0 12 = 0) (hL : u 6 (sN (u 0) 11) = (98 : Int32)) : w_X6_readThing u = rtB (rtL u) := by
  unfold w_X6_readThing
  rw [if_neg hs, if_pos hw, if_pos hL, if_neg (show ¬ u 6 (sN (u 0) 11) = (46 : Int32) by rw [hL]; decide)]
  rfl
theorem rT_p {u : Nat → Nat → Int32} (hs : ¬ u 0 8 ≤ u 0 11) (hw : u 0 12 = 0) (hL : u 6 (sN (u 0) 11) = (112 : Int32)) : w_X6_readThing u = rtP (rtL u) := by
  unfold w_X6_readThing
  rw [if_neg hs, if_pos hw, if_neg (show ¬ u 6 (sN (u 0) 11) = (98 : Int32) by rw [hL]; decide), if_pos hL, if_neg (show ¬ u 6 (sN (u 0) 11) = (46 : Int32) by rw [hL]; decide)]
  rfl
theorem rT_r {u : Nat → Nat → Int32} (hs : ¬ u 0 8 ≤ u 0 11) (hw : u 0 12 = 0) (hL : u 6 (sN (u 0) 11) = (114 : Int32)) : w_X6_readThing u = rtL u := by
  unfold w_X6_readThing
  rw [if_neg hs, if_pos hw, if_neg (show ¬ u 6 (sN (u 0) 11) = (98 : Int32) by rw [hL]; decide), if_neg (show ¬ u 6 (sN (u 0) 11) = (112 : Int32) by rw [hL]; decide), if_pos hL, if_neg (show ¬ u 6 (sN (u 0) 11) = (46 : Int32) by rw [hL]; decide)]
  rfl
theorem rT_d {u : Nat → Nat → Int32} (hs : ¬ u 0 8 ≤ u 0 11) (hw : u 0 12 = 0) (hL : u 6 (sN (u 0) 11) = (46 : Int32)) : w_X6_readThing u = thD (rtL u) := by
  unfold w_X6_readThing
  rw [if_neg hs, if_pos hw, if_neg (show ¬ u 6 (sN (u 0) 11) = (98 : Int32) by rw [hL]; decide), if_neg (show ¬ u 6 (sN (u 0) 11) = (112 : Int32) by rw [hL]; decide), if_neg (show ¬ u 6 (sN (u 0) 11) = (114 : Int32) by rw [hL]; decide), if_pos hL]
  rfl
theorem rT_x {u : Nat → Nat → Int32} (hs : ¬ u 0 8 ≤ u 0 11) (hw : u 0 12 = 0) (h1 : ¬ u 6 (sN (u 0) 11) = (98 : Int32)) (h2 : ¬ u 6 (sN (u 0) 11) = (112 : Int32)) (h3 : ¬ u 6 (sN (u 0) 11) = (114 : Int32)) (h4 : ¬ u 6 (sN (u 0) 11) = (46 : Int32)) : w_X6_readThing u = up (rt0 (1 : Int32) (0 : Int32) u) 7 0 (u 6 (sN (u 0) 11)) := by
  unfold w_X6_readThing
  rw [if_neg hs, if_pos hw, if_neg h1, if_neg h2, if_neg h3, if_neg h4]
  rfl
theorem cg_rt0 {u u' : Nat → Nat → Int32} {w i : Int32} (h : sm u u') : sm (rt0 w i u) (rt0 w i u') := by
  unfold rt0; rw [h.2.1]; exact sm_up (sm_up h)
theorem cg_rtL {u u' : Nat → Nat → Int32} (h : sm u u') : sm (rtL u) (rtL u') := sm_up7 (cg_rt0 h)
theorem cg_thC {u u' : Nat → Nat → Int32} (h : sm u u') : sm (thC u) (thC u') := sm_up7 (cg_takes h)
theorem cg_thK {u u' : Nat → Nat → Int32} (h : sm u u') : sm (thK u) (thK u') := cg_takes h
theorem cg_thA {mx : Int32} {u u' : Nat → Nat → Int32} (h : sm u u') : sm (thA mx u) (thA mx u') := sm_up7 (cg_takesNumber h)
theorem cg_thN {k : Nat} {a b c : Int32} {u u' : Nat → Nat → Int32} (h : sm u u') : sm (thN k a b c u) (thN k a b c u') := sm_up7 (cg_takesBehind h)
theorem cg_thD {u u' : Nat → Nat → Int32} (h : sm u u') : sm (thD u) (thD u') := sm_up7 (cg_takesNumber h)
theorem cg_rtB {u u' : Nat → Nat → Int32} (h : sm u u') : sm (rtB u) (rtB u') := cg_thN (cg_thN (cg_thA (cg_thK (cg_thC h))))
theorem cg_rtP {u u' : Nat → Nat → Int32} (h : sm u u') : sm (rtP u) (rtP u') := sm_up7 (cg_thN (cg_thA (cg_thK (cg_thC h))))
theorem cg_readThing {u u' : Nat → Nat → Int32} (h : sm u u') (hw : u 0 12 = 0) : sm (w_X6_readThing u) (w_X6_readThing u') := by
  have hw' : u' 0 12 = 0 := h.2.2.1 ▸ hw
  have hg := cg_sign h
  by_cases hs : u 0 8 ≤ u 0 11
  · rw [rT_s hs, rT_s (show u' 0 8 ≤ u' 0 11 by rw [← h.1, ← h.2.1]; exact hs)]
    exact sm_up7 (cg_rt0 h)
  · have hs' : ¬ u' 0 8 ≤ u' 0 11 := by rw [← h.1, ← h.2.1]; exact hs
    by_cases h1 : u 6 (sN (u 0) 11) = (98 : Int32)
    · rw [rT_b hs hw h1, rT_b hs' hw' (hg ▸ h1)]
      exact cg_rtB (cg_rtL h)
    · by_cases h2 : u 6 (sN (u 0) 11) = (112 : Int32)
      · rw [rT_p hs hw h2, rT_p hs' hw' (hg ▸ h2)]
        exact cg_rtP (cg_rtL h)
      · by_cases h3 : u 6 (sN (u 0) 11) = (114 : Int32)
        · rw [rT_r hs hw h3, rT_r hs' hw' (hg ▸ h3)]
          exact cg_rtL h
        · by_cases h4 : u 6 (sN (u 0) 11) = (46 : Int32)
          · rw [rT_d hs hw h4, rT_d hs' hw' (hg ▸ h4)]
            exact cg_thD (cg_rtL h)
          · rw [rT_x hs hw h1 h2 h3 h4, rT_x hs' hw' (hg ▸ h1) (hg ▸ h2) (hg ▸ h3) (hg ▸ h4)]
            exact sm_up7 (cg_rt0 h)
/-- the text goes through from here -/
def PV : Nat → (Nat → Nat → Int32) → Prop
  | 0, _ => False
  | n + 1, u => u 0 12 = 0 ∧ w_X6_readThing u 0 12 = 0 ∧ (w_X6_readThing u 0 8 ≤ w_X6_readThing u 0 11 ∨ (w_X6_takes (w_X6_readThing u) (59 : Int32) (59 : Int32) 0 12 = 0 ∧ PV n (w_X6_takes (w_X6_readThing u) (59 : Int32) (59 : Int32))))
theorem PV_sm : ∀ (n : Nat) (u u' : Nat → Nat → Int32), sm u u' → PV n u → PV n u' := by
  intro n
  induction n with
  | zero => intro u u' h hp; exact hp
  | succ n ih =>
    intro u u' h hp
    have h1 := cg_readThing h hp.1
    have h2 := cg_takes (a := (59 : Int32)) (b := (59 : Int32)) h1
    refine ⟨h.2.2.1 ▸ hp.1, h1.2.2.1 ▸ hp.2.1, ?_⟩
    rcases hp.2.2 with h3 | ⟨h3, h4⟩
    · left; rw [← h1.1, ← h1.2.1]; exact h3
    · right; exact ⟨h2.2.2.1 ▸ h3, ih _ _ h2 h4⟩
/-- reading goes forward -/
def MV (u u' : Nat → Nat → Int32) : Prop := TI (u' 0) ∧ sN (u 0) 11 ≤ sN (u' 0) 11
theorem MV_7 {u X : Nat → Nat → Int32} {k : Nat} {v : Int32} (h : MV u X) : MV u (up X 7 k v) := ⟨TI_up7 h.1, by rw [up_oi (by decide)]; exact h.2⟩
theorem pos_g {u : Nat → Nat → Int32} {w : Int32} (h : TI (u 0)) (hc : sN (u 0) 11 < sN (u 0) 8) : sN (up (up u 0 12 w) 0 11 (u 0 11 + (1 : Int32)) 0) 11 = sN (u 0) 11 + 1 := by
  have h2 := TI_pos h hc
  unfold sN at h2 ⊢
  rw [up_same] at h2 ⊢
  exact h2
theorem pos_b {u : Nat → Nat → Int32} {w : Int32} : sN (up (up u 0 12 w) 0 11 (u 0 11 + (0 : Int32)) 0) 11 = sN (u 0) 11 := by
  unfold sN; rw [up_same, Int32.add_zero]
theorem MV_takes {u X : Nat → Nat → Int32} {a b : Int32} (h : MV u X) (hle : ¬ a ≤ 0) : MV u (w_X6_takes X a b) := by
  refine ⟨takes_TI h.1 hle, ?_⟩
  rcases takes_cs (u := X) (p2 := b) hle with e | ⟨-, h2, -, e⟩
  · rw [e]; unfold tBad; rw [pos_b]; exact h.2
  · rw [e]; unfold tGood; rw [pos_g h.1 (TI_lt h.1 h2)]; have := h.2; omega
theorem MV_tnl {u : Nat → Nat → Int32} {p1 p2 : Int32} : ∀ (n : Nat) (X : Nat → Nat → Int32) (x3 x4 : Int32), MV u X → MV u (w_X6_takesNumber_loop p1 p2 n X x3 x4) := by
  intro n
  induction n with
  | zero => intro X x3 x4 h; exact h
  | succ n ih =>
    intro X x3 x4 h
    unfold w_X6_takesNumber_loop
    (repeat' split) <;> first | exact h | exact ih _ _ _ h | exact ih _ _ _ (MV_takes h (by decide))
theorem MV_takesNumber {u X : Nat → Nat → Int32} {a b : Int32} (h : MV u X) (hle : ¬ (48 : Int32) + a ≤ 0) : MV u (w_X6_takesNumber X a b) := by
  unfold w_X6_takesNumber
  (repeat' split) <;> exact MV_tnl _ _ _ _ (MV_takes h hle)
theorem MV_takesBehind {u X : Nat → Nat → Int32} {a b c : Int32} (h : MV u X) : MV u (w_X6_takesBehind X a b c) := by
  unfold w_X6_takesBehind
  by_cases hc : v_X6_isNext X a a = 0
  · rw [if_pos hc]
    refine ⟨TI_eq h.1 (up_same.trans (Int32.add_zero _)) (up_nk (by decide)), ?_⟩
    have := h.2
    unfold sN at this ⊢
    rw [up_same, Int32.add_zero]; exact this
  · rw [if_neg hc]
    have h2 := TI_lt h.1 (isNext_ok hc).2.1
    refine MV_takesNumber ⟨TI_inc h.1 h2, ?_⟩ (by decide)
    rw [TI_pos h.1 h2]; have := h.2; omega
theorem MV_g {u : Nat → Nat → Int32} {w : Int32} (h : TI (u 0)) (hc : ¬ u 0 8 ≤ u 0 11) : MV u (up (up u 0 12 w) 0 11 (u 0 11 + (1 : Int32))) := ⟨TI_g h (TI_lt h hc), by rw [pos_g h (TI_lt h hc)]; omega⟩
theorem MV_b {u : Nat → Nat → Int32} {w : Int32} (h : TI (u 0)) : MV u (up (up u 0 12 w) 0 11 (u 0 11 + (0 : Int32))) := ⟨TI_b h, by rw [pos_b]; omega⟩
theorem MV_thC {u X : Nat → Nat → Int32} (h : MV u X) : MV u (thC X) := MV_7 (MV_takes h (by decide))
theorem MV_thK {u X : Nat → Nat → Int32} (h : MV u X) : MV u (thK X) := MV_takes h (by decide)
theorem MV_thA {mx : Int32} {u X : Nat → Nat → Int32} (h : MV u X) : MV u (thA mx X) := MV_7 (MV_takesNumber h (by decide))
theorem MV_thN {k : Nat} {a b c : Int32} {u X : Nat → Nat → Int32} (h : MV u X) : MV u (thN k a b c X) := MV_7 (MV_takesBehind h)
theorem MV_thD {u X : Nat → Nat → Int32} (h : MV u X) : MV u (thD X) := MV_7 (MV_takesNumber h (by decide))
theorem MV_rtB {u X : Nat → Nat → Int32} (h : MV u X) : MV u (rtB X) := MV_thN (MV_thN (MV_thA (MV_thK (MV_thC h))))
theorem MV_rtP {u X : Nat → Nat → Int32} (h : MV u X) : MV u (rtP X) := MV_7 (MV_thN (MV_thA (MV_thK (MV_thC h))))
theorem MV_rtL {u : Nat → Nat → Int32} (h : TI (u 0)) (hc : ¬ u 0 8 ≤ u 0 11) : MV u (rtL u) := MV_7 (MV_g h hc)
theorem readThing_MV {u : Nat → Nat → Int32} (h : TI (u 0)) (hw : u 0 12 = 0) : MV u (w_X6_readThing u) := by
  by_cases hs : u 0 8 ≤ u 0 11
  · rw [rT_s hs]; exact MV_7 (MV_b h)
  · by_cases h1 : u 6 (sN (u 0) 11) = (98 : Int32)
    · rw [rT_b hs hw h1]; exact MV_rtB (MV_rtL h hs)
    · by_cases h2 : u 6 (sN (u 0) 11) = (112 : Int32)
      · rw [rT_p hs hw h2]; exact MV_rtP (MV_rtL h hs)
      · by_cases h3 : u 6 (sN (u 0) 11) = (114 : Int32)
        · rw [rT_r hs hw h3]; exact MV_rtL h hs
        · by_cases h4 : u 6 (sN (u 0) 11) = (46 : Int32)
          · rw [rT_d hs hw h4]; exact MV_thD (MV_rtL h hs)
          · rw [rT_x hs hw h1 h2 h3 h4]; exact MV_7 (MV_b h)
theorem takes_o {u : Nat → Nat → Int32} {a b : Int32} {i : Nat} (h : i ≠ 0) : w_X6_takes u a b i = u i := by
  unfold w_X6_takes
  (repeat' split) <;> rw [up_oi h, up_oi h]
theorem tnl_o {p1 p2 : Int32} {i : Nat} (h : i ≠ 0) : ∀ (n : Nat) (X : Nat → Nat → Int32) (x3 x4 : Int32), w_X6_takesNumber_loop p1 p2 n X x3 x4 i = X i := by
  intro n
  induction n with
  | zero => intro X x3 x4; rfl
  | succ n ih =>
    intro X x3 x4
    unfold w_X6_takesNumber_loop
    (repeat' split) <;> first | rfl | exact ih _ _ _ | exact (ih _ _ _).trans (takes_o h)
theorem takesNumber_o {u : Nat → Nat → Int32} {a b : Int32} {i : Nat} (h : i ≠ 0) : w_X6_takesNumber u a b i = u i := by
  unfold w_X6_takesNumber
  (repeat' split) <;> exact (tnl_o h _ _ _ _).trans (takes_o h)
theorem takesBehind_o {u : Nat → Nat → Int32} {a b c : Int32} {i : Nat} (h : i ≠ 0) : w_X6_takesBehind u a b c i = u i := by
  unfold w_X6_takesBehind
  split
  · exact up_oi h
  · exact (takesNumber_o h).trans (up_oi h)
theorem readThing_o {u : Nat → Nat → Int32} {i : Nat} (h0 : i ≠ 0) (h7 : i ≠ 7) : w_X6_readThing u i = u i := by
  unfold w_X6_readThing
  (repeat' split) <;> simp only [up_oi h0, up_oi h7, takesBehind_o h0, takesNumber_o h0, takes_o h0]
theorem takes_ok {u : Nat → Nat → Int32} {a b : Int32} (hle : ¬ a ≤ 0) (h : w_X6_takes u a b 0 12 = 0) : u 0 12 = 0 ∧ ¬ u 0 8 ≤ u 0 11 ∧ ¬ v_X6_in (u 6 (sN (u 0) 11)) a b = 0 ∧ w_X6_takes u a b = tGood u := by
  rcases takes_cs (u := u) (p2 := b) hle with e | e
  · rw [e] at h
    have h2 : tBad u 0 12 = 1 := (up_nk (by decide)).trans up_same
    rw [h2] at h
    exact absurd h (by decide)
  · exact e
theorem takes_pos1 {u : Nat → Nat → Int32} {a b : Int32} (hT : TI (u 0)) (hle : ¬ a ≤ 0) (h : w_X6_takes u a b 0 12 = 0) : sN (w_X6_takes u a b 0) 11 = sN (u 0) 11 + 1 := by
  obtain ⟨h1, h2, h3, e⟩ := takes_ok hle h
  rw [e]
  exact pos_g hT (TI_lt hT h2)
theorem takes_val {u : Nat → Nat → Int32} {a b : Int32} (hc : ¬ u 0 8 ≤ u 0 11) : v_X6_takes u a b = u 6 (sN (u 0) 11) - a := by
  unfold v_X6_takes
  rw [if_neg hc]
  (repeat' split) <;> rfl
