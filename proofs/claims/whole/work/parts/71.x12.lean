theorem RJ_perm {R R' : Nat → Nat} (σ : Nat → Nat) (hs : ∀ i, i < 6 → σ i < 6) (hi : ∀ i j, i < 6 → j < 6 → σ i = σ j → i = j) (h : ∀ i, i < 6 → R' i = R (σ i)) (hJ : RJ R) : RJ R' := by
  refine ⟨fun i j h1 h2 e => ?_, fun k hk => ?_⟩
  · rw [h i h1, h j h2] at e
    exact hi i j h1 h2 (hJ.1 _ _ (hs i h1) (hs j h2) e)
  · rw [h k hk]; exact hJ.2 _ (hs k hk)
theorem RI_perm {R R' : Nat → Nat} (σ : Nat → Nat) (hs : ∀ i, i < 6 → σ i < 6) (h : ∀ i, i < 6 → R' i = R (σ i)) (hI : RI R) : RI R' := fun k hk => by
  rw [h k hk]; exact hI _ (hs k hk)
theorem sA_1 {z : CS} (hJ : RJ z.1) : (w_X5_startAct z).1 = z.1 := (cp_ok (RJ_ne hJ (by decide) (by decide) (by decide))).1
theorem sA_0 {z : CS} (hJ : RJ z.1) : (w_X5_startAct z).2 (z.1 0) = z.2 (z.1 0) := (cp_ok (r := z.1 1) (r1 := z.1 0) (RJ_ne hJ (by decide) (by decide) (by decide))).2.1 _ (RJ_ne hJ (by decide) (by decide) (by decide))
theorem eA_v {z : CS} {p : Int32} : v_X5_endAct z p = p := by
  unfold v_X5_endAct
  rw [ite_self]
theorem wz_same {z : CS} {r : Nat} {b : Nat → Nat → Int32} : (zB z r b).2 r = b := by
  show upP z.2 r b r = b
  exact upP_same
set_option maxHeartbeats 20000 in
theorem mid0 {z y : CS} {W : Nat → Nat → Int32} (hne : z.1 0 ≠ z.1 1) (h1 : y.1 = z.1) (h2 : ∀ q, q ≠ z.1 1 → y.2 q = z.2 q) (h3 : cpE (y.2 (z.1 1)) (z.2 (z.1 0))) : (zB y (z.1 0) W).1 = z.1 ∧ (zB y (z.1 0) W).2 (z.1 0) = W ∧ (∀ q, q ≠ z.1 0 → q ≠ z.1 1 → (zB y (z.1 0) W).2 q = z.2 q) ∧ cpE ((zB y (z.1 0) W).2 (z.1 1)) (z.2 (z.1 0)) := by
  have e1 : (zB y (z.1 0) W).2 (z.1 0) = W := wz_same
  have e2 : ∀ q, q ≠ z.1 0 → (zB y (z.1 0) W).2 q = y.2 q := fun q hq => wz_ne hq
  have e3 : (zB y (z.1 0) W).1 = y.1 := rfl
  refine ⟨e3.trans h1, e1, fun q g1 g2 => (e2 q g1).trans (h2 q g2), ?_⟩
  rw [e2 _ (Ne.symm hne)]
  exact h3
theorem mid {z : CS} {W : Nat → Nat → Int32} (hI : RI z.1) (hJ : RJ z.1) : (zB (w_X5_startAct z) (z.1 0) W).1 = z.1 ∧ (zB (w_X5_startAct z) (z.1 0) W).2 (z.1 0) = W ∧ (∀ q, q ≠ z.1 0 → q ≠ z.1 1 → (zB (w_X5_startAct z) (z.1 0) W).2 q = z.2 q) ∧ cpE ((zB (w_X5_startAct z) (z.1 0) W).2 (z.1 1)) (z.2 (z.1 0)) := by
  have hne : z.1 0 ≠ z.1 1 := RJ_ne hJ (by decide) (by decide) (by decide)
  obtain ⟨h1, h2, h3⟩ := cp_ok (z := z) hne
  exact mid0 hne h1 h2 h3
def sw2 (a b : Nat) : Nat → Nat := fun i => if i = b then a else if i = a then b else i
theorem sw2_lt {a b : Nat} (ha : a < 6) (hb : b < 6) : ∀ i, i < 6 → sw2 a b i < 6 := fun i hi => by
  unfold sw2
  split
  · exact ha
  · split
    · exact hb
    · exact hi
theorem sw2_inj {a b : Nat} : ∀ i j, i < 6 → j < 6 → sw2 a b i = sw2 a b j → i = j := fun i j _ _ h => by
  unfold sw2 at h
  repeat' split at h
  all_goals omega
theorem sw2_R {R : Nat → Nat} {a b : Nat} : ∀ i, i < 6 → upR (upR R a (R b)) b (R a) i = R (sw2 a b i) := fun i _ => by
  unfold upR sw2
  by_cases h1 : i = b
  · rw [if_pos h1, if_pos h1]
  · rw [if_neg h1, if_neg h1]
    by_cases h2 : i = a
    · rw [if_pos h2, if_pos h2]
    · rw [if_neg h2, if_neg h2]
/-- the pages in the middle of an act, said of them alone -/
def MD (z y : CS) (W : Nat → Nat → Int32) : Prop := y.1 = z.1 ∧ y.2 (z.1 0) = W ∧ (∀ q, q ≠ z.1 0 → q ≠ z.1 1 → y.2 q = z.2 q) ∧ cpE (y.2 (z.1 1)) (z.2 (z.1 0))
theorem act_noY {z y : CS} {u u' W : Nat → Nat → Int32} {ans : Int32} (h : RLz z u) (hy : MD z y W) (ha : ans < 0) (hu : uE u u') : RLz (w_X5_endAct y ans) u' := by
  refine RLz_u ?_ hu
  obtain ⟨hI, hJ, hN, ⟨k, hk, h4, h5, h6⟩, h7, h8, h9⟩ := h
  obtain ⟨m1, m2, m3, m4⟩ := hy
  have e7 : y.2 7 = z.2 7 := m3 7 (by have := hI 0 (by decide); omega) (by have := hI 1 (by decide); omega)
  have e8 : y.2 8 = z.2 8 := m3 8 (by have := hI 0 (by decide); omega) (by have := hI 1 (by decide); omega)
  have e2 : y.2 2 = z.2 2 := m3 2 (Ne.symm (hJ.2 0 (by decide))) (Ne.symm (hJ.2 1 (by decide)))
  unfold w_X5_endAct
  rw [if_pos ha]
  have hR : (zR (zR y 1 (y.1 0)) 0 (y.1 1)).1 = upR (upR z.1 1 (z.1 0)) 0 (z.1 1) := by
    show upR (upR y.1 1 (y.1 0)) 0 (y.1 1) = _
    rw [m1]
  have hP : (zR (zR y 1 (y.1 0)) 0 (y.1 1)).2 = y.2 := rfl
  refine ⟨?_, ?_, ?_, ⟨k, hk, ?_, h5, fun i hi => ?_⟩, ?_, ?_, ?_⟩
  · rw [hR]; exact RI_perm (sw2 1 0) (sw2_lt (by decide) (by decide)) sw2_R hI
  · rw [hR]; exact RJ_perm (sw2 1 0) (sw2_lt (by decide) (by decide)) sw2_inj sw2_R hJ
  · rw [hR, hP, upR_same]; exact BR_cp hN m4
  · rw [hP, e7]; exact h4
  · rw [hR, hP, upR_ne (by omega), upR_ne (by omega), m3 _ (RJ_ne hJ (by omega) (by decide) (by omega)) (RJ_ne hJ (by omega) (by decide) (by omega))]; exact h6 i hi
  · unfold SNP; rw [hP, e7, e2]; exact h7
  · rw [hP, e8]; exact h8
  · unfold STP; rw [hP, e7]; exact h9
def rot5 : Nat → Nat := fun i => if i = 1 then 2 else if i = 5 then 1 else if i = 0 then 0 else i + 1
theorem rot5_lt : ∀ i, i < 6 → rot5 i < 6 := by decide
theorem rot5_inj : ∀ i j, i < 6 → j < 6 → rot5 i = rot5 j → i = j := fun i j _ _ h => by
  unfold rot5 at h
  repeat' split at h
  all_goals omega
theorem rot5_R {R : Nat → Nat} : ∀ i, i < 6 → upR (upR (upR (upR (upR R 2 (R 3)) 3 (R 4)) 4 (R 5)) 5 (R 1)) 1 (R 2) i = R (rot5 i) := fun i hi => by
  rcases (show i = 0 ∨ i = 1 ∨ i = 2 ∨ i = 3 ∨ i = 4 ∨ i = 5 by omega) with rfl | rfl | rfl | rfl | rfl | rfl <;> rfl
theorem act_okY {z y : CS} {u u' W : Nat → Nat → Int32} {ans : Int32} (h : RLz z u) (hy : MD z y W) (ha : ¬ ans < 0) (hW : BR W (u' 1)) (hK : KH (u 1) u u') (hu : uA u u') : RLz (w_X5_endAct y ans) u' := by
  obtain ⟨hI, hJ, hN, ⟨k, hk, h4, h5, h6⟩, h7, ⟨n, hn, h8, h9, h10⟩, h11⟩ := h
  obtain ⟨m1, m2, m3, m4⟩ := hy
  obtain ⟨u4, u6, u0⟩ := hu
  have e7 : y.2 7 = z.2 7 := m3 7 (by have := hI 0 (by decide); omega) (by have := hI 1 (by decide); omega)
  have e8 : y.2 8 = z.2 8 := m3 8 (by have := hI 0 (by decide); omega) (by have := hI 1 (by decide); omega)
  have e2 : y.2 2 = z.2 2 := m3 2 (Ne.symm (hJ.2 0 (by decide))) (Ne.symm (hJ.2 1 (by decide)))
  have ecnt : y.2 7 1 1 = nI k := by rw [e7]; exact h4
  have hold : ∀ i, 2 ≤ i → i < 6 → y.2 (z.1 i) = z.2 (z.1 i) := fun i g1 g2 => m3 _ (RJ_ne hJ g2 (by decide) (by omega)) (RJ_ne hJ g2 (by decide) (by omega))
  have hlt : ∀ i, i < 6 → z.1 i ≠ 7 := fun i hi => by have := hI i hi; omega
  have hTX : ∀ t : Nat → Nat → Int32, t = z.2 8 → TXT t u' := fun t e => by
    rw [e]
    exact ⟨n, hn, h8, (u0 8 (by omega)).trans h9, fun q hq => by rw [u6]; exact h10 q hq⟩
  have hst : ∀ y' : CS, (∀ c, c ≠ 1 → y'.2 7 0 c = z.2 7 0 c) → STP y' u' := fun y' e => by
    unfold STP
    rw [e 6 (by decide), e 7 (by decide), e 8 (by decide), u0 9 (by omega), u0 10 (by omega)]; exact h11
  have hsn : ∀ y' : CS, y'.2 7 0 3 = z.2 7 0 3 → y'.2 2 = z.2 2 → SNP y' u' := fun y' e e' => by
    unfold SNP
    rw [e, e', u0 4 (by omega), u4]; exact h7
  obtain ⟨k', hk', g5, gg⟩ := hK
  have ek : k' = k := (nI_eq (by omega) (by omega)).mp (g5.symm.trans h5)
  subst ek
  unfold w_X5_endAct w_X2_add v_X2_add
  rw [if_neg ha, ecnt, if_neg (nI_pos (by omega)), if_neg (nI_pos (by omega))]
  rcases gg with ⟨q1, q2, q3, q4⟩ | ⟨rfl, q2, q3, q4⟩
  · rw [if_neg (show ¬ (4 : Int32) ≤ nI k' from nI_ge (b := 4) q1 (by decide)), if_neg (show ¬ (4 : Int32) ≤ nI k' from nI_ge (b := 4) q1 (by decide)), nI_clamp (by omega)]
    have hR : (zR (w7 (zR y (2 + k') (y.1 1)) 1 1 (nI k' + (1 : Int32))) 1 (y.1 (2 + k'))).1 = upR (upR z.1 (2 + k') (z.1 1)) 1 (z.1 (2 + k')) := by
      show upR (upR y.1 (2 + k') (y.1 1)) 1 (y.1 (2 + k')) = _
      rw [m1]
    have hP : ∀ q, q ≠ 7 → (zR (w7 (zR y (2 + k') (y.1 1)) 1 1 (nI k' + (1 : Int32))) 1 (y.1 (2 + k'))).2 q = y.2 q := fun q hq => upP_ne hq
    have hP7 : ∀ t c, ¬ (t = 1 ∧ c = 1) → (zR (w7 (zR y (2 + k') (y.1 1)) 1 1 (nI k' + (1 : Int32))) 1 (y.1 (2 + k'))).2 7 t c = y.2 7 t c := fun t c hq => (show (w7 (zR y (2 + k') (y.1 1)) 1 1 (nI k' + (1 : Int32))).2 7 t c = (zR y (2 + k') (y.1 1)).2 7 t c from w7_ne hq)
    refine ⟨?_, ?_, ?_, ⟨k' + 1, by omega, ?_, q2, fun i hi => ?_⟩, hsn _ ?_ ?_, hTX _ ?_, hst _ (fun c hc => ?_)⟩
    · rw [hR]; exact RI_perm (sw2 (2 + k') 1) (sw2_lt (by omega) (by decide)) sw2_R hI
    · rw [hR]; exact RJ_perm (sw2 (2 + k') 1) (sw2_lt (by omega) (by decide)) sw2_inj sw2_R hJ
    · rw [hR, sw2_R 0 (by decide), show sw2 (2 + k') 1 0 = 0 by unfold sw2; rw [if_neg (by decide), if_neg (by omega)], hP _ (hlt 0 (by decide)), m2]; exact hW
    · have e1 : (w7 (zR y (2 + k') (y.1 1)) 1 1 (nI k' + (1 : Int32))).2 7 1 1 = nI k' + (1 : Int32) := w7_same
      exact e1.trans (nI_1 k')
    · rw [hR, sw2_R (2 + i) (by omega)]
      by_cases g : i = k'
      · subst g
        rw [show sw2 (2 + i) 1 (2 + i) = 1 by unfold sw2; rw [if_neg (by omega), if_pos rfl], hP _ (hlt 1 (by decide))]
        exact BR_s (BR_cp hN m4) (fun q hq => q4 q hq)
      · rw [show sw2 (2 + k') 1 (2 + i) = 2 + i by unfold sw2; rw [if_neg (by omega), if_neg (by omega)], hP _ (hlt _ (by omega)), hold _ (by omega) (by omega)]
        exact BR_s (h6 i (by omega)) (fun q hq => q3 i (by omega) q hq)
    · rw [hP7 0 3 (by decide), e7]
    · rw [hP 2 (by decide), e2]
    · rw [hP 8 (by decide), e8]
    · rw [hP7 0 c (by omega), e7]
  · rw [if_pos (show (4 : Int32) ≤ nI 4 by decide), if_pos (show (4 : Int32) ≤ nI 4 by decide)]
    have hR : (zR (w_X2_add_loop y (y.1 1) 3 0 y) 1 (v_X2_add_loop y (y.1 1) 3 0 y)).1 = upR (upR (upR (upR (upR z.1 2 (z.1 3)) 3 (z.1 4)) 4 (z.1 5)) 5 (z.1 1)) 1 (z.1 2) := by
      rw [← m1]; rfl
    have hP : (zR (w_X2_add_loop y (y.1 1) 3 0 y) 1 (v_X2_add_loop y (y.1 1) 3 0 y)).2 = y.2 := rfl
    refine ⟨?_, ?_, ?_, ⟨4, by omega, ?_, q2, fun i hi => ?_⟩, hsn _ ?_ ?_, hTX _ ?_, hst _ (fun c hc => ?_)⟩
    · rw [hR]; exact RI_perm rot5 rot5_lt rot5_R hI
    · rw [hR]; exact RJ_perm rot5 rot5_lt rot5_inj rot5_R hJ
    · rw [hR, rot5_R 0 (by decide), hP]
      show BR (y.2 (z.1 0)) _
      rw [m2]; exact hW
    · rw [hP]; exact ecnt
    · rw [hR, rot5_R (2 + i) (by omega), hP]
      by_cases g : i = 3
      · subst g
        show BR (y.2 (z.1 1)) _
        exact BR_s (BR_cp hN m4) (fun q hq => q4 q hq)
      · rw [show rot5 (2 + i) = 2 + (i + 1) by unfold rot5; rw [if_neg (by omega), if_neg (by omega), if_neg (by omega)]; omega, hold _ (by omega) (by omega)]
        exact BR_s (h6 (i + 1) (by omega)) (fun q hq => q3 i (by omega) q hq)
    · rw [hP, e7]
    · rw [hP, e2]
    · rw [hP, e8]
    · rw [hP, e7]
theorem act_no {z : CS} {u u' W : Nat → Nat → Int32} {ans : Int32} (h : RLz z u) (ha : ans < 0) (hu : uE u u') : RLz (w_X5_endAct (zB (w_X5_startAct z) (z.1 0) W) ans) u' := act_noY h (mid h.1 h.2.1) ha hu
theorem act_ok {z : CS} {u u' W : Nat → Nat → Int32} {ans : Int32} (h : RLz z u) (ha : ¬ ans < 0) (hW : BR W (u' 1)) (hK : KH (u 1) u u') (hu : uA u u') : RLz (w_X5_endAct (zB (w_X5_startAct z) (z.1 0) W) ans) u' := act_okY h (mid h.1 h.2.1) ha hW hK hu
