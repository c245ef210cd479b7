/-! what reading leaves alone in the object -/
theorem takes_k {u : Nat → Nat → Int32} {a b : Int32} {k : Nat} (h1 : k ≠ 11) (h2 : k ≠ 12) : w_X6_takes u a b 0 k = u 0 k := by
  unfold w_X6_takes
  (repeat' split) <;> rw [up_nk h1, up_nk h2]
theorem tnl_k {p1 p2 : Int32} {k : Nat} (h1 : k ≠ 11) (h2 : k ≠ 12) : ∀ (n : Nat) (X : Nat → Nat → Int32) (x3 x4 : Int32), w_X6_takesNumber_loop p1 p2 n X x3 x4 0 k = X 0 k := by
  intro n
  induction n with
  | zero => intro X x3 x4; rfl
  | succ n ih =>
    intro X x3 x4
    unfold w_X6_takesNumber_loop
    (repeat' split) <;> first | rfl | exact ih _ _ _ | exact (ih _ _ _).trans (takes_k h1 h2)
theorem takesNumber_k {u : Nat → Nat → Int32} {a b : Int32} {k : Nat} (h1 : k ≠ 11) (h2 : k ≠ 12) : w_X6_takesNumber u a b 0 k = u 0 k := by
  unfold w_X6_takesNumber
  (repeat' split) <;> exact (tnl_k h1 h2 _ _ _ _).trans (takes_k h1 h2)
theorem takesBehind_k {u : Nat → Nat → Int32} {a b c : Int32} {k : Nat} (h1 : k ≠ 11) (h2 : k ≠ 12) : w_X6_takesBehind u a b c 0 k = u 0 k := by
  unfold w_X6_takesBehind
  split
  · exact up_nk h1
  · exact (takesNumber_k h1 h2).trans (up_nk h1)
theorem rt0_k {u : Nat → Nat → Int32} {w i : Int32} {k : Nat} (h1 : k ≠ 11) (h2 : k ≠ 12) : rt0 w i u 0 k = u 0 k := (up_nk h1).trans (up_nk h2)
theorem thN_k {Y : Nat → Nat → Int32} {q k : Nat} {a b c : Int32} (h1 : k ≠ 11) (h2 : k ≠ 12) : thN q a b c Y 0 k = Y 0 k := (up_ni (by decide)).trans (takesBehind_k h1 h2)
theorem thA_k {Y : Nat → Nat → Int32} {b : Int32} {k : Nat} (h1 : k ≠ 11) (h2 : k ≠ 12) : thA b Y 0 k = Y 0 k := (up_ni (by decide)).trans (takesNumber_k h1 h2)
theorem thD_k {Y : Nat → Nat → Int32} {k : Nat} (h1 : k ≠ 11) (h2 : k ≠ 12) : thD Y 0 k = Y 0 k := (up_ni (by decide)).trans (takesNumber_k h1 h2)
theorem thC_k {Y : Nat → Nat → Int32} {k : Nat} (h1 : k ≠ 11) (h2 : k ≠ 12) : thC Y 0 k = Y 0 k := (up_ni (by decide)).trans (takes_k h1 h2)
theorem rtL_k {u : Nat → Nat → Int32} {k : Nat} (h1 : k ≠ 11) (h2 : k ≠ 12) : rtL u 0 k = u 0 k := (up_ni (by decide)).trans (rt0_k h1 h2)
theorem readThing_k {u : Nat → Nat → Int32} {k : Nat} (hw : u 0 12 = 0) (h1 : k ≠ 11) (h2 : k ≠ 12) : w_X6_readThing u 0 k = u 0 k := by
  by_cases hs : u 0 8 ≤ u 0 11
  · rw [rT_s hs]; exact (up_ni (by decide)).trans (rt0_k h1 h2)
  · by_cases c1 : u 6 (sN (u 0) 11) = (98 : Int32)
    · rw [rT_b hs hw c1]; exact (thN_k h1 h2).trans ((thN_k h1 h2).trans ((thA_k h1 h2).trans ((takes_k h1 h2).trans ((thC_k h1 h2).trans (rtL_k h1 h2)))))
    · by_cases c2 : u 6 (sN (u 0) 11) = (112 : Int32)
      · rw [rT_p hs hw c2]; exact (up_ni (by decide)).trans ((thN_k h1 h2).trans ((thA_k h1 h2).trans ((takes_k h1 h2).trans ((thC_k h1 h2).trans (rtL_k h1 h2)))))
      · by_cases c3 : u 6 (sN (u 0) 11) = (114 : Int32)
        · rw [rT_r hs hw c3]; exact rtL_k h1 h2
        · by_cases c4 : u 6 (sN (u 0) 11) = (46 : Int32)
          · rw [rT_d hs hw c4]; exact (thD_k h1 h2).trans (rtL_k h1 h2)
          · rw [rT_x hs hw c1 c2 c3 c4]; exact (up_ni (by decide)).trans (rt0_k h1 h2)
/-- the loop is over -/
theorem goes_x0 {p1 : Int32} : ∀ (n : Nat) (u1 : Nat → Nat → Int32) (x2 : Int32), w_X6_goes_loop p1 n u1 x2 (0 : Int32) = u1 := by
  intro n u1 x2
  cases n with
  | zero => rfl
  | succ n => exact if_pos rfl
theorem goes_v0 {p1 : Int32} : ∀ (n : Nat) (u1 : Nat → Nat → Int32) (x2 : Int32), v_X6_goes_loop p1 n u1 x2 (0 : Int32) = x2 := by
  intro n u1 x2
  cases n with
  | zero => rfl
  | succ n => exact if_pos rfl
/-- what a run through the text leaves alone -/
def GK (u U : Nat → Nat → Int32) : Prop := (∀ k, k ≠ 11 → k ≠ 12 → k ≠ 14 → U 0 k = u 0 k) ∧ (∀ i, i ≠ 0 → i ≠ 1 → i ≠ 2 → i ≠ 7 → U i = u i) ∧ TI (U 0)
theorem GK.tr {u u' u'' : Nat → Nat → Int32} (h1 : GK u u') (h2 : GK u' u'') : GK u u'' := ⟨fun k a b c => (h2.1 k a b c).trans (h1.1 k a b c), fun i a b c d => (h2.2.1 i a b c d).trans (h1.2.1 i a b c d), h2.2.2⟩
theorem GK_14 {u : Nat → Nat → Int32} {v : Int32} (h : TI (u 0)) : GK u (up u 0 14 v) := ⟨fun k _ _ c => up_nk c, fun i a _ _ _ => up_oi a, TI_up14 h⟩
theorem GK_takes {u : Nat → Nat → Int32} (h : TI (u 0)) : GK u (w_X6_takes u (59 : Int32) (59 : Int32)) := ⟨fun k a b _ => takes_k a b, fun i a _ _ _ => takes_o a, takes_TI h (by decide)⟩
theorem GK_readThing {u : Nat → Nat → Int32} (h : TI (u 0)) (hw : u 0 12 = 0) : GK u (w_X6_readThing u) := ⟨fun k a b _ => readThing_k hw a b, fun i a _ _ d => readThing_o a d, (readThing_MV h hw).1⟩
theorem GK_pr2 {u u' : Nat → Nat → Int32} (h : TI (u 0)) (h2 : PR2 u u') : GK u u' := ⟨fun k _ _ _ => by rw [h2.2.1 0 (by decide) (by decide)], fun i _ b c _ => h2.2.1 i b c, TI_pr2 h2 h⟩
/-- the first run: it only reads -/
theorem goes0_lp : ∀ (n : Nat) (u1 : Nat → Nat → Int32) (x2 x3 : Int32), TI (u1 0) → (x3 = 0 ∨ u1 0 12 = 0) → GK u1 (w_X6_goes_loop (0 : Int32) n u1 x2 x3) ∧ (∀ i, i ≠ 0 → i ≠ 7 → w_X6_goes_loop (0 : Int32) n u1 x2 x3 i = u1 i) ∧ (¬ x3 = 0 → 61 ≤ sN (u1 0) 11 + n → w_X6_goes_loop (0 : Int32) n u1 x2 x3 0 12 = 0 → PV n u1) := by
  intro n
  induction n with
  | zero =>
    intro u1 x2 x3 hT hw
    refine ⟨⟨fun _ _ _ _ => rfl, fun _ _ _ _ _ => rfl, hT⟩, fun _ _ _ => rfl, fun _ h => ?_⟩
    have := TI_60 hT
    have := TI_le hT
    omega
  | succ n ih =>
    intro u1 x2 x3 hT hw
    by_cases c1 : x3 = 0
    · subst c1
      rw [goes_x0]
      exact ⟨⟨fun _ _ _ _ => rfl, fun _ _ _ _ _ => rfl, hT⟩, fun _ _ _ => rfl, fun h => absurd rfl h⟩
    · have hw := hw.resolve_left c1
      have hG := GK_readThing hT hw
      have hMV := readThing_MV hT hw
      have hG2 := hG.tr (GK_14 (v := (0 : Int32)) hG.2.2)
      unfold w_X6_goes_loop
      rw [if_neg c1, if_pos rfl]
      by_cases c2 : w_X6_readThing u1 0 12 = 0
      · rw [if_pos c2]
        by_cases c3 : w_X6_readThing u1 0 8 ≤ w_X6_readThing u1 0 11
        · rw [if_pos c3, goes_x0]
          exact ⟨hG2, fun i a b => (up_oi a).trans (readThing_o a b), fun _ _ _ => ⟨hw, c2, Or.inl c3⟩⟩
        · rw [if_neg c3]
          have hG3 := hG2.tr (GK_takes hG2.2.2)
          by_cases c4 : w_X6_takes (up (w_X6_readThing u1) 0 14 (0 : Int32)) (59 : Int32) (59 : Int32) 0 12 = 0
          · rw [if_pos c4]
            obtain ⟨i1, i2, i3⟩ := ih (w_X6_takes (up (w_X6_readThing u1) 0 14 (0 : Int32)) (59 : Int32) (59 : Int32)) (x2 + (1 : Int32)) (1 : Int32) hG3.2.2 (Or.inr c4)
            refine ⟨hG3.tr i1, fun i a b => (i2 i a b).trans ((takes_o a).trans ((up_oi a).trans (readThing_o a b))), fun _ h5 h6 => ⟨hw, c2, Or.inr ?_⟩⟩
            have hp := i3 (by decide) (goes_f h5 hMV.2 pos_14 hG2.2.2 c4) h6
            have hs := cg_takes (a := (59 : Int32)) (b := (59 : Int32)) (sm_14 (u := w_X6_readThing u1) (v := (0 : Int32)))
            exact ⟨hs.2.2.1.trans c4, PV_sm n _ _ hs.sy hp⟩
          · rw [if_neg c4, goes_x0]
            exact ⟨hG3, fun i a b => (takes_o a).trans ((up_oi a).trans (readThing_o a b)), fun _ _ h6 => absurd h6 c4⟩
      · rw [if_neg c2, goes_x0]
        exact ⟨hG2, fun i a b => (up_oi a).trans (readThing_o a b), fun _ _ h6 => absurd ((up_nk (by decide)).symm.trans h6) c2⟩
theorem gst_TI {u : Nat → Nat → Int32} (h : LI (u 0)) : TI (gst u 0) := TI_st h
theorem gst_fl {u : Nat → Nat → Int32} : gst u 0 12 = 0 := (up_nk (by decide)).trans up_same
theorem gst_pos {u : Nat → Nat → Int32} : sN (gst u 0) 11 = 0 := congrArg Int32.toNatClampNeg ((up_nk (by decide)).trans ((up_nk (by decide)).trans up_same))
theorem gst_GK {u : Nat → Nat → Int32} (h : LI (u 0)) : GK u (gst u) := ⟨fun k a b c => (up_nk c).trans ((up_nk b).trans (up_nk a)), fun i a _ _ _ => (up_oi a).trans ((up_oi a).trans (up_oi a)), gst_TI h⟩
theorem goes0_o {u : Nat → Nat → Int32} {i : Nat} (h : LI (u 0)) (a : i ≠ 0) (b : i ≠ 7) : w_X6_goes u (0 : Int32) i = u i :=
  ((goes0_lp 61 (gst u) 0 1 (gst_TI h) (Or.inr gst_fl)).2.1 i a b).trans ((up_oi a).trans ((up_oi a).trans (up_oi a)))
theorem goes0_GK {u : Nat → Nat → Int32} (h : LI (u 0)) : GK u (w_X6_goes u (0 : Int32)) := (gst_GK h).tr (goes0_lp 61 (gst u) 0 1 (gst_TI h) (Or.inr gst_fl)).1
theorem goes0_PV {u : Nat → Nat → Int32} (h : LI (u 0)) (h0 : w_X6_goes u (0 : Int32) 0 12 = 0) : PV 61 (gst u) :=
  (goes0_lp 61 (gst u) 0 1 (gst_TI h) (Or.inr gst_fl)).2.2 (by decide) (by omega) h0
theorem sm_gst {u u' : Nat → Nat → Int32} (h8 : u' 0 8 = u 0 8) (h6 : u' 6 = u 6) : sm (gst u) (gst u') := ⟨(up_nk (by decide)).trans ((up_nk (by decide)).trans ((up_nk (by decide)).trans (h8.symm.trans ((up_nk (by decide)).trans ((up_nk (by decide)).trans (up_nk (by decide)))).symm))), ((up_nk (by decide)).trans ((up_nk (by decide)).trans up_same)).trans ((up_nk (by decide)).trans ((up_nk (by decide)).trans up_same)).symm, gst_fl.trans gst_fl.symm, (up_oi (by decide)).trans ((up_oi (by decide)).trans ((up_oi (by decide)).trans (h6.symm.trans ((up_oi (by decide)).trans ((up_oi (by decide)).trans (up_oi (by decide)))).symm)))⟩
theorem TI_LI {s : Nat → Int32} (h : TI s) : LI s := ⟨sN s 8, TI_60 h, TI_n h⟩
/-- the second run: it does what it reads -/
theorem goes1_lp {p1 : Int32} (hp : ¬ p1 = 0) : ∀ (n : Nat) (u1 : Nat → Nat → Int32) (x2 x3 : Int32), TI (u1 0) → SI (u1 1) → (x3 = 0 ∨ PV n u1) → GK u1 (w_X6_goes_loop p1 n u1 x2 x3) ∧ SI (w_X6_goes_loop p1 n u1 x2 x3 1) ∧ ∀ k, 713 ≤ k → w_X6_goes_loop p1 n u1 x2 x3 1 k = u1 1 k := by
  intro n
  induction n with
  | zero =>
    intro u1 x2 x3 hT hm hP
    exact ⟨⟨fun _ _ _ _ => rfl, fun _ _ _ _ _ => rfl, hT⟩, hm, fun _ _ => rfl⟩
  | succ n ih =>
    intro u1 x2 x3 hT hm hP
    by_cases c1 : x3 = 0
    · subst c1
      rw [goes_x0]
      exact ⟨⟨fun _ _ _ _ => rfl, fun _ _ _ _ _ => rfl, hT⟩, hm, fun _ _ => rfl⟩
    · have hP := hP.resolve_left c1
      have hw := hP.1
      have hG := GK_readThing hT hw
      have hmR := readThing_SI (u := u1) hm
      have hP2 := does_PR2 hmR (readThing_HV hw hP.2.1).toHD
      have hG2 := fun v => (hG.tr (GK_pr2 hG.2.2 hP2)).tr (GK_14 (v := v) (TI_pr2 hP2 hG.2.2))
      have hb : ∀ (v : Int32) (k : Nat), 713 ≤ k → up (w_X6_does (w_X6_readThing u1)) 0 14 v 1 k = u1 1 k := fun v k hk => (up_ni (by decide)).trans ((hP2.2.2 k hk).trans (congrFun (readThing_o (by decide) (by decide)) k))
      have fin : ∀ (v y : Int32), GK u1 (w_X6_goes_loop p1 n (up (w_X6_does (w_X6_readThing u1)) 0 14 v) y (0 : Int32)) ∧ SI (w_X6_goes_loop p1 n (up (w_X6_does (w_X6_readThing u1)) 0 14 v) y (0 : Int32) 1) ∧ ∀ k, 713 ≤ k → w_X6_goes_loop p1 n (up (w_X6_does (w_X6_readThing u1)) 0 14 v) y (0 : Int32) 1 k = u1 1 k := by
        intro v y
        rw [goes_x0]
        exact ⟨hG2 v, SI_up0 hP2.1, hb v⟩
      have rec' : ∀ (v y z : Int32), (z = 0 ∨ PV n (w_X6_takes (up (w_X6_does (w_X6_readThing u1)) 0 14 v) (59 : Int32) (59 : Int32))) → GK u1 (w_X6_goes_loop p1 n (w_X6_takes (up (w_X6_does (w_X6_readThing u1)) 0 14 v) (59 : Int32) (59 : Int32)) y z) ∧ SI (w_X6_goes_loop p1 n (w_X6_takes (up (w_X6_does (w_X6_readThing u1)) 0 14 v) (59 : Int32) (59 : Int32)) y z 1) ∧ ∀ k, 713 ≤ k → w_X6_goes_loop p1 n (w_X6_takes (up (w_X6_does (w_X6_readThing u1)) 0 14 v) (59 : Int32) (59 : Int32)) y z 1 k = u1 1 k := by
        intro v y z hz
        have hG3 := (hG2 v).tr (GK_takes (hG2 v).2.2)
        obtain ⟨i1, i2, i3⟩ := ih (w_X6_takes (up (w_X6_does (w_X6_readThing u1)) 0 14 v) (59 : Int32) (59 : Int32)) y z hG3.2.2 (SI_takes (SI_up0 hP2.1)) hz
        exact ⟨hG3.tr i1, i2, fun k hk => (i3 k hk).trans ((congrFun (takes_o (by decide)) k).trans (hb v k hk))⟩
      unfold w_X6_goes_loop
      rw [if_neg c1, if_neg hp]
      by_cases c2 : 0 ≤ v_X6_does (w_X6_readThing u1)
      · rw [if_pos c2]
        by_cases c3 : w_X6_does (w_X6_readThing u1) 0 12 = 0
        · rw [if_pos c3]
          by_cases c4 : w_X6_does (w_X6_readThing u1) 0 8 ≤ w_X6_does (w_X6_readThing u1) 0 11
          · rw [if_pos c4]; exact fin _ _
          · rw [if_neg c4]
            by_cases c5 : w_X6_takes (up (w_X6_does (w_X6_readThing u1)) 0 14 (0 : Int32)) (59 : Int32) (59 : Int32) 0 12 = 0
            · rw [if_pos c5]; exact rec' _ _ _ (Or.inr (goes_PV hP (sm_pr2 hP2) c4))
            · rw [if_neg c5]; exact rec' _ _ _ (Or.inl rfl)
        · rw [if_neg c3]; exact fin _ _
      · rw [if_neg c2]
        by_cases c6 : v_X6_does (w_X6_readThing u1) = 0
        · exact absurd (by rw [c6]; decide) c2
        · rw [if_neg c6]; exact fin _ _
theorem goes1_all {u : Nat → Nat → Int32} (h : LI (u 0)) (hm : SI (u 1)) (hP : PV 61 (gst u)) : GK u (w_X6_goes u (1 : Int32)) ∧ SI (w_X6_goes u (1 : Int32) 1) ∧ ∀ k, 713 ≤ k → w_X6_goes u (1 : Int32) 1 k = u 1 k := by
  obtain ⟨i1, i2, i3⟩ := goes1_lp (p1 := (1 : Int32)) (by decide) 61 (gst u) 0 1 (gst_TI h) (SI_up0 (SI_up0 (SI_up0 hm))) (Or.inr hP)
  exact ⟨(gst_GK h).tr i1, i2, fun k hk => (i3 k hk).trans ((up_ni (by decide)).trans ((up_ni (by decide)).trans (up_ni (by decide))))⟩
/-- what stands at the second run's start -/
theorem second_LI {u : Nat → Nat → Int32} (h : LI (u 0)) : LI (w_X6_looks (w_X6_goes u (0 : Int32)) 0) := by
  rw [looks_o (by decide)]; exact TI_LI (goes0_GK h).2.2
theorem second_SI {u : Nat → Nat → Int32} (h : LI (u 0)) (hm : SI (u 1)) : SI (w_X6_looks (w_X6_goes u (0 : Int32)) 1) := by
  rw [looks_o (by decide), goes0_o h (by decide) (by decide)]; exact hm
theorem second_PV {u : Nat → Nat → Int32} (h : LI (u 0)) (h0 : w_X6_goes u (0 : Int32) 0 12 = 0) : PV 61 (gst (w_X6_looks (w_X6_goes u (0 : Int32)))) := by
  refine PV_sm 61 _ _ (sm_gst ?_ ?_) (goes0_PV h h0)
  · rw [looks_o (by decide)]; exact (goes0_GK h).1 8 (by decide) (by decide) (by decide)
  · rw [looks_o (by decide)]; exact goes0_o h (by decide) (by decide)
theorem second_KI {u : Nat → Nat → Int32} (h : LI (u 0)) (hm : SI (u 1)) (h0 : w_X6_goes u (0 : Int32) 0 12 = 0) (hk : KI (u 0)) : KI (w_X6_goes (w_X6_looks (w_X6_goes u (0 : Int32))) (1 : Int32) 0) := by
  obtain ⟨k, k1, k2⟩ := hk
  refine ⟨k, k1, ?_⟩
  rw [(goes1_all (second_LI h) (second_SI h hm) (second_PV h h0)).1.1 6 (by decide) (by decide) (by decide), looks_o (by decide), (goes0_GK h).1 6 (by decide) (by decide) (by decide)]
  exact k2
def v_X6_perform_loop : Nat → Nat → (Nat → Nat → Int32) → Int32
  | 0, k, u1 => (-4 : Int32)
  | n + 1, k, u1 => v_X6_perform_loop n (k + 1) (up u1 1 k (u1 3 k))
def w_X6_perform_loop : Nat → Nat → (Nat → Nat → Int32) → (Nat → Nat → Int32)
  | 0, k, u1 => u1
  | n + 1, k, u1 => w_X6_perform_loop n (k + 1) (up u1 1 k (u1 3 k))
def v_X6_perform (u : Nat → Nat → Int32) : Int32 := if (w_X6_goes u (0 : Int32)) 0 12 = 0 then (if 0 ≤ (w_X6_goes (w_X6_looks (w_X6_goes u (0 : Int32))) (1 : Int32)) 0 14 then (v_X6_goes (w_X6_looks (w_X6_goes u (0 : Int32))) (1 : Int32)) else v_X6_perform_loop 713 0 (up (up (w_X6_goes (w_X6_looks (w_X6_goes u (0 : Int32))) (1 : Int32)) 0 9 (v_X6_goes (w_X6_looks (w_X6_goes u (0 : Int32))) (1 : Int32))) 0 10 ((w_X6_goes (w_X6_looks (w_X6_goes u (0 : Int32))) (1 : Int32)) 0 14))) else (-100 : Int32) - ((w_X6_goes u (0 : Int32)) 0 11)
def w_X6_perform (u : Nat → Nat → Int32) : Nat → Nat → Int32 := if (w_X6_goes u (0 : Int32)) 0 12 = 0 then (if 0 ≤ (w_X6_goes (w_X6_looks (w_X6_goes u (0 : Int32))) (1 : Int32)) 0 14 then (w_X6_records (w_X6_goes (w_X6_looks (w_X6_goes u (0 : Int32))) (1 : Int32))) else w_X6_perform_loop 713 0 (up (up (w_X6_goes (w_X6_looks (w_X6_goes u (0 : Int32))) (1 : Int32)) 0 9 (v_X6_goes (w_X6_looks (w_X6_goes u (0 : Int32))) (1 : Int32))) 0 10 ((w_X6_goes (w_X6_looks (w_X6_goes u (0 : Int32))) (1 : Int32)) 0 14))) else w_X6_goes u (0 : Int32)
theorem q_X6_perform : yX6_perform.cls ≠ "java/lang/invoke/MethodHandle" ∧ yX6_perform.cls ≠ "java/lang/invoke/VarHandle" ∧ (parseMethodDescriptor yX6_perform.desc).map (fun d => d.parameters.length) = some 0 := ⟨by decide, by decide, by decide +kernel⟩
set_option maxHeartbeats 4000000 in
set_option maxRecDepth 100000 in
theorem c_X6_perform (l : Launch) (G : kG) (a : Nat → Nat) (hI : gI 8 a) (u : Nat → Nat → Int32) (hm : SI (u 1)) (hk6 : KI (u 0)) (hLI : LI (u 0)) : Met l yX6_perform (Cond.code yX6_perform cX6_perform 4 (some .int) :: BIG) (rmK 11) (pcG G (mP G a u) [.ref (a 0)]) (qcI G (gA 8 a) (mP G a (w_X6_perform u)) (v_X6_perform u)) 0 0 (gA 8 a) := by
  refine m_start (by decide) (Nat.le_of_ble_eq_true rfl) ?_
  intro p e s m args below meth c S hr hlk hnm hP hK ls hl
  have hx := S.1
  have hb := S.2.1
  have hown := S.2.2.2.1
  have hS : va_S (gA 8 a) s.heap s.heap [] := va_S.rf
  have hl : lv_has ls 4 [(0, .ref (a 0))] := hl
  refine lv_aload_n hx hb dX6_perform_0 rfl (lv_at hl 0 rfl) ?_
  refine lv_iconst (v := 0) hx hb dX6_perform_1 (by decide) ?_
  refine r_callI S hK hP (c_X6_goes l G a hI u _ hm hLI (fun z => absurd rfl z)) (r_cw S k_593 k_590 k_591 k_592 k_5 q_X6_goes ⟨Nat.le_of_ble_eq_true rfl, Nat.le_of_ble_eq_true rfl⟩ rfl rfl) (g_recv hK hP (i := 0) (by omega) mC0 rfl) rfl hl.1 rfl (Nat.le_of_ble_eq_true rfl) dX6_perform_2 ⟨Nat.zero_le _, Nat.zero_le _⟩ hS (fun _ h => h) (fun H locs hP _ _ hS => ?_)
  have hP : mP G a (w_X6_goes u (0 : Int32)) H := hP
  refine lv_istore_n (lv' := [(1, .int (v_X6_goes u (0 : Int32))), (0, .ref (a 0))]) hx hb dX6_perform_5 rfl hl (by decide) rfl (fun ls hl => ?_)
  refine lv_aload_n hx hb dX6_perform_6 rfl (lv_at hl 1 rfl) ?_
  refine g_get S hK hP (i := 0) (by omega) mC0 rfl inlX6 12 (by decide) k_587 (v := .int ((w_X6_goes u (0 : Int32)) 0 12)) rfl dX6_perform_7 ?_
  refine lv_if_eq (tgt := 21) hx hb dX6_perform_10 (by decide) (fun c1 => ?_) (fun c1 => ?_)
  · skip
    refine lv_aload_n hx hb dX6_perform_21 rfl (lv_at hl 1 rfl) ?_
    refine r_callV S hK hP (c_X6_looks l G a hI (w_X6_goes u (0 : Int32)) ) (r_cw S k_209 k_206 k_207 k_208 k_5 q_X6_looks ⟨Nat.le_of_ble_eq_true rfl, Nat.le_of_ble_eq_true rfl⟩ rfl rfl) (g_recv hK hP (i := 0) (by omega) mC0 rfl) rfl hl.1 rfl (Nat.le_of_ble_eq_true rfl) dX6_perform_22 ⟨Nat.zero_le _, Nat.zero_le _⟩ hS (fun _ h => h) (fun H locs hP _ _ hS => ?_)
    have hP : mP G a (w_X6_looks (w_X6_goes u (0 : Int32))) H := hP
    refine lv_aload_n hx hb dX6_perform_25 rfl (lv_at hl 1 rfl) ?_
    refine lv_iconst (v := 1) hx hb dX6_perform_26 (by decide) ?_
    refine r_callI S hK hP (c_X6_goes l G a hI (w_X6_looks (w_X6_goes u (0 : Int32))) _ (second_SI hLI hm) (second_LI hLI) (fun _ => second_PV hLI c1)) (r_cw S k_593 k_590 k_591 k_592 k_5 q_X6_goes ⟨Nat.le_of_ble_eq_true rfl, Nat.le_of_ble_eq_true rfl⟩ rfl rfl) (g_recv hK hP (i := 0) (by omega) mC0 rfl) rfl hl.1 rfl (Nat.le_of_ble_eq_true rfl) dX6_perform_27 ⟨Nat.zero_le _, Nat.zero_le _⟩ hS (fun _ h => h) (fun H locs hP _ _ hS => ?_)
    have hP : mP G a (w_X6_goes (w_X6_looks (w_X6_goes u (0 : Int32))) (1 : Int32)) H := hP
    refine lv_istore_n (lv' := [(2, .int (v_X6_goes (w_X6_looks (w_X6_goes u (0 : Int32))) (1 : Int32))), (1, .int (v_X6_goes u (0 : Int32))), (0, .ref (a 0))]) hx hb dX6_perform_30 rfl hl (by decide) rfl (fun ls hl => ?_)
    refine lv_aload_n hx hb dX6_perform_31 rfl (lv_at hl 2 rfl) ?_
    refine g_get S hK hP (i := 0) (by omega) mC0 rfl inlX6 14 (by decide) k_589 (v := .int ((w_X6_goes (w_X6_looks (w_X6_goes u (0 : Int32))) (1 : Int32)) 0 14)) rfl dX6_perform_32 ?_
    refine lv_if_ge (tgt := 81) hx hb dX6_perform_35 (by decide) (fun c2 => ?_) (fun c2 => ?_)
    · skip
      refine lv_aload_n hx hb dX6_perform_81 rfl (lv_at hl 2 rfl) ?_
      refine r_callV S hK hP (c_X6_records l G a hI (w_X6_goes (w_X6_looks (w_X6_goes u (0 : Int32))) (1 : Int32)) (second_KI hLI hm c1 hk6)) (r_cw S k_213 k_210 k_211 k_212 k_5 q_X6_records ⟨Nat.le_of_ble_eq_true rfl, Nat.le_of_ble_eq_true rfl⟩ rfl rfl) (g_recv hK hP (i := 0) (by omega) mC0 rfl) rfl hl.1 rfl (Nat.le_of_ble_eq_true rfl) dX6_perform_82 ⟨Nat.zero_le _, Nat.zero_le _⟩ hS (fun _ h => h) (fun H locs hP _ _ hS => ?_)
      have hP : mP G a (w_X6_records (w_X6_goes (w_X6_looks (w_X6_goes u (0 : Int32))) (1 : Int32))) H := hP
      refine lv_iload_n hx hb dX6_perform_85 rfl (lv_at hl 0 rfl) ?_
      exact e_int S hr hlk rfl hK hS (gP_eq (show w_X6_perform u  = w_X6_records (w_X6_goes (w_X6_looks (w_X6_goes u (0 : Int32))) (1 : Int32)) from (if_pos c1).trans ((if_pos c2).trans rfl)) hP) (show v_X6_perform u  = v_X6_goes (w_X6_looks (w_X6_goes u (0 : Int32))) (1 : Int32) from (if_pos c1).trans ((if_pos c2).trans rfl)).symm dX6_perform_86
    · skip
      refine lv_aload_n hx hb dX6_perform_38 rfl (lv_at hl 2 rfl) ?_
      refine lv_iload_n hx hb dX6_perform_39 rfl (lv_at hl 0 rfl) ?_
      refine g_put S hK hP hI hS (i := 0) (by omega) mC0 rfl inlX6 tyX6 tyX6_ok nmX6 mF_n 9 (by decide) k_73 rfl pI rfl rfl (fun _ => rfl) dX6_perform_40 (fun H locs hP hS => ?_)
      have hP : mP G a (up (w_X6_goes (w_X6_looks (w_X6_goes u (0 : Int32))) (1 : Int32)) 0 9 (v_X6_goes (w_X6_looks (w_X6_goes u (0 : Int32))) (1 : Int32))) H := hP
      refine lv_aload_n hx hb dX6_perform_43 rfl (lv_at hl 2 rfl) ?_
      refine lv_aload_n hx hb dX6_perform_44 rfl (lv_at hl 2 rfl) ?_
      refine g_get S hK hP (i := 0) (by omega) mC0 rfl inlX6 14 (by decide) k_589 (v := .int ((w_X6_goes (w_X6_looks (w_X6_goes u (0 : Int32))) (1 : Int32)) 0 14)) (congrArg Value.int ((up_nk (by omega)).trans rfl)) dX6_perform_45 ?_
      refine g_put S hK hP hI hS (i := 0) (by omega) mC0 rfl inlX6 tyX6 tyX6_ok nmX6 mF_n 10 (by decide) k_74 rfl pI rfl rfl (fun _ => rfl) dX6_perform_48 (fun H locs hP hS => ?_)
      have hP : mP G a (up (up (w_X6_goes (w_X6_looks (w_X6_goes u (0 : Int32))) (1 : Int32)) 0 9 (v_X6_goes (w_X6_looks (w_X6_goes u (0 : Int32))) (1 : Int32))) 0 10 ((w_X6_goes (w_X6_looks (w_X6_goes u (0 : Int32))) (1 : Int32)) 0 14)) H := hP
      refine lv_iconst (v := 0) hx hb dX6_perform_51 (by decide) ?_
      refine lv_istore_n (lv' := [(3, .int (0 : Int32)), (2, .int (v_X6_goes (w_X6_looks (w_X6_goes u (0 : Int32))) (1 : Int32))), (1, .int (v_X6_goes u (0 : Int32))), (0, .ref (a 0))]) hx hb dX6_perform_52 rfl hl (by decide) rfl (fun ls hl => ?_)
      have LP_loop : ∀ (n : Nat) (k : Nat), k + n = 713 → ∀ (u1 : Nat → Nat → Int32) (H : Heap) (locs : List Loc), mP G a u1 H → va_S (gA 8 a) s.heap H locs → ∀ ls : Array Slot, lv_has ls 4 [(3, .int (nI k)), (2, .int (v_X6_goes (w_X6_looks (w_X6_goes u (0 : Int32))) (1 : Int32))), (1, .int (v_X6_goes u (0 : Int32))), (0, .ref (a 0))] → W p l e (rmK 11) s m args below meth c H locs 0 0 (MQ below (qcI G (gA 8 a) (mP G a (w_X6_perform_loop n k u1)) (v_X6_perform_loop n k u1)) args s 0 0 (gA 8 a)) (F0 m 53 ls []) := by
        intro n
        induction n with
        | zero =>
          intro k hk_LP_loop u1 H locs hP hS ls hl
          refine lv_iload_n hx hb dX6_perform_53 rfl (lv_at hl 0 rfl) ?_
          refine lv_sipush (v := 713) hx hb dX6_perform_54 (by decide) ?_
          refine lv_icmp_ge (tgt := 78) hx hb dX6_perform_57 (by decide) (fun _ => ?_) (fun c => absurd ((nI_leI (a := 713) (b := k) (by omega) (by omega)).mpr (by omega)) c)
          refine lv_bipush (v := -4) hx hb dX6_perform_78 (by decide) ?_
          exact e_int S hr hlk rfl hK hS (gP_eq (show w_X6_perform_loop 0 k u1 = u1 from rfl) hP) (show v_X6_perform_loop 0 k u1 = (-4 : Int32) from rfl).symm dX6_perform_80
        | succ n ih_LP_loop =>
          intro k hk_LP_loop u1 H locs hP hS ls hl
          refine lv_iload_n hx hb dX6_perform_53 rfl (lv_at hl 0 rfl) ?_
          refine lv_sipush (v := 713) hx hb dX6_perform_54 (by decide) ?_
          refine lv_icmp_ge (tgt := 78) hx hb dX6_perform_57 (by decide) (fun c => absurd c (fun z => absurd ((nI_leI (a := 713) (b := k) (by omega) (by omega)).mp z) (by omega))) (fun _ => ?_)
          refine lv_aload_n hx hb dX6_perform_60 rfl (lv_at hl 3 rfl) ?_
          refine g_get S hK hP (i := 0) (by omega) mC0 rfl inlX6 0 (by decide) k_67 (v := .ref (a 1)) rfl dX6_perform_61 ?_
          refine lv_iload_n hx hb dX6_perform_64 rfl (lv_at hl 0 rfl) ?_
          refine lv_aload_n hx hb dX6_perform_65 rfl (lv_at hl 3 rfl) ?_
          refine g_get S hK hP (i := 0) (by omega) mC0 rfl inlX6 2 (by decide) k_69 (v := .ref (a 3)) rfl dX6_perform_66 ?_
          refine lv_iload_n hx hb dX6_perform_69 rfl (lv_at hl 0 rfl) ?_
          refine g_aldN S hK hP (i := 3) (by omega) mC3 (k := k) (by omega) (by decide) (v := u1 3 k) (rfl) dX6_perform_70 ?_
          refine g_astN S hK hP hI hS (i := 1) (by omega) mC1 (k := k) (by omega) (by decide) dX6_perform_71 (fun H locs hP hS => ?_)
          have hP : mP G a (up u1 1 k (u1 3 k)) H := hP
          refine lv_iinc (v := nI (k + 1)) (lv' := [(3, .int (nI (k + 1))), (2, .int (v_X6_goes (w_X6_looks (w_X6_goes u (0 : Int32))) (1 : Int32))), (1, .int (v_X6_goes u (0 : Int32))), (0, .ref (a 0))]) hx hb dX6_perform_72 hl (k := 0) rfl (nI_1 _) (by decide) rfl (fun ls hl => ?_)
          refine lv_goto (tgt := 53) hx hb dX6_perform_75 (by decide) ?_
          refine q_eqI (show v_X6_perform_loop (n + 1) k u1 = v_X6_perform_loop n (k + 1) (up u1 1 k (u1 3 k)) from rfl) (show w_X6_perform_loop (n + 1) k u1 = w_X6_perform_loop n (k + 1) (up u1 1 k (u1 3 k)) from rfl) ?_
          exact ih_LP_loop (k + 1) (by omega) _ _ _ hP hS ls (lv_sub hl [0, 1, 2, 3] rfl)
      refine q_eqI (show v_X6_perform u  = v_X6_perform_loop 713 0 (up (up (w_X6_goes (w_X6_looks (w_X6_goes u (0 : Int32))) (1 : Int32)) 0 9 (v_X6_goes (w_X6_looks (w_X6_goes u (0 : Int32))) (1 : Int32))) 0 10 ((w_X6_goes (w_X6_looks (w_X6_goes u (0 : Int32))) (1 : Int32)) 0 14)) from (if_pos c1).trans ((if_neg c2).trans rfl)) (show w_X6_perform u  = w_X6_perform_loop 713 0 (up (up (w_X6_goes (w_X6_looks (w_X6_goes u (0 : Int32))) (1 : Int32)) 0 9 (v_X6_goes (w_X6_looks (w_X6_goes u (0 : Int32))) (1 : Int32))) 0 10 ((w_X6_goes (w_X6_looks (w_X6_goes u (0 : Int32))) (1 : Int32)) 0 14)) from (if_pos c1).trans ((if_neg c2).trans rfl)) ?_
      exact LP_loop 713 0 (by omega) _ _ _ hP hS ls (lv_sub hl [0, 1, 2, 3] rfl)
  · skip
    refine lv_bipush (v := -100) hx hb dX6_perform_13 (by decide) ?_
    refine lv_aload_n hx hb dX6_perform_15 rfl (lv_at hl 1 rfl) ?_
    refine g_get S hK hP (i := 0) (by omega) mC0 rfl inlX6 11 (by decide) k_588 (v := .int ((w_X6_goes u (0 : Int32)) 0 11)) rfl dX6_perform_16 ?_
    refine lv_isub hx hb dX6_perform_19 ?_
    exact e_int S hr hlk rfl hK hS (gP_eq (show w_X6_perform u  = w_X6_goes u (0 : Int32) from (if_neg c1).trans rfl) hP) (show v_X6_perform u  = (-100 : Int32) - ((w_X6_goes u (0 : Int32)) 0 11) from (if_neg c1).trans rfl).symm dX6_perform_20
