theorem up_self {M : Nat → Nat → Int32} {i k : Nat} : up M i k (M i k) = M := by
  funext i' k'
  unfold up
  by_cases h : i' = i ∧ k' = k
  · rw [if_pos h, h.1, h.2]
  · rw [if_neg h]
section NB
variable {n d : Nat} {b u : Nat → Nat → Int32} {c ne ra du : Nat}
theorem six_k {u : Nat → Nat → Int32} {B k : Nat} {c p2 p3 p4 : Int32} (h : k < B ∨ B + 12 ≤ k) : sixU u B c p2 p3 p4 1 k = u 1 k := by
  unfold sixU
  simp (disch := omega) only [up_nk]
theorem wr_o {j i : Nat} {p1 p2 p3 p4 p5 : Int32} (h : i ≠ j + 7) : w_X0_write b j p1 p2 p3 p4 p5 i = b i := by
  unfold w_X0_write
  simp (disch := omega) only [up_oi]
set_option maxHeartbeats 2000000 in
theorem new_bill (hm : SI (u 1)) (h : BR0 b (u 1) n d) (hs : SM b (u 1)) (hn : n < 40) (hc : c < 8) (h1 : 1 ≤ ne) (h2 : ne ≤ 9999) (h3 : ra ≤ 40) (h4 : du ≤ 99) :
    let U := sixU (bzU (up u 1 6 (u 1 6 + (1 : Int32))) (233 + 12 * n) 12) (233 + 12 * n) (nI c) (nI ne) (nI ra) (nI du)
    let W := w_X0_write b n (nI c) (nI ne) (nI ra) (b 0 5) (nI du)
    SI (U 1) ∧ BR0 W (U 1) (n + 1) d ∧ SM W (U 1) ∧ (∀ k, k < 233 → k ≠ 6 → U 1 k = u 1 k) ∧ (∀ i, i ≠ n + 7 → W i = b i) ∧ U 1 (233 + 12 * n + 0) = nI c ∧ U 1 (233 + 12 * n + 5) = 0 := by
  intro U W
  have hUk : ∀ k, k ≠ 6 → (k < 233 + 12 * n ∨ 233 + 12 * n + 12 ≤ k) → U 1 k = u 1 k := fun k h6 hk => by
    show sixU _ _ _ _ _ _ 1 k = _
    rw [six_k hk, bzU_n hk, up_nk h6]
  have hU6 : U 1 6 = u 1 6 + (1 : Int32) := by
    show sixU _ _ _ _ _ _ 1 6 = _
    rw [six_k (by omega), bzU_n (by omega), up_same]
  have hZ : ∀ k, k < 12 → k ≠ 0 → k ≠ 1 → k ≠ 2 → k ≠ 3 → k ≠ 4 → k ≠ 11 → U 1 (233 + 12 * n + k) = 0 := fun k hk g0 g1 g2 g3 g4 g11 => by
    show up (up (up (up (up (up _ 1 _ _) 1 _ _) 1 _ _) 1 _ _) 1 _ _) 1 _ _ 1 (233 + 12 * n + k) = _
    simp (disch := omega) only [up_nk]
    exact bzU_y (by omega) (by omega)
  have hU0 : U 1 (233 + 12 * n + 0) = nI c := by
    show up (up (up (up (up (up _ 1 _ _) 1 _ _) 1 _ _) 1 _ _) 1 _ _) 1 _ _ 1 (233 + 12 * n + 0) = _
    simp (disch := omega) only [up_nk, up_same]
  have hU1 : U 1 (233 + 12 * n + 1) = nI ne := by
    show up (up (up (up (up (up _ 1 _ _) 1 _ _) 1 _ _) 1 _ _) 1 _ _) 1 _ _ 1 (233 + 12 * n + 1) = _
    simp (disch := omega) only [up_nk, up_same]
  have hU2 : U 1 (233 + 12 * n + 2) = nI ra := by
    show up (up (up (up (up (up _ 1 _ _) 1 _ _) 1 _ _) 1 _ _) 1 _ _) 1 _ _ 1 (233 + 12 * n + 2) = _
    simp (disch := omega) only [up_nk, up_same]
  have hU3 : U 1 (233 + 12 * n + 3) = nI d := by
    show up (up (up (up (up (up _ 1 _ _) 1 _ _) 1 _ _) 1 _ _) 1 _ _) 1 _ _ 1 (233 + 12 * n + 3) = _
    simp (disch := omega) only [up_nk, up_same]
    rw [bzU_n (by omega), up_nk (by omega)]
    exact h.1.2.1.1
  have hU4 : U 1 (233 + 12 * n + 4) = nI du := by
    show up (up (up (up (up (up _ 1 _ _) 1 _ _) 1 _ _) 1 _ _) 1 _ _) 1 _ _ 1 (233 + 12 * n + 4) = _
    simp (disch := omega) only [up_nk, up_same]
  have hU11 : U 1 (233 + 12 * n + 11) = (-5 : Int32) := up_same
  have hWo : ∀ i, i ≠ n + 7 → W i = b i := fun i hi => wr_o hi
  obtain ⟨E0, E1, E13⟩ := h.2.2 n (Nat.le_refl n) hn
  have hW : ∀ k, 8 ≤ k → W (n + 7) k = b (n + 7) k := fun k hk => by
    show up (up (up (up (up (up (up (up b _ _ _) _ _ _) _ _ _) _ _ _) _ _ _) _ _ _) _ _ _) _ _ _ (n + 7) k = _
    simp (disch := omega) only [up_nk]
  have hmul : ne * ra ≤ 9999 * 40 := Nat.mul_le_mul h2 h3
  have hSI : SI (U 1) := by
    refine SI_six ?_ hn hc ⟨ra, h3, rfl⟩
    have h6 := SI_inc hm (by rw [BR_nb h]; exact hn)
    refine ⟨?_, ?_, fun i hi => ?_, fun i hi => ?_⟩
    · rw [bzU_n (by omega)]; exact h6.1
    · rw [bzU_n (by omega)]; exact h6.2.1
    · by_cases e : i = n
      · subst e; exact ⟨0, by omega, bzU_y (by omega) (by omega)⟩
      · rw [bzU_n (by omega)]; exact h6.2.2.1 i hi
    · by_cases e : i = n
      · subst e; exact ⟨0, by omega, bzU_y (by omega) (by omega)⟩
      · rw [bzU_n (by omega)]; exact h6.2.2.2 i hi
  have hB : BR0 W (U 1) (n + 1) d := by
    obtain ⟨⟨a1, a1'⟩, ⟨a2, a3, a4⟩, ⟨a5, c5, a5c, a5'⟩, a6, a7, ⟨e, p, w, f, t, hE⟩, a9, a10, a11⟩ := h.1
    refine ⟨⟨⟨?_, by omega⟩, ⟨?_, a3, ?_⟩, ⟨?_, c5, a5c, ?_⟩, ?_, ?_, ⟨e, p, w, f, t, SE_c hE (fun q g1 g2 => hUk q (by omega) (by omega))⟩, ?_, ?_, ?_⟩, fun j hj => ?_, fun j g1 g2 => ?_⟩
    · rw [hU6, a1, nI_1]
    · rw [hUk 0 (by omega) (by omega)]; exact a2
    · rw [hUk 0 (by omega) (by omega), hWo 0 (by omega)]; exact a4
    · rw [hUk 8 (by omega) (by omega), hWo 0 (by omega)]; exact a5
    · rw [hUk 8 (by omega) (by omega)]; exact a5'
    · rw [hUk 7 (by omega) (by omega), hWo 0 (by omega)]; exact a6
    · intro q hq
      rw [hUk (1 + q) (by omega) (by omega), hWo 6 (by omega)]; exact a7 q hq
    · intro q hq
      rw [hUk (9 + q) (by omega) (by omega), hWo 2 (by omega)]; exact a9 q hq
    · intro q hq
      rw [hUk (25 + q) (by omega) (by omega), hWo 3 (by omega)]; exact a10 q hq
    · intro q hq
      rw [hUk (125 + q) (by omega) (by omega), hWo 4 (by omega)]; exact a11 q hq
    · by_cases e : j = n
      · subst e
        refine ⟨⟨?_, ?_, ?_, ?_, ?_, ?_, ?_, ?_, ?_, ?_, ?_, ?_, ?_, ?_⟩, c, ne, ra, d, du, 0, 0, 0, 0, 0, 0, ⟨hU0, hU1, hU2, hU3, hU4, hZ 5 (by decide) (by decide) (by decide) (by decide) (by decide) (by decide) (by decide), hZ 6 (by decide) (by decide) (by decide) (by decide) (by decide) (by decide) (by decide), hZ 7 (by decide) (by decide) (by decide) (by decide) (by decide) (by decide) (by decide), hZ 8 (by decide) (by decide) (by decide) (by decide) (by decide) (by decide) (by decide), hZ 9 (by decide) (by decide) (by decide) (by decide) (by decide) (by decide) (by decide), hZ 10 (by decide) (by decide) (by decide) (by decide) (by decide) (by decide) (by decide)⟩, ⟨hc, h1, h2, h3, Nat.le_refl d, h4, by omega, by omega, by omega, by omega, by omega⟩, by omega, by omega⟩
        · refine Eq.trans ?_ (hZ 5 (by decide) (by decide) (by decide) (by decide) (by decide) (by decide) (by decide)).symm
          show up (up (up (up (up (up (up (up b _ _ _) _ _ _) _ _ _) _ _ _) _ _ _) _ _ _) _ _ _) _ _ _ (j + 7) 0 = _
          simp (disch := omega) only [up_nk, up_same]
        · refine Eq.trans ?_ hU0.symm
          show up (up (up (up (up (up (up (up b _ _ _) _ _ _) _ _ _) _ _ _) _ _ _) _ _ _) _ _ _) _ _ _ (j + 7) 1 = _
          simp (disch := omega) only [up_nk, up_same]
        · refine Eq.trans ?_ hU1.symm
          show up (up (up (up (up (up (up (up b _ _ _) _ _ _) _ _ _) _ _ _) _ _ _) _ _ _) _ _ _) _ _ _ (j + 7) 2 = _
          simp (disch := omega) only [up_nk, up_same]
        · refine Eq.trans ?_ hU2.symm
          show up (up (up (up (up (up (up (up b _ _ _) _ _ _) _ _ _) _ _ _) _ _ _) _ _ _) _ _ _) _ _ _ (j + 7) 3 = _
          simp (disch := omega) only [up_nk, up_same]
        · have e1 : yR (U 1) j 1 = nI ne := hU1
          have e2 : yR (U 1) j 2 = nI ra := hU2
          rw [e1, e2]
          show up (up (up (up (up (up (up (up b _ _ _) _ _ _) _ _ _) _ _ _) _ _ _) _ _ _) _ _ _) _ _ _ (j + 7) 4 = _
          simp (disch := omega) only [up_nk, up_same]
        · have e1 : yR (U 1) j 1 = nI ne := hU1
          have e2 : yR (U 1) j 2 = nI ra := hU2
          rw [e1, e2]
          show up (up (up (up (up (up (up (up b _ _ _) _ _ _) _ _ _) _ _ _) _ _ _) _ _ _) _ _ _) _ _ _ (j + 7) 5 = _
          simp (disch := omega) only [up_nk, up_same]
        · refine Eq.trans ?_ (hU3.trans h.1.2.1.1.symm).symm
          show up (up (up (up (up (up (up (up b _ _ _) _ _ _) _ _ _) _ _ _) _ _ _) _ _ _) _ _ _) _ _ _ (j + 7) 6 = _
          simp (disch := omega) only [up_nk, up_same]
          exact h.1.2.1.2.2
        · refine Eq.trans ?_ hU4.symm
          show up (up (up (up (up (up (up (up b _ _ _) _ _ _) _ _ _) _ _ _) _ _ _) _ _ _) _ _ _) _ _ _ (j + 7) 7 = _
          simp (disch := omega) only [up_nk, up_same]
        · rw [hW 8 (by omega)]; exact (E1 8 (by decide) (by decide)).trans (hZ 6 (by decide) (by decide) (by decide) (by decide) (by decide) (by decide) (by decide)).symm
        · rw [hW 9 (by omega)]; exact (E1 9 (by decide) (by decide)).trans (hZ 7 (by decide) (by decide) (by decide) (by decide) (by decide) (by decide) (by decide)).symm
        · rw [hW 10 (by omega)]; exact (E1 10 (by decide) (by decide)).trans (hZ 8 (by decide) (by decide) (by decide) (by decide) (by decide) (by decide) (by decide)).symm
        · rw [hW 11 (by omega)]; exact (E1 11 (by decide) (by decide)).trans (hZ 9 (by decide) (by decide) (by decide) (by decide) (by decide) (by decide) (by decide)).symm
        · rw [hW 12 (by omega)]; exact (E1 12 (by decide) (by decide)).trans (hZ 10 (by decide) (by decide) (by decide) (by decide) (by decide) (by decide) (by decide)).symm
        · rw [hW 13 (by omega)]; exact E13.trans hU11.symm
      · exact BL_c (h.2.1 j (by omega)) (fun k _ => congrFun (hWo (j + 7) (by omega)) k) (fun k hk => hUk _ (by omega) (by omega)) (Nat.le_refl d)
    · rw [hWo (j + 7) (by omega)]; exact h.2.2 j (by omega) g2
  have hpp : ∀ p, v_X1_paidOn W p = v_X1_paidOn b p := fun p => by
    rw [pO_l, pO_l]
    refine lS_c 40 0 (fun i _ hi => ?_)
    by_cases e : i = n
    · subst e
      have e1 : v_X0_is b i p (-9) = 0 := by unfold v_X0_is; rw [if_pos E0]
      have e2 : W (i + 7) 8 = 0 := (hW 8 (by omega)).trans (E1 8 (by decide) (by decide))
      rw [e1, e2, ite_self, if_pos rfl]
    · unfold v_X0_is
      rw [hWo (i + 7) (by omega)]
  refine ⟨hSI, hB, SM_c hs hpp (fun k _ => congrFun (hWo 2 (by omega)) k) (congrFun (hWo 0 (by omega)) 7) (fun c _ => hUk _ (by omega) (by omega)) (fun c _ => hUk _ (by omega) (by omega)) (fun i hi => ?_) (fun y _ => hUk _ (by omega) (by omega)), fun k hk h6 => hUk k h6 (by omega), hWo, hU0, hZ 5 (by decide) (by decide) (by decide) (by decide) (by decide) (by decide) (by decide)⟩
  by_cases e : i = n
  · subst e; exact hW 8 (by omega)
  · rw [hWo (i + 7) (by omega)]
theorem bill_step (hm : SI (u 1)) (h : BR0 b (u 1) n d) (hs : SM b (u 1)) (hn : n < 40) (hc : c < 8) (h1 : 1 ≤ ne) (h2 : ne ≤ 9999) (h3 : ra ≤ 40) (h4 : du ≤ 99) :
    v_X1_writeBill b (nI c) (nI ne) (nI ra) (nI du) = nI n ∧ v_X6_billed u c (nI ne) (nI ra) (nI du) = nI n ∧ SI (w_X6_billed u c (nI ne) (nI ra) (nI du) 1) ∧ BR0 (w_X1_writeBill b (nI c) (nI ne) (nI ra) (nI du)) (w_X6_billed u c (nI ne) (nI ra) (nI du) 1) (n + 1) d ∧ SM (w_X1_writeBill b (nI c) (nI ne) (nI ra) (nI du)) (w_X6_billed u c (nI ne) (nI ra) (nI du) 1) := by
  have hNB := new_bill hm h hs hn hc h1 h2 h3 h4
  have e6 : u 1 6 = nI n := h.1.1.1
  have e40 : ¬ u 1 6 = (40 : Int32) := by
    rw [e6]; exact fun z => absurd ((nI_eq (b := 40) (by omega) (by decide)).mp z) (by omega)
  have enb := BR_nb h
  obtain ⟨hcr, v, hv, ev⟩ := h.1.2.2.2.2.2.2.1 c hc
  have bl := bd_lp (u := u) (u0 := up u 1 6 (u 1 6 + (1 : Int32))) (cu := c) (p2 := nI ne) (p3 := nI ra) (p4 := nI du) 12 0 rfl
  rw [bz0, enb] at bl
  obtain ⟨bl1, bl2⟩ := bl
  have eV6 : v_X6_billed u c (nI ne) (nI ra) (nI du) = nI n := by
    unfold v_X6_billed
    rw [if_neg e40, bl1]
    show (if _ then _ else _) = _
    rw [ite_self, enb]
  have eW6 : w_X6_billed u c (nI ne) (nI ra) (nI du) = w_X6_billed_loop u c (nI ne) (nI ra) (nI du) 0 12 (bzU (up u 1 6 (u 1 6 + (1 : Int32))) (233 + 12 * n) 12) := by
    unfold w_X6_billed
    rw [if_neg e40, bl2]
  have eCnt : v_X1_countBills b (-9 : Int32) (-9 : Int32) = nI n := cB_all h
  have c1 : ¬ nI ne < (1 : Int32) := nI_nlt (b := 1) h1 (by omega)
  have c2 : ¬ (9999 : Int32) < nI ne := nI_nlt (a := 9999) h2 (by decide)
  have c3 : ¬ nI ra < 0 := nI_pos (by omega)
  have c4 : ¬ (40 : Int32) < nI ra := nI_nlt (a := 40) h3 (by decide)
  have c5 : ¬ nI du < 0 := nI_pos (by omega)
  have c6 : nI du ≤ (99 : Int32) := nI_le (b := 99) h4 (by decide)
  have c7 : nI n < (40 : Int32) := nI_lt (b := 40) hn (by decide)
  have eV1 : v_X1_writeBill b (nI c) (nI ne) (nI ra) (nI du) = nI n := by
    unfold v_X1_writeBill
    rw [if_neg (isC1 hc).1, if_neg c1, if_neg c2, if_neg c3, if_neg c4, if_neg c5, if_pos c6, eCnt, if_pos c7]
  have eW1 : w_X1_writeBill b (nI c) (nI ne) (nI ra) (nI du) = w_X1_setCredit (w_X1_payOn (w_X0_write b n (nI c) (nI ne) (nI ra) (b 0 5) (nI du)) n (nI v)) (nI c) (nI v - v_X1_payOn (w_X0_write b n (nI c) (nI ne) (nI ra) (b 0 5) (nI du)) n (nI v)) := by
    have ecr : v_X1_creditOf (w_X0_write b n (nI c) (nI ne) (nI ra) (b 0 5) (nI du)) (nI c) = nI v := by
      unfold v_X1_creditOf
      rw [if_neg (isC1 hc).1, nI_clamp (by omega), wr_o (by omega), hcr, ev]
    unfold w_X1_writeBill
    rw [if_neg (isC1 hc).1, if_neg c1, if_neg c2, if_neg c3, if_neg c4, if_neg c5, if_pos c6, eCnt, if_pos c7, nI_clamp (by omega), ecr]
  have eSet : ∀ (B : Nat → Nat → Int32) (x : Int32), w_X1_setCredit B (nI c) x = up B 2 c x := fun B x => by
    unfold w_X1_setCredit
    rw [if_neg (isC1 hc).1, nI_clamp (by omega)]
  rw [eV1, eW1, eV6, eW6, eSet]
  refine ⟨rfl, rfl, ?_⟩
  obtain ⟨hSI, hB, hSM, hUk, hWo, hU0, hU5⟩ := hNB
  generalize hU : sixU (bzU (up u 1 6 (u 1 6 + (1 : Int32))) (233 + 12 * n) 12) (233 + 12 * n) (nI c) (nI ne) (nI ra) (nI du) = U at hSI hB hSM hUk hU0 hU5
  generalize hW : w_X0_write b n (nI c) (nI ne) (nI ra) (b 0 5) (nI du) = W at hB hSM hWo
  have ez : bzU (up u 1 6 (u 1 6 + (1 : Int32))) (233 + 12 * n) 12 1 (9 + c) = nI v := by rw [bzU_n (by omega), up_nk (by omega), ev]
  have eL : w_X6_billed_loop u c (nI ne) (nI ra) (nI du) 0 12 (bzU (up u 1 6 (u 1 6 + (1 : Int32))) (233 + 12 * n) 12) = if nI v ≤ 0 then U else up (w_X6_takesOf U n (nI v)) 1 (9 + c) (nI v - v_X6_takesOf U n (nI v)) := by
    rw [← hU, ← ez]
    have e : w_X6_billed_loop u c (nI ne) (nI ra) (nI du) 0 12 (bzU (up u 1 6 (u 1 6 + (1 : Int32))) (233 + 12 * n) 12) = if bzU (up u 1 6 (u 1 6 + (1 : Int32))) (233 + 12 * n) 12 1 (9 + c) ≤ 0 then sixU (bzU (up u 1 6 (u 1 6 + (1 : Int32))) (233 + 12 * n) 12) (233 + 12 * (sN (u 1) 6)) (nI c) (nI ne) (nI ra) (nI du) else up (w_X6_takesOf (sixU (bzU (up u 1 6 (u 1 6 + (1 : Int32))) (233 + 12 * n) 12) (233 + 12 * (sN (u 1) 6)) (nI c) (nI ne) (nI ra) (nI du)) (sN (u 1) 6) (bzU (up u 1 6 (u 1 6 + (1 : Int32))) (233 + 12 * n) 12 1 (9 + c))) 1 (9 + c) (bzU (up u 1 6 (u 1 6 + (1 : Int32))) (233 + 12 * n) 12 1 (9 + c) - v_X6_takesOf (sixU (bzU (up u 1 6 (u 1 6 + (1 : Int32))) (233 + 12 * n) 12) (233 + 12 * (sN (u 1) 6)) (nI c) (nI ne) (nI ra) (nI du)) (sN (u 1) 6) (bzU (up u 1 6 (u 1 6 + (1 : Int32))) (233 + 12 * n) 12 1 (9 + c))) := rfl
    rw [e, enb]
  rw [eL]
  rcases Nat.eq_zero_or_pos v with rfl | hv1
  · rw [if_pos (by decide), pay0.1, pay0.2]
    have e : up W 2 c (nI 0 - 0) = W := by
      have e2 : nI 0 - 0 = W 2 c := by rw [hWo 2 (by omega), hcr, ev]; rfl
      rw [e2]; exact up_self
    rw [e]
    exact ⟨hSI, hB, hSM⟩
  · rw [if_neg (nI_nle hv1 (by omega))]
    obtain ⟨A, hA, p1, p3, hP⟩ := pay_PY hSI hB (Nat.lt_succ_self n) hU0 (by rw [hU5]; decide) hv1 (by omega)
    rw [p1, p3, pk_sub hA]
    obtain ⟨hm2, hB2, hLL, ⟨e2, e0⟩, hk, hp, hps, htx⟩ := hP
    generalize hb1 : w_X1_payOn W n (nI v) = b1 at hB2 e2 e0 hp hps
    generalize hu1 : w_X6_takesOf U n (nI v) = u1 at hm2 hB2 hk htx
    have hcr2 : W 2 c = nI v := by rw [hWo 2 (by omega), hcr, ev]
    refine ⟨SI_hi hm2 (by omega) (by omega) (by omega), BR0_head hB2 (Nat.le_refl d) (fun j _ k _ => congrFun (up_oi (by omega)) k) (fun k g1 _ => up_nk (by omega)) (HB_cred hB2.1 hc (v := v - A) (by omega) up_same (fun k _ hkc => up_nk hkc) (fun i h2 _ k _ => congrFun (up_oi h2) k) ?_ up_same (fun k g1 _ _ => up_nk g1)), ?_, ?_, fun y hy => ?_⟩
    · rw [up_ni (by decide), up_nk (by omega)]; exact hB2.1.2.2.2.1
    · intro q hq
      rw [pO_same (b := b1) (fun j hj => by rw [up_oi (by omega)]; exact ⟨Iff.rfl, rfl, rfl⟩), up_nk (M := u1) (k' := 17 + q) (by omega), up_nk (M := u1) (k' := 225 + q) (by omega), hk (17 + q) (by omega) (by omega), hk (225 + q) (by omega) (by omega)]
      have h3 := hp (nI q)
      have h4 := hSM.1 q hq
      have h9 : ¬ nI q = (-9 : Int32) := nI_nm (by omega) (by decide)
      by_cases g3 : q = c
      · subst g3
        rw [up_same]
        rw [if_pos (Or.inr rfl), if_pos (Or.inr rfl)] at h3
        rw [hcr2] at h4
        rw [h3]; exact h4
      · have g4 : ¬ (nI q = (-9 : Int32) ∨ nI q = nI c) := fun z => z.elim h9 (fun z => g3 ((nI_eq (by omega) (by omega)).mp z))
        rw [if_neg g4, if_neg g4, Int32.add_zero, Int32.add_zero] at h3
        rw [up_nk g3, h3, e2]
        exact h4
    · rw [pO_same (b := b1) (fun j hj => by rw [up_oi (by omega)]; exact ⟨Iff.rfl, rfl, rfl⟩), aC_up (b := b1) (c := c) hc (fun k _ hkc => up_nk hkc) up_same]
      have h3 := hp (-9)
      rw [if_pos (Or.inl rfl), if_pos (Or.inl rfl)] at h3
      have h4 := hSM.2.1
      have h5 : v_X1_allCredit b1 = v_X1_allCredit W := by rw [aC_l, aC_l, e2]
      rw [up_ni (by decide), e0, h5, e2, hcr2, lS_c (f := fun k => up u1 1 (9 + c) (nI (v - A)) 1 (17 + k)) (g := fun k => U 1 (17 + k)) 8 0 (fun i _ hi => by rw [up_nk (by omega), hk (17 + i) (by omega) (by omega)]), ← h4]
      grind
    · obtain ⟨w, hw, ew⟩ := hSM.2.2 y hy
      obtain ⟨w', hw', ew'⟩ := htx y w hy ew
      refine ⟨w', ?_, (up_nk (by omega)).trans ew'⟩
      rw [ps_same (b := b1) (fun j hj => by rw [up_oi (by omega)])]
      omega
end NB
