section AY
variable {n d : Nat} {b u : Nat → Nat → Int32}
theorem SI_hi {i : Nat} {v : Int32} (hm : SI (u 1)) (h0 : i ≠ 0) (h6 : i ≠ 6) (hi : i < 233) : SI (up u 1 i v 1) := SI_upo hm h0 h6 (by omega) (by omega)
theorem back_step {c : Nat} (hm : SI (u 1)) (h : BR0 b (u 1) n d) (hs : SM b (u 1)) (hc : c < 8) :
    SI ((up (up (up u 1 (9 + c) (0 : Int32)) 1 (225 + c) ((u 1 (225 + c)) + (u 1 (9 + c)))) 1 7 ((u 1 7) + (u 1 (9 + c)))) 1) ∧ BR0 (up (up b 2 c (0 : Int32)) 0 7 ((b 0 7) + (b 2 c))) ((up (up (up u 1 (9 + c) (0 : Int32)) 1 (225 + c) ((u 1 (225 + c)) + (u 1 (9 + c)))) 1 7 ((u 1 7) + (u 1 (9 + c)))) 1) n d ∧ SM (up (up b 2 c (0 : Int32)) 0 7 ((b 0 7) + (b 2 c))) ((up (up (up u 1 (9 + c) (0 : Int32)) 1 (225 + c) ((u 1 (225 + c)) + (u 1 (9 + c)))) 1 7 ((u 1 7) + (u 1 (9 + c)))) 1) := by
  obtain ⟨hcr, v, hv, ev⟩ := h.1.2.2.2.2.2.2.1 c hc
  have h7 := h.1.2.2.2.1
  generalize hU : (up (up (up u 1 (9 + c) (0 : Int32)) 1 (225 + c) ((u 1 (225 + c)) + (u 1 (9 + c)))) 1 7 ((u 1 7) + (u 1 (9 + c)))) = U
  generalize hW : (up (up b 2 c (0 : Int32)) 0 7 ((b 0 7) + (b 2 c))) = W
  have hk : ∀ k, k ≠ 9 + c → k ≠ 225 + c → k ≠ 7 → U 1 k = u 1 k := fun k h1 h2 h3 => by rw [← hU, up_nk h3, up_nk h2, up_nk h1]
  have h9 : U 1 (9 + c) = 0 := by rw [← hU, up_nk (by omega), up_nk (by omega), up_same]
  have h225 : U 1 (225 + c) = u 1 (225 + c) + u 1 (9 + c) := by rw [← hU, up_nk (by omega), up_same]
  have hU7 : U 1 7 = u 1 7 + u 1 (9 + c) := by rw [← hU, up_same]
  have hr : ∀ i, i ≠ 2 → i ≠ 0 → W i = b i := fun i h2 h0 => by rw [← hW, up_oi h0, up_oi h2]
  have hw0 : ∀ k, k ≠ 7 → W 0 k = b 0 k := fun k h7 => by rw [← hW, up_nk h7, up_ni (by decide)]
  have hw7 : W 0 7 = b 0 7 + b 2 c := by rw [← hW, up_same]
  have hw2 : W 2 c = 0 := by rw [← hW, up_ni (by decide), up_same]
  have hw2o : ∀ k, k ≠ c → W 2 k = b 2 k := fun k hk => by rw [← hW, up_ni (by decide), up_nk hk]
  refine ⟨SI_same hm (hk 6 (by omega) (by omega) (by omega)) (hk 0 (by omega) (by omega) (by omega)) (fun i _ => hk _ (by omega) (by omega) (by omega)) (fun i _ => hk _ (by omega) (by omega) (by omega)), ?_, ?_⟩
  · refine BR0_head h (Nat.le_refl _) (fun j hj k _ => congrFun (hr (j + 7) (by omega) (by omega)) k) (fun k h1 h2 => hk k (by omega) (by omega) (by omega)) (HB_cred h.1 hc (v := 0) (by decide) hw2 (fun k _ hkc => hw2o k hkc) (fun i h2 h7 k hik => ?_) ?_ h9 (fun k h1 h2 h3 => hk k h1 (by omega) h2))
    · by_cases e : i = 0
      · subst e; exact hw0 k (fun z => hik ⟨rfl, z⟩)
      · rw [hr i h2 e]
    · rw [hw7, hU7, h7, hcr]
  · have hpp : ∀ p, v_X1_paidOn W p = v_X1_paidOn b p := pO_same (fun j hj => by rw [hr (j + 7) (by omega) (by omega)]; exact ⟨Iff.rfl, rfl, rfl⟩)
    refine ⟨fun q hq => ?_, ?_, fun y hy => ?_⟩
    · rw [hpp, hk (17 + q) (by omega) (by omega) (by omega)]
      have h4 := hs.1 q hq
      by_cases g : q = c
      · subst g
        rw [hw2, h225]
        rw [hcr] at h4
        grind
      · rw [hw2o q g, hk (225 + q) (by omega) (by omega) (by omega)]
        exact h4
    · have h4 := hs.2.1
      rw [hpp, aC_up (b := b) (c := c) hc (fun k _ hkc => hw2o k hkc) hw2, hw7, lS_c (f := fun k => U 1 (17 + k)) (g := fun k => u 1 (17 + k)) 8 0 (fun i _ hi => hk (17 + i) (by omega) (by omega) (by omega)), ← h4]
      grind
    · rw [ps_same (b := b) (fun j hj => by rw [hr (j + 7) (by omega) (by omega)]), hk (25 + y) (by omega) (by omega) (by omega)]
      exact hs.2.2 y hy
theorem day_step {k : Nat} (hm : SI (u 1)) (h : BR0 b (u 1) n d) (hs : SM b (u 1)) (hk : d + k ≤ 9999) :
    SI (up u 1 0 (u 1 0 + nI k) 1) ∧ BR0 (up b 0 5 (b 0 5 + nI k)) (up u 1 0 (u 1 0 + nI k) 1) n (d + k) ∧ SM (up b 0 5 (b 0 5 + nI k)) (up u 1 0 (u 1 0 + nI k) 1) := by
  obtain ⟨⟨a1, a1'⟩, ⟨a2, a3, a4⟩, ⟨a5, c5, a5c, a5'⟩, a6, a7, ⟨e, p, w, f, t, hE⟩, a9, a10, a11⟩ := h.1
  have e0 : u 1 0 + nI k = nI (d + k) := by rw [a2, nI_add]
  have hso : ∀ q, q ≠ 0 → up u 1 0 (u 1 0 + nI k) 1 q = u 1 q := fun q hq => up_nk hq
  have hbo : ∀ q, q ≠ 5 → up b 0 5 (b 0 5 + nI k) 0 q = b 0 q := fun q hq => up_nk hq
  have hro : ∀ i, i ≠ 0 → up b 0 5 (b 0 5 + nI k) i = b i := fun i hi => up_oi hi
  refine ⟨SI_dayup hm ⟨d + k, hk, e0⟩, ?_, ?_⟩
  · refine BR0_head h (Nat.le_add_right d k) (fun j _ q _ => congrFun (hro (j + 7) (by omega)) q) (fun q h1 _ => hso q (by omega)) ⟨⟨?_, a1'⟩, ⟨?_, hk, ?_⟩, ⟨?_, c5, a5c, ?_⟩, ?_, ?_, ⟨e, p, w, f, t, SE_c hE (fun q h1 _ => hso q (by omega))⟩, ?_, ?_, ?_⟩
    · rw [hso 6 (by decide)]; exact a1
    · exact up_same.trans e0
    · rw [up_same, up_same, a4]
    · rw [hbo 6 (by decide), hso 8 (by decide)]; exact a5
    · rw [hso 8 (by decide)]; exact a5'
    · rw [hbo 7 (by decide), hso 7 (by decide)]; exact a6
    · intro q hq
      rw [hro 6 (by decide), hso (1 + q) (by omega)]; exact a7 q hq
    · intro q hq
      rw [hro 2 (by decide), hso (9 + q) (by omega)]; exact a9 q hq
    · intro q hq
      rw [hro 3 (by decide), hso (25 + q) (by omega)]; exact a10 q hq
    · intro q hq
      rw [hro 4 (by decide), hso (125 + q) (by omega)]; exact a11 q hq
  · exact SM_c hs (pO_same fun i hi => by rw [hro (i + 7) (by omega)]; exact ⟨Iff.rfl, rfl, rfl⟩) (fun q _ => congrFun (hro 2 (by decide)) q) (hbo 7 (by decide)) (fun c _ => hso _ (by omega)) (fun c _ => hso _ (by omega)) (fun i _ => by rw [hro (i + 7) (by omega)]) (fun y _ => hso _ (by omega))
theorem year_step {y : Nat} {v : Int32} (hm : SI (u 1)) (h : BR0 b (u 1) n d) (hs : SM b (u 1)) (hy : y < 100) (hc : u 1 8 = nI y) :
    SI (up (up u 1 (125 + y) v) 1 8 (u 1 8 + (1 : Int32)) 1) ∧ BR0 (up (up b 4 y v) 0 6 (b 0 6 + (1 : Int32))) (up (up u 1 (125 + y) v) 1 8 (u 1 8 + (1 : Int32)) 1) n d ∧ SM (up (up b 4 y v) 0 6 (b 0 6 + (1 : Int32))) (up (up u 1 (125 + y) v) 1 8 (u 1 8 + (1 : Int32)) 1) := by
  obtain ⟨⟨a1, a1'⟩, ⟨a2, a3, a4⟩, ⟨a5, c5, a5c, a5'⟩, a6, a7, ⟨e, p, w, f, t, hE⟩, a9, a10, a11⟩ := h.1
  have hso : ∀ q, q ≠ 8 → q ≠ 125 + y → up (up u 1 (125 + y) v) 1 8 (u 1 8 + (1 : Int32)) 1 q = u 1 q := fun q h1 h2 => by rw [up_nk h1, up_nk h2]
  have hbo : ∀ q, q ≠ 6 → up (up b 4 y v) 0 6 (b 0 6 + (1 : Int32)) 0 q = b 0 q := fun q hq => by rw [up_nk hq, up_ni (by decide)]
  have hro : ∀ i, i ≠ 0 → i ≠ 4 → up (up b 4 y v) 0 6 (b 0 6 + (1 : Int32)) i = b i := fun i h0 h4 => by rw [up_oi h0, up_oi h4]
  refine ⟨SI_same hm (hso 6 (by omega) (by omega)) (hso 0 (by omega) (by omega)) (fun i _ => hso _ (by omega) (by omega)) (fun i _ => hso _ (by omega) (by omega)), ?_, ?_⟩
  · refine BR0_head h (Nat.le_refl d) (fun j _ q _ => congrFun (hro (j + 7) (by omega) (by omega)) q) (fun q h1 _ => hso q (by omega) (by omega)) ⟨⟨?_, a1'⟩, ⟨?_, a3, ?_⟩, ⟨?_, y + 1, by omega, ?_⟩, ?_, ?_, ⟨e, p, w, f, t, SE_c hE (fun q h1 _ => hso q (by omega) (by omega))⟩, ?_, ?_, ?_⟩
    · rw [hso 6 (by omega) (by omega)]; exact a1
    · rw [hso 0 (by omega) (by omega)]; exact a2
    · rw [hbo 5 (by omega), hso 0 (by omega) (by omega)]; exact a4
    · rw [up_same, up_same, a5]
    · rw [up_same, hc, nI_1]
    · rw [hbo 7 (by omega), hso 7 (by omega) (by omega)]; exact a6
    · intro q hq
      rw [hro 6 (by omega) (by omega), hso (1 + q) (by omega) (by omega)]; exact a7 q hq
    · intro q hq
      rw [hro 2 (by omega) (by omega), hso (9 + q) (by omega) (by omega)]; exact a9 q hq
    · intro q hq
      rw [hro 3 (by omega) (by omega), hso (25 + q) (by omega) (by omega)]; exact a10 q hq
    · intro q hq
      by_cases g : q = y
      · subst g
        rw [up_ni (by decide), up_same, up_nk (by omega), up_same]
      · rw [up_ni (by decide), up_nk g, hso (125 + q) (by omega) (by omega)]; exact a11 q hq
  · exact SM_c hs (pO_same fun i hi => by rw [hro (i + 7) (by omega) (by omega)]; exact ⟨Iff.rfl, rfl, rfl⟩) (fun q _ => congrFun (hro 2 (by decide) (by decide)) q) (hbo 7 (by decide)) (fun c _ => hso _ (by omega) (by omega)) (fun c _ => hso _ (by omega) (by omega)) (fun i _ => by rw [hro (i + 7) (by omega) (by omega)]) (fun y _ => hso _ (by omega) (by omega))
theorem set_step {k v : Nat} (hm : SI (u 1)) (h : BR0 b (u 1) n d) (hs : SM b (u 1)) (hk : k < 5) (hv : v ≤ 99) (h1 : k = 1 → v ≤ 20) (h2 : k = 2 → 1 ≤ v) (h4 : k = 4 → v ≤ 1) :
    SI (up u 1 (1 + k) (nI v) 1) ∧ BR0 (up b 6 k (nI v)) (up u 1 (1 + k) (nI v) 1) n d ∧ SM (up b 6 k (nI v)) (up u 1 (1 + k) (nI v) 1) := by
  obtain ⟨⟨a1, a1'⟩, ⟨a2, a3, a4⟩, ⟨a5, c5, a5c, a5'⟩, a6, a7, ⟨e, p, w, f, t, ⟨q1, q2, q3, q4, q5⟩, r1, r2, r3, r4, r5, r6⟩, a9, a10, a11⟩ := h.1
  have hso : ∀ q, q ≠ 1 + k → up u 1 (1 + k) (nI v) 1 q = u 1 q := fun q h1 => up_nk h1
  have hro : ∀ i, i ≠ 6 → up b 6 k (nI v) i = b i := fun i h0 => up_oi h0
  have hS : ∃ e p w f t : Nat, SE (up u 1 (1 + k) (nI v) 1) e p w f t := by
    rcases (show k = 0 ∨ k = 1 ∨ k = 2 ∨ k = 3 ∨ k = 4 by omega) with rfl | rfl | rfl | rfl | rfl
    · exact ⟨v, p, w, f, t, ⟨up_same, (hso 2 (by decide)).trans q2, (hso 3 (by decide)).trans q3, (hso 4 (by decide)).trans q4, (hso 5 (by decide)).trans q5⟩, hv, r2, r3, r4, r5, r6⟩
    · exact ⟨e, v, w, f, t, ⟨(hso 1 (by decide)).trans q1, up_same, (hso 3 (by decide)).trans q3, (hso 4 (by decide)).trans q4, (hso 5 (by decide)).trans q5⟩, r1, h1 rfl, r3, r4, r5, r6⟩
    · exact ⟨e, p, v, f, t, ⟨(hso 1 (by decide)).trans q1, (hso 2 (by decide)).trans q2, up_same, (hso 4 (by decide)).trans q4, (hso 5 (by decide)).trans q5⟩, r1, r2, h2 rfl, hv, r5, r6⟩
    · exact ⟨e, p, w, v, t, ⟨(hso 1 (by decide)).trans q1, (hso 2 (by decide)).trans q2, (hso 3 (by decide)).trans q3, up_same, (hso 5 (by decide)).trans q5⟩, r1, r2, r3, r4, hv, r6⟩
    · exact ⟨e, p, w, f, v, ⟨(hso 1 (by decide)).trans q1, (hso 2 (by decide)).trans q2, (hso 3 (by decide)).trans q3, (hso 4 (by decide)).trans q4, up_same⟩, r1, r2, r3, r4, r5, h4 rfl⟩
  refine ⟨SI_hi hm (by omega) (by omega) (by omega), ?_, ?_⟩
  · refine BR0_head h (Nat.le_refl d) (fun j _ q _ => congrFun (hro (j + 7) (by omega)) q) (fun q h1 _ => hso q (by omega)) ⟨⟨?_, a1'⟩, ⟨?_, a3, ?_⟩, ⟨?_, c5, a5c, ?_⟩, ?_, ?_, hS, ?_, ?_, ?_⟩
    · rw [hso 6 (by omega)]; exact a1
    · rw [hso 0 (by omega)]; exact a2
    · rw [hro 0 (by omega), hso 0 (by omega)]; exact a4
    · rw [hro 0 (by omega), hso 8 (by omega)]; exact a5
    · rw [hso 8 (by omega)]; exact a5'
    · rw [hro 0 (by omega), hso 7 (by omega)]; exact a6
    · intro q hq
      by_cases g : q = k
      · subst g; rw [up_same, up_same]
      · rw [up_nk g, hso (1 + q) (by omega)]; exact a7 q hq
    · intro q hq
      rw [hro 2 (by omega), hso (9 + q) (by omega)]; exact a9 q hq
    · intro q hq
      rw [hro 3 (by omega), hso (25 + q) (by omega)]; exact a10 q hq
    · intro q hq
      rw [hro 4 (by omega), hso (125 + q) (by omega)]; exact a11 q hq
  · exact SM_c hs (pO_same fun i hi => by rw [hro (i + 7) (by omega)]; exact ⟨Iff.rfl, rfl, rfl⟩) (fun q _ => congrFun (hro 2 (by decide)) q) (congrFun (hro 0 (by decide)) 7) (fun c _ => hso _ (by omega)) (fun c _ => hso _ (by omega)) (fun i _ => by rw [hro (i + 7) (by omega)]) (fun y _ => hso _ (by omega))
end AY
/-! a new bill -/
def bzU (u : Nat → Nat → Int32) (B k : Nat) : Nat → Nat → Int32 := fun i q => if i = 1 ∧ B ≤ q ∧ q < B + k then 0 else u i q
theorem bzU_o {u : Nat → Nat → Int32} {B k i : Nat} (h : i ≠ 1) : bzU u B k i = u i := by
  funext q
  exact if_neg (fun z => h z.1)
theorem bzU_n {u : Nat → Nat → Int32} {B k q : Nat} (h : q < B ∨ B + k ≤ q) : bzU u B k 1 q = u 1 q := if_neg (by omega)
theorem bzU_y {u : Nat → Nat → Int32} {B k q : Nat} (h : B ≤ q) (h2 : q < B + k) : bzU u B k 1 q = 0 := if_pos ⟨rfl, h, h2⟩
theorem bzU_s {u : Nat → Nat → Int32} {B k : Nat} : up (bzU u B k) 1 (B + k) (0 : Int32) = bzU u B (k + 1) := by
  funext i q
  unfold up bzU
  by_cases h : i = 1 ∧ q = B + k
  · rw [if_pos h, if_pos (by omega)]
  · rw [if_neg h]
    by_cases h2 : i = 1 ∧ B ≤ q ∧ q < B + k
    · rw [if_pos h2, if_pos (by omega)]
    · rw [if_neg h2, if_neg (by omega)]
def sixU (u : Nat → Nat → Int32) (B : Nat) (c p2 p3 p4 : Int32) : Nat → Nat → Int32 := up (up (up (up (up (up u 1 (B + 0) c) 1 (B + 1) p2) 1 (B + 2) p3) 1 (B + 3) (u 1 0)) 1 (B + 4) p4) 1 (B + 11) (-5 : Int32)
def bdU (u : Nat → Nat → Int32) (n cu : Nat) : Nat → Nat → Int32 := up u 1 (9 + cu) (u 1 (9 + cu))
theorem bd_lp {u u0 : Nat → Nat → Int32} {cu : Nat} {p2 p3 p4 : Int32} : ∀ (m k : Nat), k + m = 12 →
    v_X6_billed_loop u cu p2 p3 p4 m k (bzU u0 (233 + 12 * (sN (u 1) 6)) k) = v_X6_billed_loop u cu p2 p3 p4 0 12 (bzU u0 (233 + 12 * (sN (u 1) 6)) 12) ∧ w_X6_billed_loop u cu p2 p3 p4 m k (bzU u0 (233 + 12 * (sN (u 1) 6)) k) = w_X6_billed_loop u cu p2 p3 p4 0 12 (bzU u0 (233 + 12 * (sN (u 1) 6)) 12) := by
  intro m
  induction m with
  | zero => intro k hk; rw [show k = 12 by omega]; exact ⟨rfl, rfl⟩
  | succ m ih =>
    intro k hk
    obtain ⟨h1, h2⟩ := ih (k + 1) (by omega)
    rw [← h1, ← h2, ← bzU_s]
    exact ⟨rfl, rfl⟩
theorem bz0 {u : Nat → Nat → Int32} {B : Nat} : bzU u B 0 = u := by
  funext i q
  exact if_neg (by omega)
