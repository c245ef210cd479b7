/-! a book copied; the outer relation -/
def cpE (b b1 : Nat → Nat → Int32) : Prop := (∀ k, 5 ≤ k → k < 8 → b 0 k = b1 0 k) ∧ (∀ k, k < 8 → b 2 k = b1 2 k) ∧ (∀ k, k < 100 → b 3 k = b1 3 k) ∧ (∀ k, k < 100 → b 4 k = b1 4 k) ∧ (∀ k, k < 5 → b 6 k = b1 6 k) ∧ ∀ j, j < 40 → ∀ k, k < 14 → b (j + 7) k = b1 (j + 7) k
theorem BR_cp {b b1 : Nat → Nat → Int32} {s : Nat → Int32} (h : BR b1 s) (hc : cpE b b1) : BR b s := by
  obtain ⟨hm, n, d, hB, hS⟩ := h
  obtain ⟨c0, c2, c3, c4, c6, cj⟩ := hc
  obtain ⟨⟨⟨a1, a1'⟩, ⟨a2, a3, a4⟩, ⟨a5, c5, a5c, a5'⟩, a6, a7, hE, a9, a10, a11⟩, hL, hEm⟩ := hB
  refine ⟨hm, n, d, ⟨⟨⟨a1, a1'⟩, ⟨a2, a3, ?_⟩, ⟨?_, c5, a5c, a5'⟩, ?_, ?_, hE, ?_, ?_, ?_⟩, fun j hj => ?_, fun j g1 g2 => ?_⟩, ?_⟩
  · rw [c0 5 (by decide) (by decide)]; exact a4
  · rw [c0 6 (by decide) (by decide)]; exact a5
  · rw [c0 7 (by decide) (by decide)]; exact a6
  · intro k hk; rw [c6 k hk]; exact a7 k hk
  · intro k hk; rw [c2 k hk]; exact a9 k hk
  · intro k hk; rw [c3 k hk]; exact a10 k hk
  · intro k hk; rw [c4 k hk]; exact a11 k hk
  · exact BL_c (hL j hj) (fun k hk => cj j (by omega) k hk) (fun _ _ => rfl) (Nat.le_refl d)
  · exact EB_c (hEm j g1 g2) (fun k hk => cj j g2 k hk)
  · exact SM_c hS (pO_same fun j hj => by rw [cj j hj 0 (by decide), cj j hj 1 (by decide), cj j hj 8 (by decide)]; exact ⟨Iff.rfl, rfl, rfl⟩) c2 (c0 7 (by decide) (by decide)) (fun _ _ => rfl) (fun _ _ => rfl) (fun j hj => cj j hj 8 (by decide)) (fun _ _ => rfl)
theorem BR_s {b : Nat → Nat → Int32} {s s' : Nat → Int32} (h : BR b s) (hs : ∀ k, k < 713 → s' k = s k) : BR b s' := by
  obtain ⟨hm, n, d, hB, hS⟩ := h
  obtain ⟨⟨⟨a1, a1'⟩, ⟨a2, a3, a4⟩, ⟨a5, c5, a5c, a5'⟩, a6, a7, ⟨e, p, w, f, t, hE⟩, a9, a10, a11⟩, hL, hEm⟩ := hB
  refine ⟨SI_same hm (hs 6 (by decide)) (hs 0 (by decide)) (fun i hi => hs _ (by omega)) (fun i hi => hs _ (by omega)), n, d, ⟨⟨⟨?_, a1'⟩, ⟨?_, a3, ?_⟩, ⟨?_, c5, a5c, ?_⟩, ?_, ?_, ⟨e, p, w, f, t, SE_c hE (fun k g1 g2 => hs k (by omega))⟩, ?_, ?_, ?_⟩, fun j hj => ?_, hEm⟩, ?_⟩
  · rw [hs 6 (by decide)]; exact a1
  · rw [hs 0 (by decide)]; exact a2
  · rw [hs 0 (by decide)]; exact a4
  · rw [hs 8 (by decide)]; exact a5
  · rw [hs 8 (by decide)]; exact a5'
  · rw [hs 7 (by decide)]; exact a6
  · intro k hk; rw [hs (1 + k) (by omega)]; exact a7 k hk
  · intro k hk; rw [hs (9 + k) (by omega)]; exact a9 k hk
  · intro k hk; rw [hs (25 + k) (by omega)]; exact a10 k hk
  · intro k hk; rw [hs (125 + k) (by omega)]; exact a11 k hk
  · exact BL_c (hL j hj) (fun _ _ => rfl) (fun k hk => hs _ (by omega)) (Nat.le_refl d)
  · exact SM_c hS (fun _ => rfl) (fun _ _ => rfl) rfl (fun c hc => hs _ (by omega)) (fun c hc => hs _ (by omega)) (fun _ _ => rfl) (fun y hy => hs _ (by omega))
theorem wB_r {z : CS} {r t k : Nat} {v : Int32} : (wB z r t k v).2 r = up (z.2 r) t k v := upP_same
theorem wB_ne {z : CS} {r t k q : Nat} {v : Int32} (h : q ≠ r) : (wB z r t k v).2 q = z.2 q := upP_ne h
theorem wC_r {z : CS} {r t r1 N : Nat} : (wC z r t r1 N).2 r = upI (z.2 r) t (va_cpy (z.2 r1 t) (z.2 r t) 0 0 N) := upP_same
theorem wC_ne {z : CS} {r t r1 N q : Nat} (h : q ≠ r) : (wC z r t r1 N).2 q = z.2 q := upP_ne h
theorem cp0_ne {z : CS} {r j r1 j1 q : Nat} (h : q ≠ r) : (w_X0_copyFrom z r j r1 j1).2 q = z.2 q := by
  unfold w_X0_copyFrom
  simp (disch := assumption) only [wB_ne]
theorem cp0_1 {z : CS} {r j r1 j1 : Nat} : (w_X0_copyFrom z r j r1 j1).1 = z.1 := rfl
theorem cp0_o {z : CS} {r j r1 j1 i : Nat} (h : i ≠ j + 7) : (w_X0_copyFrom z r j r1 j1).2 r i = z.2 r i := by
  unfold w_X0_copyFrom
  simp (disch := assumption) only [wB_r, up_oi]
theorem cp0_k {z : CS} {r j r1 j1 k : Nat} (hk : k < 14) : (w_X0_copyFrom z r j r1 j1).2 r (j + 7) k = z.2 r1 (j1 + 7) k := by
  unfold w_X0_copyFrom
  simp only [wB_r]
  rcases (show k = 0 ∨ k = 1 ∨ k = 2 ∨ k = 3 ∨ k = 4 ∨ k = 5 ∨ k = 6 ∨ k = 7 ∨ k = 8 ∨ k = 9 ∨ k = 10 ∨ k = 11 ∨ k = 12 ∨ k = 13 by omega) with rfl | rfl | rfl | rfl | rfl | rfl | rfl | rfl | rfl | rfl | rfl | rfl | rfl | rfl <;> simp (disch := decide) only [up_nk, up_same]
def cpEnd (z : CS) (r r1 : Nat) : CS := wB (wB (wB (w_X3_copyFrom (wC (wC (wC z r 2 r1 8) r 3 r1 100) r 4 r1 100) r r1) r 0 5 ((w_X3_copyFrom (wC (wC (wC z r 2 r1 8) r 3 r1 100) r 4 r1 100) r r1).2 r1 0 5)) r 0 6 ((wB (w_X3_copyFrom (wC (wC (wC z r 2 r1 8) r 3 r1 100) r 4 r1 100) r r1) r 0 5 ((w_X3_copyFrom (wC (wC (wC z r 2 r1 8) r 3 r1 100) r 4 r1 100) r r1).2 r1 0 5)).2 r1 0 6)) r 0 7 ((wB (wB (w_X3_copyFrom (wC (wC (wC z r 2 r1 8) r 3 r1 100) r 4 r1 100) r r1) r 0 5 ((w_X3_copyFrom (wC (wC (wC z r 2 r1 8) r 3 r1 100) r 4 r1 100) r r1).2 r1 0 5)) r 0 6 ((wB (w_X3_copyFrom (wC (wC (wC z r 2 r1 8) r 3 r1 100) r 4 r1 100) r r1) r 0 5 ((w_X3_copyFrom (wC (wC (wC z r 2 r1 8) r 3 r1 100) r 4 r1 100) r r1).2 r1 0 5)).2 r1 0 6)).2 r1 0 7)
theorem cpEnd_ne {z : CS} {r r1 q : Nat} (h : q ≠ r) : (cpEnd z r r1).2 q = z.2 q := by
  unfold cpEnd w_X3_copyFrom
  simp (disch := assumption) only [wB_ne, wC_ne]
theorem cpEnd_b {z : CS} {r r1 i : Nat} (h0 : i ≠ 0) (h2 : i ≠ 2) (h3 : i ≠ 3) (h4 : i ≠ 4) (h6 : i ≠ 6) : (cpEnd z r r1).2 r i = z.2 r i := by
  unfold cpEnd w_X3_copyFrom
  simp (disch := assumption) only [wB_r, wC_r, up_oi, upI_ne]
theorem cpEnd_r {z : CS} {r r1 : Nat} (h : r1 ≠ r) : (∀ k, 5 ≤ k → k < 8 → (cpEnd z r r1).2 r 0 k = z.2 r1 0 k) ∧ (∀ k, k < 8 → (cpEnd z r r1).2 r 2 k = z.2 r1 2 k) ∧ (∀ k, k < 100 → (cpEnd z r r1).2 r 3 k = z.2 r1 3 k) ∧ (∀ k, k < 100 → (cpEnd z r r1).2 r 4 k = z.2 r1 4 k) ∧ ∀ k, k < 5 → (cpEnd z r r1).2 r 6 k = z.2 r1 6 k := by
  unfold cpEnd w_X3_copyFrom
  simp only [wB_r, wC_r, wB_ne h, wC_ne h]
  refine ⟨fun k g1 g2 => ?_, fun k hk => ?_, fun k hk => ?_, fun k hk => ?_, fun k hk => ?_⟩
  · rcases (show k = 5 ∨ k = 6 ∨ k = 7 by omega) with rfl | rfl | rfl <;> simp (disch := decide) only [up_nk, up_same]
  · simp (disch := decide) only [up_oi, upI_ne, upI_same]
    exact sb_cpy0 hk
  · simp (disch := decide) only [up_oi, upI_ne, upI_same]
    exact sb_cpy0 hk
  · simp (disch := decide) only [up_oi, upI_ne, upI_same]
    exact sb_cpy0 hk
  · simp (disch := decide) only [up_oi, upI_ne, upI_same]
    exact sb_cpy0 hk
theorem cp_lp {r r1 : Nat} (h : r1 ≠ r) : ∀ (m k : Nat) (z : CS), k + m = 40 → (w_X1_copyFrom_loop r r1 m k z).1 = z.1 ∧ (∀ q, q ≠ r → (w_X1_copyFrom_loop r r1 m k z).2 q = z.2 q) ∧ ((∀ i, 5 ≤ i → i < 8 → (w_X1_copyFrom_loop r r1 m k z).2 r 0 i = z.2 r1 0 i) ∧ (∀ i, i < 8 → (w_X1_copyFrom_loop r r1 m k z).2 r 2 i = z.2 r1 2 i) ∧ (∀ i, i < 100 → (w_X1_copyFrom_loop r r1 m k z).2 r 3 i = z.2 r1 3 i) ∧ (∀ i, i < 100 → (w_X1_copyFrom_loop r r1 m k z).2 r 4 i = z.2 r1 4 i) ∧ ∀ i, i < 5 → (w_X1_copyFrom_loop r r1 m k z).2 r 6 i = z.2 r1 6 i) ∧ (∀ j, j < k → (w_X1_copyFrom_loop r r1 m k z).2 r (j + 7) = z.2 r (j + 7)) ∧ ∀ j, k ≤ j → j < 40 → ∀ i, i < 14 → (w_X1_copyFrom_loop r r1 m k z).2 r (j + 7) i = z.2 r1 (j + 7) i := by
  intro m
  induction m with
  | zero =>
    intro k z hk
    exact ⟨rfl, fun q hq => cpEnd_ne hq, cpEnd_r h, fun j _ => cpEnd_b (by omega) (by omega) (by omega) (by omega) (by omega), fun j g1 g2 => absurd g2 (by omega)⟩
  | succ m ih =>
    intro k z hk
    obtain ⟨i1, i2, ⟨i3, i4, i5, i6, i7⟩, i8, i9⟩ := ih (k + 1) (w_X0_copyFrom z r k r1 k) (by omega)
    have e : w_X1_copyFrom_loop r r1 (m + 1) k z = w_X1_copyFrom_loop r r1 m (k + 1) (w_X0_copyFrom z r k r1 k) := rfl
    rw [e]
    have hr1 : (w_X0_copyFrom z r k r1 k).2 r1 = z.2 r1 := cp0_ne h
    rw [hr1] at i3 i4 i5 i6 i7
    refine ⟨i1, fun q hq => (i2 q hq).trans (cp0_ne hq), ⟨i3, i4, i5, i6, i7⟩, fun j hj => (i8 j (by omega)).trans (cp0_o (by omega)), fun j g1 g2 i hi => ?_⟩
    by_cases g : j = k
    · subst g
      rw [i8 j (by omega)]
      exact cp0_k hi
    · rw [i9 j (by omega) g2 i hi, hr1]
theorem cp_ok {z : CS} {r r1 : Nat} (h : r1 ≠ r) : (w_X1_copyFrom z r r1).1 = z.1 ∧ (∀ q, q ≠ r → (w_X1_copyFrom z r r1).2 q = z.2 q) ∧ cpE ((w_X1_copyFrom z r r1).2 r) (z.2 r1) := by
  obtain ⟨i1, i2, ⟨i3, i4, i5, i6, i7⟩, i8, i9⟩ := cp_lp h 40 0 z rfl
  exact ⟨i1, i2, i3, i4, i5, i6, i7, fun j hj => i9 j (Nat.zero_le j) hj⟩
/-- the history, the snapshot, the text, the latest stop -/
def HI (z : CS) (u : Nat → Nat → Int32) : Prop := ∃ k : Nat, k ≤ 4 ∧ z.2 7 1 1 = nI k ∧ u 0 6 = nI k ∧ ∀ i, i < k → BR (z.2 (z.1 (2 + i))) (fun q => u 5 (713 * i + q))
def SNP (z : CS) (u : Nat → Nat → Int32) : Prop := (z.2 7 0 3 = 0 ∧ u 0 4 = 0) ∨ (z.2 7 0 3 = (1 : Int32) ∧ u 0 4 = (1 : Int32) ∧ BR (z.2 2) (u 4))
def TXT (t : Nat → Nat → Int32) (u : Nat → Nat → Int32) : Prop := ∃ n : Nat, n ≤ 60 ∧ t 0 1 = nI n ∧ u 0 8 = nI n ∧ ∀ q, q < n → t 1 q = u 6 q
def STP (z : CS) (u : Nat → Nat → Int32) : Prop := (z.2 7 0 6 = 0 ∧ u 0 9 = (-5 : Int32) ∧ u 0 10 = (-5 : Int32)) ∨ (z.2 7 0 6 = (1 : Int32) ∧ u 0 9 = z.2 7 0 7 ∧ u 0 10 = z.2 7 0 8)
def RLz (z : CS) (u : Nat → Nat → Int32) : Prop := RI z.1 ∧ RJ z.1 ∧ BR (z.2 (z.1 0)) (u 1) ∧ HI z u ∧ SNP z u ∧ TXT (z.2 8) u ∧ STP z u
/-- the reference is as it was, where it counts -/
def uE (u u' : Nat → Nat → Int32) : Prop := (∀ q, q < 713 → u' 1 q = u 1 q) ∧ u' 5 = u 5 ∧ u' 4 = u 4 ∧ u' 6 = u 6 ∧ ∀ k, (k = 4 ∨ k = 6 ∨ k = 8 ∨ k = 9 ∨ k = 10) → u' 0 k = u 0 k
theorem uE.rf {u : Nat → Nat → Int32} : uE u u := ⟨fun _ _ => rfl, rfl, rfl, rfl, fun _ _ => rfl⟩
theorem RLz_u {z : CS} {u u' : Nat → Nat → Int32} (h : RLz z u) (e : uE u u') : RLz z u' := by
  obtain ⟨h1, h2, h3, ⟨k, hk, h4, h5, h6⟩, h7, ⟨n, hn, h8, h9, h10⟩, h11⟩ := h
  obtain ⟨e1, e5, e4, e6, e0⟩ := e
  refine ⟨h1, h2, BR_s h3 e1, ⟨k, hk, h4, (e0 6 (by omega)).trans h5, fun i hi => by rw [e5]; exact h6 i hi⟩, ?_, ⟨n, hn, h8, (e0 8 (by omega)).trans h9, fun q hq => by rw [e6]; exact h10 q hq⟩, ?_⟩
  · unfold SNP
    rw [e0 4 (by omega), e4]; exact h7
  · unfold STP
    rw [e0 9 (by omega), e0 10 (by omega)]; exact h11
/-- a is recorded -/
def KH (a : Nat → Int32) (u u' : Nat → Nat → Int32) : Prop := ∃ k : Nat, k ≤ 4 ∧ u 0 6 = nI k ∧ ((k < 4 ∧ u' 0 6 = nI (k + 1) ∧ (∀ i, i < k → ∀ q, q < 713 → u' 5 (713 * i + q) = u 5 (713 * i + q)) ∧ ∀ q, q < 713 → u' 5 (713 * k + q) = a q) ∨ (k = 4 ∧ u' 0 6 = nI 4 ∧ (∀ i, i < 3 → ∀ q, q < 713 → u' 5 (713 * i + q) = u 5 (713 * (i + 1) + q)) ∧ ∀ q, q < 713 → u' 5 (713 * 3 + q) = a q))
/-- what an act leaves -/
def uA (u u' : Nat → Nat → Int32) : Prop := u' 4 = u 4 ∧ u' 6 = u 6 ∧ ∀ k, (k = 4 ∨ k = 8 ∨ k = 9 ∨ k = 10) → u' 0 k = u 0 k
