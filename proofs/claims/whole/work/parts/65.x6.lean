/-! a payment goes through the bills: both sides -/
def nS (f : Nat → Nat) : Nat → Nat → Nat
  | 0, _ => 0
  | n + 1, k => f k + nS f n (k + 1)
theorem nS_c {f g : Nat → Nat} : ∀ (n k : Nat), (∀ i, k ≤ i → i < k + n → f i = g i) → nS f n k = nS g n k := by
  intro n
  induction n with
  | zero => intro k h; rfl
  | succ n ih =>
    intro k h
    show f k + nS f n (k + 1) = g k + nS g n (k + 1)
    rw [h k (Nat.le_refl k) (by omega), ih (k + 1) (fun i h1 h2 => h i (by omega) (by omega))]
theorem nS_up {f g : Nat → Nat} {j A : Nat} : ∀ (n k : Nat), k ≤ j → j < k + n → (∀ i, k ≤ i → i < k + n → i ≠ j → g i = f i) → g j = f j + A → nS g n k = nS f n k + A := by
  intro n
  induction n with
  | zero => intro k h1 h2; omega
  | succ n ih =>
    intro k h1 h2 h hj
    show g k + nS g n (k + 1) = (f k + nS f n (k + 1)) + A
    by_cases e : k = j
    · subst e
      rw [nS_c (f := g) (g := f) n (k + 1) (fun i h3 h4 => h i (by omega) (by omega) (by omega)), hj]
      omega
    · rw [ih (k + 1) (by omega) (by omega) (fun i h3 h4 => h i (by omega) (by omega)) hj, h k (by omega) (by omega) e]
      omega
/-- all that was paid on bills; what came in of taxes is no more -/
def psN (b : Nat → Nat → Int32) : Nat := nS (fun j => (b (j + 7) 8).toNatClampNeg) 40 0
def TB (b : Nat → Nat → Int32) (s : Nat → Int32) : Prop := ∀ y, y < 100 → ∃ v : Nat, v ≤ psN b ∧ s (25 + y) = nI v
theorem ps_same {b b' : Nat → Nat → Int32} (h : ∀ j, j < 40 → b' (j + 7) 8 = b (j + 7) 8) : psN b' = psN b := nS_c 40 0 (fun i _ hi => by rw [h i (by omega)])
theorem ps_up {b b' : Nat → Nat → Int32} {j p A : Nat} (hj : j < 40) (h : ∀ i, i < 40 → i ≠ j → b' (i + 7) 8 = b (i + 7) 8) (h8 : b (j + 7) 8 = nI p) (h8' : b' (j + 7) 8 = nI p + nI A) (hp : p + A < 2 ^ 31) : psN b' = psN b + A :=
  nS_up (j := j) 40 0 (Nat.zero_le _) (by omega) (fun i _ hi hij => by rw [h i (by omega) hij]) (by rw [h8, h8', nI_add, nI_clamp hp, nI_clamp (by omega)])
def SM (b : Nat → Nat → Int32) (s : Nat → Int32) : Prop := (∀ c, c < 8 → v_X1_paidOn b (nI c) + b 2 c = s (17 + c) - s (225 + c)) ∧ v_X1_paidOn b (-9) + v_X1_allCredit b + b 0 7 = lS (fun k => s (17 + k)) 8 0 ∧ TB b s
/-- a book and a row of the reference -/
def BR (b : Nat → Nat → Int32) (s : Nat → Int32) : Prop := SI s ∧ ∃ n d : Nat, BR0 b s n d ∧ SM b s
theorem is_any {b : Nat → Nat → Int32} {j : Nat} {p : Int32} (h : ¬ b (j + 7) 0 = (-1 : Int32)) : v_X0_is b j p (-9) = if p = (-9 : Int32) ∨ p = b (j + 7) 1 then 1 else 0 := by
  unfold v_X0_is
  rw [if_neg h]
  grind
theorem paid_up {b b' : Nat → Nat → Int32} {j : Nat} {A : Int32} (hj : j < 40) (ho : ∀ i, i < 40 → i ≠ j → b' (i + 7) = b (i + 7)) (h0 : ¬ b (j + 7) 0 = (-1 : Int32)) (h0' : ¬ b' (j + 7) 0 = (-1 : Int32)) (h1 : b' (j + 7) 1 = b (j + 7) 1) (h8 : b' (j + 7) 8 = b (j + 7) 8 + A) (p : Int32) : v_X1_paidOn b' p = v_X1_paidOn b p + if p = (-9 : Int32) ∨ p = b (j + 7) 1 then A else 0 := by
  rw [pO_l, pO_l, lS_up (f := fun i => if v_X0_is b i p (-9) = 0 then 0 else b (i + 7) 8) (j := j) 40 0 (Nat.zero_le _) (by omega) (fun i _ h2 h3 => ?_)]
  · congr 1
    rw [is_any h0, is_any h0', h1, h8]
    by_cases c : p = (-9 : Int32) ∨ p = b (j + 7) 1
    · simp only [if_pos c, if_neg (show ¬ (1 : Int32) = 0 by decide)]
      grind
    · simp only [if_neg c, if_true]
      rfl
  · unfold v_X0_is
    rw [ho i (by omega) h3]
theorem aC_up {b b' : Nat → Nat → Int32} {c : Nat} {v : Int32} (hc : c < 8) (ho : ∀ k, k < 8 → k ≠ c → b' 2 k = b 2 k) (hv : b' 2 c = v) : v_X1_allCredit b' = v_X1_allCredit b + (v - b 2 c) := by
  rw [aC_l, aC_l, lS_up (f := fun i => b 2 i) (j := c) 8 0 (Nat.zero_le _) (by omega) (fun i _ h2 h3 => ho i (by omega) h3), hv]
def PY (n d c : Nat) (b u : Nat → Nat → Int32) (L : Nat) (b' u' : Nat → Nat → Int32) (L' : Nat) : Prop :=
  SI (u' 1) ∧ BR0 b' (u' 1) n d ∧ L' ≤ L ∧ (b' 2 = b 2 ∧ b' 0 = b 0) ∧ (∀ k, k < 233 → (k < 25 ∨ 125 ≤ k) → u' 1 k = u 1 k) ∧ (∀ p : Int32, v_X1_paidOn b' p + (if p = (-9 : Int32) ∨ p = nI c then nI L' else 0) = v_X1_paidOn b p + if p = (-9 : Int32) ∨ p = nI c then nI L else 0) ∧ psN b' + L' = psN b + L ∧ ∀ y v : Nat, y < 100 → u 1 (25 + y) = nI v → ∃ v' : Nat, v' + L' ≤ v + L ∧ u' 1 (25 + y) = nI v'
theorem PY.rf {n d c L : Nat} {b u : Nat → Nat → Int32} (hm : SI (u 1)) (h : BR0 b (u 1) n d) : PY n d c b u L b u L := ⟨hm, h, Nat.le_refl _, ⟨rfl, rfl⟩, fun _ _ _ => rfl, fun _ => rfl, rfl, fun y v _ h => ⟨v, Nat.le_refl _, h⟩⟩
theorem PY.tr {n d c L L' L'' : Nat} {b u b' u' b'' u'' : Nat → Nat → Int32} (h1 : PY n d c b u L b' u' L') (h2 : PY n d c b' u' L' b'' u'' L'') : PY n d c b u L b'' u'' L'' :=
  ⟨h2.1, h2.2.1, Nat.le_trans h2.2.2.1 h1.2.2.1, ⟨h2.2.2.2.1.1.trans h1.2.2.2.1.1, h2.2.2.2.1.2.trans h1.2.2.2.1.2⟩, fun k hk hk2 => (h2.2.2.2.2.1 k hk hk2).trans (h1.2.2.2.2.1 k hk hk2), fun p => (h2.2.2.2.2.2.1 p).trans (h1.2.2.2.2.2.1 p), h2.2.2.2.2.2.2.1.trans h1.2.2.2.2.2.2.1, fun y v hy h => by
    obtain ⟨v1, g1, g2⟩ := h1.2.2.2.2.2.2.2 y v hy h
    obtain ⟨v2, g3, g4⟩ := h2.2.2.2.2.2.2.2 y v1 hy g2
    exact ⟨v2, by omega, g4⟩⟩
section PL
variable {n d : Nat}
theorem pay_PY {b u : Nat → Nat → Int32} {j c L : Nat} (hm : SI (u 1)) (h : BR0 b (u 1) n d) (hj : j < n) (hc : u 1 (233 + 12 * j + 0) = nI c) (hst : ¬ u 1 (233 + 12 * j + 5) = (1 : Int32)) (hL : 1 ≤ L) (hL2 : L ≤ 1000000) : ∃ A : Nat, A ≤ L ∧ v_X1_payOn b j (nI L) = nI A ∧ v_X6_takesOf u j (nI L) = nI A ∧ PY n d c b u L (w_X1_payOn b j (nI L)) (w_X6_takesOf u j (nI L)) (L - A) := by
  obtain ⟨A, hA, e1, e2, hB, f1, f2, f3, f4, f5, f6⟩ := pay_step hm h hj hst hL hL2
  have hn : n ≤ 40 := h.1.1.2
  refine ⟨A, hA, e1, e2, takesOf_SI hm (by omega), hB, by omega, ⟨f1 2 (by omega) (by omega), f1 0 (by omega) (by omega)⟩, fun k hk hk2 => f4 k (by omega) hk2 (by omega), fun p => ?_, ?_, fun y v hy hv => ?_⟩
  · obtain ⟨q, hq, eq⟩ := st_ok h hj
    obtain ⟨q', hq', eq'⟩ := st_ok hB hj
    have x0 : b (j + 7) 0 = u 1 (233 + 12 * j + 5) := (h.2.1 j hj).1.1
    have x1 : b (j + 7) 1 = u 1 (233 + 12 * j + 0) := (h.2.1 j hj).1.2.1
    have x0' : w_X1_payOn b j (nI L) (j + 7) 0 = w_X6_takesOf u j (nI L) 1 (233 + 12 * j + 5) := (hB.2.1 j hj).1.1
    rw [paid_up (b := b) (b' := w_X1_payOn b j (nI L)) (j := j) (A := nI A) (by omega) (fun i h1 h2 => f1 (i + 7) (by omega) (by omega)) (by rw [x0, eq]; exact nI_nm (by omega) (by decide)) (by rw [x0', eq']; exact nI_nm (by omega) (by decide)) f2 f3, x1, hc]
    by_cases g : p = (-9 : Int32) ∨ p = nI c
    · rw [if_pos g, if_pos g, if_pos g, Int32.add_assoc, nI_add, show A + (L - A) = L by omega]
    · rw [if_neg g, if_neg g, if_neg g, Int32.add_zero]
  · obtain ⟨x, cu, ne, ra, wr, du, st, pd, dc, fe, rm, lt, hN⟩ := h.2.1 j hj
    have x8 : b (j + 7) 8 = nI pd := x.2.2.2.2.2.2.2.2.1.trans hN.1.2.2.2.2.2.2.1
    have hb := hN.2
    have := ps_up (b := b) (b' := w_X1_payOn b j (nI L)) (j := j) (p := pd) (A := A) (by omega) (fun i h1 h2 => congrFun (f1 (i + 7) (by omega) (by omega)) 8) x8 (by rw [f3, x8]) (by omega)
    omega
  · obtain ⟨v', g1, g2⟩ := f6 y v hy hv
    exact ⟨v', by omega, g2⟩
theorem pay0 {b : Nat → Nat → Int32} {j : Nat} : v_X1_payOn b j (nI 0) = 0 ∧ w_X1_payOn b j (nI 0) = b := by
  unfold v_X1_payOn w_X1_payOn
  rw [if_neg (by decide), if_neg (by decide)]
  exact ⟨rfl, rfl⟩
theorem pay_z {b u : Nat → Nat → Int32} {c : Nat} {p2 x : Int32} (h : BR0 b (u 1) n d) (hc : c < 8) : ∀ (m k : Nat), k + m = 40 →
    v_X1_takePayment_loop (nI c) p2 m k b (nI 0) x = (if v_X1_addCredit b (nI c) (nI 0) = 0 then (-3 : Int32) else x) ∧ w_X1_takePayment_loop (nI c) p2 m k b (nI 0) x = w_X1_addCredit b (nI c) (nI 0) := by
  intro m
  induction m with
  | zero => intro k hk; exact ⟨rfl, by show (if _ then _ else _) = _; rw [ite_self]⟩
  | succ m ih =>
    intro k hk
    obtain ⟨i1, i2⟩ := ih (k + 1) (by omega)
    have e1 : v_X1_takePayment_loop (nI c) p2 (m + 1) k b (nI 0) x = if v_X0_is b k (nI c) (0 : Int32) = 0 then (v_X1_takePayment_loop (nI c) p2 m (k + 1) b (nI 0) x) else if (w_X1_payOn b k (nI 0)) (k + 7) 0 = (1 : Int32) then (v_X1_takePayment_loop (nI c) p2 m (k + 1) (w_X1_payOn b k (nI 0)) (nI 0 - (v_X1_payOn b k (nI 0))) (x + (1 : Int32))) else v_X1_takePayment_loop (nI c) p2 m (k + 1) (w_X1_payOn b k (nI 0)) (nI 0 - (v_X1_payOn b k (nI 0))) (x + (0 : Int32)) := rfl
    have e2 : w_X1_takePayment_loop (nI c) p2 (m + 1) k b (nI 0) x = if v_X0_is b k (nI c) (0 : Int32) = 0 then (w_X1_takePayment_loop (nI c) p2 m (k + 1) b (nI 0) x) else if (w_X1_payOn b k (nI 0)) (k + 7) 0 = (1 : Int32) then (w_X1_takePayment_loop (nI c) p2 m (k + 1) (w_X1_payOn b k (nI 0)) (nI 0 - (v_X1_payOn b k (nI 0))) (x + (1 : Int32))) else w_X1_takePayment_loop (nI c) p2 m (k + 1) (w_X1_payOn b k (nI 0)) (nI 0 - (v_X1_payOn b k (nI 0))) (x + (0 : Int32)) := rfl
    rw [e1, e2, pay0.1, pay0.2, Int32.sub_zero, Int32.add_zero]
    by_cases g : v_X0_is b k (nI c) (0 : Int32) = 0
    · rw [if_pos g, if_pos g]; exact ⟨i1, i2⟩
    · rw [if_neg g, if_neg g]
      have h0 : ¬ b (k + 7) 0 = (1 : Int32) := by
        intro z
        apply g
        unfold v_X0_is
        rw [z, if_neg (by decide)]
        have h9 : ¬ nI c = (-9 : Int32) := nI_nm (by omega) (by decide)
        rw [if_neg h9]
        split
        · rfl
        · rfl
      rw [if_neg h0, if_neg h0]
      exact ⟨i1, i2⟩
theorem pay_e {b u : Nat → Nat → Int32} {c : Nat} {p2 x y : Int32} (h : BR0 b (u 1) n d) : ∀ (m k : Nat), n ≤ k → k + m = 40 →
    v_X1_takePayment_loop (nI c) p2 m k b y x = (if v_X1_addCredit b (nI c) y = 0 then (-3 : Int32) else x) ∧ w_X1_takePayment_loop (nI c) p2 m k b y x = w_X1_addCredit b (nI c) y := by
  intro m
  induction m with
  | zero => intro k _ hk; exact ⟨rfl, by show (if _ then _ else _) = _; rw [ite_self]⟩
  | succ m ih =>
    intro k hk1 hk
    have g : v_X0_is b k (nI c) (0 : Int32) = 0 := is_ge h hk1 (by omega) _ _
    refine ⟨?_, ?_⟩
    · show (if _ then _ else _) = _
      rw [if_pos g]; exact (ih (k + 1) (by omega) (by omega)).1
    · show (if _ then _ else _) = _
      rw [if_pos g]; exact (ih (k + 1) (by omega) (by omega)).2
def pEnd (u : Nat → Nat → Int32) (c : Nat) (x p2 : Int32) : Nat → Nat → Int32 := up (up u 1 (9 + c) ((u 1 (9 + c)) + x)) 1 (17 + c) ((u 1 (17 + c)) + p2)
theorem pay_lp {c : Nat} (hc : c < 8) (p2 : Int32) (hn : n ≤ 40) : ∀ (r k : Nat) (b u : Nat → Nat → Int32) (L t : Nat), k + r = n → SI (u 1) → BR0 b (u 1) n d → L ≤ 1000000 →
    ∃ (b' u' : Nat → Nat → Int32) (L' t' : Nat), t' ≤ t + r ∧ PY n d c b u L b' u' L' ∧ v_X1_takePayment_loop (nI c) p2 (40 - k) k b (nI L) (nI t) = (if v_X1_addCredit b' (nI c) (nI L') = 0 then (-3 : Int32) else nI t') ∧ w_X1_takePayment_loop (nI c) p2 (40 - k) k b (nI L) (nI t) = w_X1_addCredit b' (nI c) (nI L') ∧ v_X6_paysAll_loop c p2 r k u (nI L) (nI t) = nI t' ∧ w_X6_paysAll_loop c p2 r k u (nI L) (nI t) = pEnd u' c (nI L') p2 := by
  intro r
  induction r with
  | zero =>
    intro k b u L t hk hm h hL
    obtain ⟨e1, e2⟩ := pay_e (c := c) (p2 := p2) (x := nI t) (y := nI L) h (40 - k) k (by omega) (by omega)
    exact ⟨b, u, L, t, by omega, PY.rf hm h, e1, e2, rfl, rfl⟩
  | succ r ih =>
    intro k b u L t hk hm h hL
    rcases Nat.eq_zero_or_pos L with rfl | hL1
    · obtain ⟨e1, e2⟩ := pay_z (p2 := p2) (x := nI t) h hc (40 - k) k (by omega)
      refine ⟨b, u, 0, t, by omega, PY.rf hm h, e1, e2, ?_, ?_⟩
      · show (if _ then _ else _) = _
        rw [if_pos (by decide)]
      · show (if _ then _ else _) = _
        rw [if_pos (by decide)]; rfl
    · have hkn : k < n := by omega
      have hnle : ¬ nI L ≤ 0 := nI_nle hL1 (by omega)
      rw [show 40 - k = (40 - (k + 1)) + 1 by omega]
      have e1 : v_X1_takePayment_loop (nI c) p2 (40 - (k + 1) + 1) k b (nI L) (nI t) = if v_X0_is b k (nI c) (0 : Int32) = 0 then (v_X1_takePayment_loop (nI c) p2 (40 - (k + 1)) (k + 1) b (nI L) (nI t)) else if (w_X1_payOn b k (nI L)) (k + 7) 0 = (1 : Int32) then (v_X1_takePayment_loop (nI c) p2 (40 - (k + 1)) (k + 1) (w_X1_payOn b k (nI L)) (nI L - (v_X1_payOn b k (nI L))) (nI t + (1 : Int32))) else v_X1_takePayment_loop (nI c) p2 (40 - (k + 1)) (k + 1) (w_X1_payOn b k (nI L)) (nI L - (v_X1_payOn b k (nI L))) (nI t + (0 : Int32)) := rfl
      have e2 : w_X1_takePayment_loop (nI c) p2 (40 - (k + 1) + 1) k b (nI L) (nI t) = if v_X0_is b k (nI c) (0 : Int32) = 0 then (w_X1_takePayment_loop (nI c) p2 (40 - (k + 1)) (k + 1) b (nI L) (nI t)) else if (w_X1_payOn b k (nI L)) (k + 7) 0 = (1 : Int32) then (w_X1_takePayment_loop (nI c) p2 (40 - (k + 1)) (k + 1) (w_X1_payOn b k (nI L)) (nI L - (v_X1_payOn b k (nI L))) (nI t + (1 : Int32))) else w_X1_takePayment_loop (nI c) p2 (40 - (k + 1)) (k + 1) (w_X1_payOn b k (nI L)) (nI L - (v_X1_payOn b k (nI L))) (nI t + (0 : Int32)) := rfl
      have e3 : v_X6_paysAll_loop c p2 (r + 1) k u (nI L) (nI t) = if nI L ≤ 0 then nI t else if v_X6_isOpenOf u k (nI c) = 0 then (v_X6_paysAll_loop c p2 r (k + 1) u (nI L) (nI t)) else if v_X6_is (w_X6_takesOf u k (nI L)) k (1 : Int32) = 0 then (v_X6_paysAll_loop c p2 r (k + 1) (w_X6_takesOf u k (nI L)) (nI L - (v_X6_takesOf u k (nI L))) (nI t + (0 : Int32))) else v_X6_paysAll_loop c p2 r (k + 1) (w_X6_takesOf u k (nI L)) (nI L - (v_X6_takesOf u k (nI L))) (nI t + (1 : Int32)) := rfl
      have e4 : w_X6_paysAll_loop c p2 (r + 1) k u (nI L) (nI t) = if nI L ≤ 0 then pEnd u c (nI L) p2 else if v_X6_isOpenOf u k (nI c) = 0 then (w_X6_paysAll_loop c p2 r (k + 1) u (nI L) (nI t)) else if v_X6_is (w_X6_takesOf u k (nI L)) k (1 : Int32) = 0 then (w_X6_paysAll_loop c p2 r (k + 1) (w_X6_takesOf u k (nI L)) (nI L - (v_X6_takesOf u k (nI L))) (nI t + (0 : Int32))) else w_X6_paysAll_loop c p2 r (k + 1) (w_X6_takesOf u k (nI L)) (nI L - (v_X6_takesOf u k (nI L))) (nI t + (1 : Int32)) := rfl
      rw [e1, e2, e3, e4, if_neg hnle, if_neg hnle]
      by_cases g : v_X0_is b k (nI c) (0 : Int32) = 0
      · have g2 := (op_lt h hkn (show c < 1000 by omega)).mp g
        rw [if_pos g, if_pos g, if_pos g2, if_pos g2]
        obtain ⟨b', u', L', t', f0, f1, f2, f3, f4, f5⟩ := ih (k + 1) b u L t (by omega) hm h hL
        exact ⟨b', u', L', t', by omega, f1, f2, f3, f4, f5⟩
      · have g2 : ¬ v_X6_isOpenOf u k (nI c) = 0 := fun z => g ((op_lt h hkn (show c < 1000 by omega)).mpr z)
        rw [if_neg g, if_neg g, if_neg g2, if_neg g2]
        have hcu : u 1 (233 + 12 * k + 0) = nI c := by
          rcases Classical.em (u 1 (233 + 12 * k + 0) = nI c) with z | z
          · exact z
          · exact absurd (by unfold v_X6_isOpenOf; rw [if_neg z]) g2
        have hop : u 1 (233 + 12 * k + 5) = (0 : Int32) := by
          rcases Classical.em (u 1 (233 + 12 * k + 5) = (0 : Int32)) with z | z
          · exact z
          · exact absurd (by unfold v_X6_isOpenOf v_X6_is; rw [if_pos hcu, if_neg z, if_pos rfl]) g2
        obtain ⟨A, hA, p1, p3, hPY⟩ := pay_PY hm h hkn hcu (by rw [hop]; decide) hL1 hL
        have x0' : w_X1_payOn b k (nI L) (k + 7) 0 = w_X6_takesOf u k (nI L) 1 (233 + 12 * k + 5) := (hPY.2.1.2.1 k hkn).1.1
        rw [p1, p3, pk_sub hA, nI_1, Int32.add_zero, x0']
        unfold v_X6_is
        by_cases q : w_X6_takesOf u k (nI L) 1 (233 + 12 * k + 5) = (1 : Int32)
        · rw [if_pos q, if_pos q, if_pos q, if_neg (show ¬ (1 : Int32) = 0 by decide), if_neg (show ¬ (1 : Int32) = 0 by decide)]
          obtain ⟨b', u', L', t', f0, f1, f2, f3, f4, f5⟩ := ih (k + 1) _ _ (L - A) (t + 1) (by omega) hPY.1 hPY.2.1 (by omega)
          exact ⟨b', u', L', t', by omega, hPY.tr f1, f2, f3, f4, f5⟩
        · rw [if_neg q, if_neg q, if_neg q, if_pos rfl, if_pos rfl]
          obtain ⟨b', u', L', t', f0, f1, f2, f3, f4, f5⟩ := ih (k + 1) _ _ (L - A) t (by omega) hPY.1 hPY.2.1 (by omega)
          exact ⟨b', u', L', t', by omega, hPY.tr f1, f2, f3, f4, f5⟩
end PL
