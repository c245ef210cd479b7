/-! the mathematics of the property: sums that may wrap, the pages of a book, one bill -/
def lS (f : Nat → Int32) : Nat → Nat → Int32
  | 0, _ => 0
  | n + 1, k => f k + lS f n (k + 1)
theorem lS_c {f g : Nat → Int32} : ∀ (n k : Nat), (∀ i, k ≤ i → i < k + n → f i = g i) → lS f n k = lS g n k := by
  intro n
  induction n with
  | zero => intro k h; rfl
  | succ n ih =>
    intro k h
    show f k + lS f n (k + 1) = g k + lS g n (k + 1)
    rw [h k (Nat.le_refl k) (by omega), ih (k + 1) (fun i h1 h2 => h i (by omega) (by omega))]
theorem lS_0 {f : Nat → Int32} : ∀ (n k : Nat), (∀ i, k ≤ i → i < k + n → f i = 0) → lS f n k = 0 := by
  intro n
  induction n with
  | zero => intro k h; rfl
  | succ n ih =>
    intro k h
    show f k + lS f n (k + 1) = 0
    rw [h k (Nat.le_refl k) (by omega), ih (k + 1) (fun i h1 h2 => h i (by omega) (by omega))]
    rfl
theorem lS_app {f : Nat → Int32} (m : Nat) : ∀ (n k : Nat), lS f (n + m) k = lS f n k + lS f m (k + n) := by
  intro n
  induction n with
  | zero =>
    intro k
    show lS f (0 + m) k = 0 + lS f m (k + 0)
    rw [Nat.zero_add, Int32.zero_add]; rfl
  | succ n ih =>
    intro k
    rw [show n + 1 + m = (n + m) + 1 by omega]
    show f k + lS f (n + m) (k + 1) = (f k + lS f n (k + 1)) + lS f m (k + (n + 1))
    rw [ih, Int32.add_assoc, show k + 1 + n = k + (n + 1) by omega]
theorem lS_cut {f : Nat → Int32} {n N : Nat} (h : n ≤ N) (hz : ∀ i, n ≤ i → i < N → f i = 0) : lS f N 0 = lS f n 0 := by
  obtain ⟨m, rfl⟩ : ∃ m, N = n + m := ⟨N - n, by omega⟩
  rw [lS_app, lS_0 m (0 + n) (fun i h1 h2 => hz i (by omega) (by omega)), Int32.add_zero]
theorem lS_up {f g : Nat → Int32} {j : Nat} : ∀ (n k : Nat), k ≤ j → j < k + n → (∀ i, k ≤ i → i < k + n → i ≠ j → g i = f i) → lS g n k = lS f n k + (g j - f j) := by
  intro n
  induction n with
  | zero => intro k h1 h2; omega
  | succ n ih =>
    intro k h1 h2 h
    show g k + lS g n (k + 1) = (f k + lS f n (k + 1)) + (g j - f j)
    by_cases e : k = j
    · subst e
      rw [lS_c (f := g) (g := f) n (k + 1) (fun i h3 h4 => h i (by omega) (by omega) (by omega))]
      grind
    · rw [ih (k + 1) (by omega) (by omega) (fun i h3 h4 => h i (by omega) (by omega)), h k (by omega) (by omega) e]
      grind
theorem acc_lS {f : Nat → Int32} {L : Nat → Nat → Int32 → Int32} (h0 : ∀ k x, L 0 k x = x) (hs : ∀ n k x, L (n + 1) k x = L n (k + 1) (x + f k)) : ∀ n k x, L n k x = x + lS f n k := by
  intro n
  induction n with
  | zero => intro k x; rw [h0]; exact (Int32.add_zero x).symm
  | succ n ih =>
    intro k x
    rw [hs, ih]
    show x + f k + lS f n (k + 1) = x + (f k + lS f n (k + 1))
    rw [Int32.add_assoc]
theorem i50 : (50 : Int32) = nI 50 := rfl
theorem i100 : (100 : Int32) = nI 100 := rfl
theorem i1 : (1 : Int32) = nI 1 := rfl
theorem i0 : (0 : Int32) = nI 0 := rfl
theorem nI_m1lt {a b : Nat} (ha : a < 2 ^ 30) (hb : b < 2 ^ 30) : nI a - (1 : Int32) < nI b ↔ a ≤ b := by
  rw [Int32.lt_iff_toInt_lt, i1, pk_sub_toInt ha (by decide), nI_toInt (by omega)]
  omega
theorem lS_1 : ∀ (n k : Nat), lS (fun _ => (1 : Int32)) n k = nI n := by
  intro n
  induction n with
  | zero => intro k; rfl
  | succ n ih =>
    intro k
    show (1 : Int32) + lS _ n (k + 1) = _
    rw [ih, i1, nI_add, Nat.add_comm]
def nS (f : Nat → Nat) : Nat → Nat → Nat
  | 0, _ => 0
  | n + 1, k => f k + nS f n (k + 1)
theorem nS_c {f g : Nat → Nat} : ∀ (n k : Nat), (∀ i, k ≤ i → i < k + n → f i = g i) → nS f n k = nS g n k := by
  intro n
  induction n with
  | zero => intro k h; rfl
  | succ n ih =>
    intro k h
    show f k + nS f n (k + 1) = g k + nS g n (k + 1)
    rw [h k (Nat.le_refl k) (by omega), ih (k + 1) (fun i h1 h2 => h i (by omega) (by omega))]
theorem nS_mo {f g : Nat → Nat} : ∀ (n k : Nat), (∀ i, k ≤ i → i < k + n → f i ≤ g i) → nS f n k ≤ nS g n k := by
  intro n
  induction n with
  | zero => intro k h; exact Nat.le_refl _
  | succ n ih =>
    intro k h
    show f k + nS f n (k + 1) ≤ g k + nS g n (k + 1)
    have h1 := h k (Nat.le_refl k) (by omega)
    have h2 := ih (k + 1) (fun i h1 h2 => h i (by omega) (by omega))
    omega
theorem nS_le {f : Nat → Nat} {B : Nat} : ∀ (n k : Nat), (∀ i, k ≤ i → i < k + n → f i ≤ B) → nS f n k ≤ n * B := by
  intro n
  induction n with
  | zero => intro k h; exact Nat.zero_le _
  | succ n ih =>
    intro k h
    show f k + nS f n (k + 1) ≤ (n + 1) * B
    have h1 := h k (Nat.le_refl k) (by omega)
    have h2 := ih (k + 1) (fun i h1 h2 => h i (by omega) (by omega))
    rw [Nat.succ_mul]
    omega
theorem nS_up {f g : Nat → Nat} {j : Nat} : ∀ (n k : Nat), k ≤ j → j < k + n → (∀ i, k ≤ i → i < k + n → i ≠ j → g i = f i) → nS g n k + f j = nS f n k + g j := by
  intro n
  induction n with
  | zero => intro k h1 h2; omega
  | succ n ih =>
    intro k h1 h2 h
    show g k + nS g n (k + 1) + f j = f k + nS f n (k + 1) + g j
    by_cases e : k = j
    · subst e
      rw [nS_c (f := g) (g := f) n (k + 1) (fun i h3 h4 => h i (by omega) (by omega) (by omega))]
      omega
    · have h3 := ih (k + 1) (by omega) (by omega) (fun i h3 h4 => h i (by omega) (by omega))
      rw [h k (by omega) (by omega) e]
      omega
theorem lS_nI {f : Nat → Int32} {g : Nat → Nat} : ∀ (n k : Nat), (∀ i, k ≤ i → i < k + n → f i = nI (g i)) → lS f n k = nI (nS g n k) := by
  intro n
  induction n with
  | zero => intro k h; rfl
  | succ n ih =>
    intro k h
    show f k + lS f n (k + 1) = nI (g k + nS g n (k + 1))
    rw [h k (Nat.le_refl k) (by omega), ih (k + 1) (fun i h1 h2 => h i (by omega) (by omega)), nI_add]
theorem lS_add {f g : Nat → Int32} : ∀ (n k : Nat), lS (fun i => f i + g i) n k = lS f n k + lS g n k := by
  intro n
  induction n with
  | zero => intro k; rfl
  | succ n ih =>
    intro k
    show (f k + g k) + lS _ n (k + 1) = (f k + lS f n (k + 1)) + (g k + lS g n (k + 1))
    rw [ih]
    grind
/-- two sums, one within the other, the other way round -/
theorem lS_sw {f : Nat → Nat → Int32} : ∀ (m k n q : Nat), lS (fun c => lS (f c) n q) m k = lS (fun i => lS (fun c => f c i) m k) n q := by
  intro m
  induction m with
  | zero =>
    intro k n q
    exact (lS_0 n q (fun _ _ _ => rfl)).symm
  | succ m ih =>
    intro k n q
    show lS (f k) n q + lS (fun c => lS (f c) n q) m (k + 1) = lS (fun i => f k i + lS (fun c => f c i) m (k + 1)) n q
    rw [ih, lS_add]
theorem lS_one {f : Nat → Int32} {j : Nat} {v : Int32} : ∀ (n k : Nat), k ≤ j → j < k + n → (∀ i, k ≤ i → i < k + n → i ≠ j → f i = 0) → f j = v → lS f n k = v := by
  intro n k h1 h2 h3 h4
  have h := lS_up (f := fun _ => 0) (g := f) (j := j) n k h1 h2 h3
  rw [lS_0 n k (fun _ _ _ => rfl), h4] at h
  rw [h, Int32.zero_add]
  grind
theorem nI_gt0 {n : Nat} (h : 0 < n) (hn : n < 2 ^ 31) : (0 : Int32) < nI n := (nI_ltI (a := 0) (by decide) hn).mpr h
theorem nn {k : Nat} (hk : k < 2 ^ 31) : ¬ nI k < 0 := nI_pos hk
theorem nI_nm {k : Nat} (hk : k < 2 ^ 31) {v : Int32} (hv : v < 0) : ¬ nI k = v := fun z => absurd hv (z ▸ nI_pos hk)
theorem nI_nm' {k : Nat} (hk : k < 2 ^ 31) {v : Int32} (hv : v < 0) : ¬ v = nI k := fun z => nI_nm hk hv z.symm
theorem nI_m9 {k : Nat} (hk : k < 2 ^ 31) : ¬ nI k = (-9 : Int32) := nI_nm hk (by decide)
theorem le_succ {x : Int32} {a b : Int32} (h : a.toInt = b.toInt + 1) : a ≤ x ↔ b < x := by
  rw [Int32.le_iff_toInt_le, Int32.lt_iff_toInt_lt]
  omega
section PY
variable {b : Nat → Nat → Int32} {n d j : Nat} {A D t : Int32}
theorem tm_o {i : Nat} (h : i ≠ j + 7) : w_X0_takeMoney b j A D t i = b i := by
  unfold w_X0_takeMoney
  split <;> simp (disch := omega) only [up_oi]
theorem tm_k {k : Nat} (h0 : k ≠ 0) (h8 : k ≠ 8) (h9 : k ≠ 9) (h13 : k ≠ 13) : w_X0_takeMoney b j A D t (j + 7) k = b (j + 7) k := by
  unfold w_X0_takeMoney
  split <;> simp (disch := omega) only [up_nk]
theorem tm_8 : w_X0_takeMoney b j A D t (j + 7) 8 = b (j + 7) 8 + A := by
  unfold w_X0_takeMoney
  split <;> simp (disch := omega) only [up_nk, up_same]
theorem tm_9 : w_X0_takeMoney b j A D t (j + 7) 9 = b (j + 7) 9 + D := by
  unfold w_X0_takeMoney
  split <;> simp (disch := omega) only [up_nk, up_same]
theorem tm_13 : w_X0_takeMoney b j A D t (j + 7) 13 = t := by
  unfold w_X0_takeMoney
  split <;> simp (disch := omega) only [up_nk, up_same]
theorem tm_0 : w_X0_takeMoney b j A D t (j + 7) 0 = if 0 < ((b (j + 7) 5 + b (j + 7) 10) - (b (j + 7) 8 + A)) - (b (j + 7) 9 + D) then b (j + 7) 0 else (1 : Int32) := by
  have e : v_X0_owed (up (up (up b (j + 7) 8 ((b (j + 7) 8) + A)) (j + 7) 9 ((b (j + 7) 9) + D)) (j + 7) 13 t) j = ((b (j + 7) 5 + b (j + 7) 10) - (b (j + 7) 8 + A)) - (b (j + 7) 9 + D) := by
    unfold v_X0_owed
    simp (disch := omega) only [up_nk, up_same]
  unfold w_X0_takeMoney
  rw [e]
  split <;> simp (disch := omega) only [up_nk, up_same]
def payW (b : Nat → Nat → Int32) (j : Nat) (A D : Int32) (y : Nat) : Nat → Nat → Int32 := up (w_X0_takeMoney b j A D (b 0 5)) 3 y (b 3 y + v_X0_taxIn b j A)
theorem isYear1 {k : Nat} (h : k < 100) : ¬ v_X5_isYear (nI k) = 0 := by
  unfold v_X5_isYear
  rw [if_neg (nI_pos (by omega)), if_neg (show ¬ (100 : Int32) ≤ nI k from fun z => absurd ((nI_leI (a := 100) (by decide) (by omega)).mp z) (by omega))]
  decide
theorem payC {L O D : Nat} (ho : v_X0_owed b j = nI O) (hd : v_X1_discountOn b j = nI D) (hD : D < O) (hO : O < 2 ^ 30) (hL : 1 ≤ L) (hL2 : L < 2 ^ 30) (hday : b 0 5 = nI d) (hd9 : d ≤ 9999) :
    v_X1_payOn b j (nI L) = nI (if L < O - D then L else O - D) ∧ w_X1_payOn b j (nI L) = payW b j (nI (if L < O - D then L else O - D)) (nI (if L < O - D then 0 else D)) (d / 100) := by
  have e1 : (0 : Int32) < nI L := (nI_ltI (a := 0) (by decide) (by omega)).mpr (by omega)
  have eT : ∀ A D t : Int32, w_X0_takeMoney b j A D t 0 5 = b 0 5 := fun A D t => congrFun (tm_o (by omega)) 5
  have e3 : ∀ (A D t : Int32) (k : Nat), w_X0_takeMoney b j A D t 3 k = b 3 k := fun A D t k => congrFun (tm_o (by omega)) k
  have ex : ∀ A D t : Int32, v_X0_taxIn (w_X0_takeMoney b j A D t) j A = v_X0_taxIn b j A := fun A D t => by
    unfold v_X0_taxIn
    rw [tm_k (by decide) (by decide) (by decide) (by decide)]
  have ey : (nI d) / (100 : Int32) = nI (d / 100) := by rw [i100, pk_div (by omega) (by decide) (by decide)]
  have ec : (nI (d / 100)).toNatClampNeg = d / 100 := nI_clamp (by omega)
  have eS : v_X0_owed b j - v_X1_discountOn b j = nI (O - D) := by rw [ho, hd, pk_sub (by omega)]
  unfold v_X1_payOn w_X1_payOn
  rw [if_pos e1, if_pos e1, eS]
  simp only [eT, e3, ex, hday, ey, ec, ite_self]
  by_cases c : L < O - D
  · rw [if_pos ((nI_ltI (by omega) (by omega)).mpr c), if_pos ((nI_ltI (by omega) (by omega)).mpr c), if_pos c, if_pos c, if_neg (isYear1 (by omega))]
    exact ⟨rfl, by unfold payW; rw [hday]; rfl⟩
  · rw [if_neg (fun z => c ((nI_ltI (by omega) (by omega)).mp z)), if_neg (fun z => c ((nI_ltI (by omega) (by omega)).mp z)), if_neg c, if_neg c, if_neg (isYear1 (by omega)), hd]
    exact ⟨rfl, by unfold payW; rw [hday]⟩
end PY
def cpE (b b1 : Nat → Nat → Int32) : Prop := (∀ k, 5 ≤ k → k < 8 → b 0 k = b1 0 k) ∧ (∀ k, k < 8 → b 2 k = b1 2 k) ∧ (∀ k, k < 100 → b 3 k = b1 3 k) ∧ (∀ k, k < 100 → b 4 k = b1 4 k) ∧ (∀ k, k < 5 → b 6 k = b1 6 k) ∧ ∀ j, j < 40 → ∀ k, k < 14 → b (j + 7) k = b1 (j + 7) k
theorem wB_r {z : CS} {r t k : Nat} {v : Int32} : (wB z r t k v).2 r = up (z.2 r) t k v := upP_same
theorem wB_ne {z : CS} {r t k q : Nat} {v : Int32} (h : q ≠ r) : (wB z r t k v).2 q = z.2 q := upP_ne h
theorem wC_r {z : CS} {r t r1 N : Nat} : (wC z r t r1 N).2 r = upI (z.2 r) t (va_cpy (z.2 r1 t) (z.2 r t) 0 0 N) := upP_same
theorem wC_ne {z : CS} {r t r1 N q : Nat} (h : q ≠ r) : (wC z r t r1 N).2 q = z.2 q := upP_ne h
theorem cp0_ne {z : CS} {r j r1 j1 q : Nat} (h : q ≠ r) : (w_X0_copyFrom z r j r1 j1).2 q = z.2 q := by
  unfold w_X0_copyFrom
  simp (disch := assumption) only [wB_ne]
theorem cp0_1 {z : CS} {r j r1 j1 : Nat} : (w_X0_copyFrom z r j r1 j1).1 = z.1 := rfl
theorem cp0_o {z : CS} {r j r1 j1 i : Nat} (h : i ≠ j + 7) : (w_X0_copyFrom z r j r1 j1).2 r i = z.2 r i := by
  unfold w_X0_copyFrom
  simp (disch := assumption) only [wB_r, up_oi]
theorem cp0_k {z : CS} {r j r1 j1 k : Nat} (hk : k < 14) : (w_X0_copyFrom z r j r1 j1).2 r (j + 7) k = z.2 r1 (j1 + 7) k := by
  unfold w_X0_copyFrom
  simp only [wB_r]
  rcases (show k = 0 ∨ k = 1 ∨ k = 2 ∨ k = 3 ∨ k = 4 ∨ k = 5 ∨ k = 6 ∨ k = 7 ∨ k = 8 ∨ k = 9 ∨ k = 10 ∨ k = 11 ∨ k = 12 ∨ k = 13 by omega) with rfl | rfl | rfl | rfl | rfl | rfl | rfl | rfl | rfl | rfl | rfl | rfl | rfl | rfl <;> simp (disch := decide) only [up_nk, up_same]
def cpEnd (z : CS) (r r1 : Nat) : CS := wB (wB (wB (w_X3_copyFrom (wC (wC (wC z r 2 r1 8) r 3 r1 100) r 4 r1 100) r r1) r 0 5 ((w_X3_copyFrom (wC (wC (wC z r 2 r1 8) r 3 r1 100) r 4 r1 100) r r1).2 r1 0 5)) r 0 6 ((wB (w_X3_copyFrom (wC (wC (wC z r 2 r1 8) r 3 r1 100) r 4 r1 100) r r1) r 0 5 ((w_X3_copyFrom (wC (wC (wC z r 2 r1 8) r 3 r1 100) r 4 r1 100) r r1).2 r1 0 5)).2 r1 0 6)) r 0 7 ((wB (wB (w_X3_copyFrom (wC (wC (wC z r 2 r1 8) r 3 r1 100) r 4 r1 100) r r1) r 0 5 ((w_X3_copyFrom (wC (wC (wC z r 2 r1 8) r 3 r1 100) r 4 r1 100) r r1).2 r1 0 5)) r 0 6 ((wB (w_X3_copyFrom (wC (wC (wC z r 2 r1 8) r 3 r1 100) r 4 r1 100) r r1) r 0 5 ((w_X3_copyFrom (wC (wC (wC z r 2 r1 8) r 3 r1 100) r 4 r1 100) r r1).2 r1 0 5)).2 r1 0 6)).2 r1 0 7)
theorem cpEnd_ne {z : CS} {r r1 q : Nat} (h : q ≠ r) : (cpEnd z r r1).2 q = z.2 q := by
  unfold cpEnd w_X3_copyFrom
  simp (disch := assumption) only [wB_ne, wC_ne]
theorem cpEnd_b {z : CS} {r r1 i : Nat} (h0 : i ≠ 0) (h2 : i ≠ 2) (h3 : i ≠ 3) (h4 : i ≠ 4) (h6 : i ≠ 6) : (cpEnd z r r1).2 r i = z.2 r i := by
  unfold cpEnd w_X3_copyFrom
  simp (disch := assumption) only [wB_r, wC_r, up_oi, upI_ne]
theorem cpEnd_r {z : CS} {r r1 : Nat} (h : r1 ≠ r) : (∀ k, 5 ≤ k → k < 8 → (cpEnd z r r1).2 r 0 k = z.2 r1 0 k) ∧ (∀ k, k < 8 → (cpEnd z r r1).2 r 2 k = z.2 r1 2 k) ∧ (∀ k, k < 100 → (cpEnd z r r1).2 r 3 k = z.2 r1 3 k) ∧ (∀ k, k < 100 → (cpEnd z r r1).2 r 4 k = z.2 r1 4 k) ∧ ∀ k, k < 5 → (cpEnd z r r1).2 r 6 k = z.2 r1 6 k := by
  unfold cpEnd w_X3_copyFrom
  simp only [wB_r, wC_r, wB_ne h, wC_ne h]
  refine ⟨fun k g1 g2 => ?_, fun k hk => ?_, fun k hk => ?_, fun k hk => ?_, fun k hk => ?_⟩
  · rcases (show k = 5 ∨ k = 6 ∨ k = 7 by omega) with rfl | rfl | rfl <;> simp (disch := decide) only [up_nk, up_same]
  · simp (disch := decide) only [up_oi, upI_ne, upI_same]
    exact sb_cpy0 hk
  · simp (disch := decide) only [up_oi, upI_ne, upI_same]
    exact sb_cpy0 hk
  · simp (disch := decide) only [up_oi, upI_ne, upI_same]
    exact sb_cpy0 hk
  · simp (disch := decide) only [up_oi, upI_ne, upI_same]
    exact sb_cpy0 hk
theorem cp_lp {r r1 : Nat} (h : r1 ≠ r) : ∀ (m k : Nat) (z : CS), k + m = 40 → (w_X1_copyFrom_loop r r1 m k z).1 = z.1 ∧ (∀ q, q ≠ r → (w_X1_copyFrom_loop r r1 m k z).2 q = z.2 q) ∧ ((∀ i, 5 ≤ i → i < 8 → (w_X1_copyFrom_loop r r1 m k z).2 r 0 i = z.2 r1 0 i) ∧ (∀ i, i < 8 → (w_X1_copyFrom_loop r r1 m k z).2 r 2 i = z.2 r1 2 i) ∧ (∀ i, i < 100 → (w_X1_copyFrom_loop r r1 m k z).2 r 3 i = z.2 r1 3 i) ∧ (∀ i, i < 100 → (w_X1_copyFrom_loop r r1 m k z).2 r 4 i = z.2 r1 4 i) ∧ ∀ i, i < 5 → (w_X1_copyFrom_loop r r1 m k z).2 r 6 i = z.2 r1 6 i) ∧ (∀ j, j < k → (w_X1_copyFrom_loop r r1 m k z).2 r (j + 7) = z.2 r (j + 7)) ∧ ∀ j, k ≤ j → j < 40 → ∀ i, i < 14 → (w_X1_copyFrom_loop r r1 m k z).2 r (j + 7) i = z.2 r1 (j + 7) i := by
  intro m
  induction m with
  | zero =>
    intro k z hk
    exact ⟨rfl, fun q hq => cpEnd_ne hq, cpEnd_r h, fun j _ => cpEnd_b (by omega) (by omega) (by omega) (by omega) (by omega), fun j g1 g2 => absurd g2 (by omega)⟩
  | succ m ih =>
    intro k z hk
    obtain ⟨i1, i2, ⟨i3, i4, i5, i6, i7⟩, i8, i9⟩ := ih (k + 1) (w_X0_copyFrom z r k r1 k) (by omega)
    have e : w_X1_copyFrom_loop r r1 (m + 1) k z = w_X1_copyFrom_loop r r1 m (k + 1) (w_X0_copyFrom z r k r1 k) := rfl
    rw [e]
    have hr1 : (w_X0_copyFrom z r k r1 k).2 r1 = z.2 r1 := cp0_ne h
    rw [hr1] at i3 i4 i5 i6 i7
    refine ⟨i1, fun q hq => (i2 q hq).trans (cp0_ne hq), ⟨i3, i4, i5, i6, i7⟩, fun j hj => (i8 j (by omega)).trans (cp0_o (by omega)), fun j g1 g2 i hi => ?_⟩
    by_cases g : j = k
    · subst g
      rw [i8 j (by omega)]
      exact cp0_k hi
    · rw [i9 j (by omega) g2 i hi, hr1]
theorem cp_ok {z : CS} {r r1 : Nat} (h : r1 ≠ r) : (w_X1_copyFrom z r r1).1 = z.1 ∧ (∀ q, q ≠ r → (w_X1_copyFrom z r r1).2 q = z.2 q) ∧ cpE ((w_X1_copyFrom z r r1).2 r) (z.2 r1) := by
  obtain ⟨i1, i2, ⟨i3, i4, i5, i6, i7⟩, i8, i9⟩ := cp_lp h 40 0 z rfl
  exact ⟨i1, i2, i3, i4, i5, i6, i7, fun j hj => i9 j (Nat.zero_le j) hj⟩
theorem sA_1 {z : CS} (hJ : RJ z.1) : (w_X5_startAct z).1 = z.1 := (cp_ok (RJ_ne hJ (by decide) (by decide) (by decide))).1
theorem sA_0 {z : CS} (hJ : RJ z.1) : (w_X5_startAct z).2 (z.1 0) = z.2 (z.1 0) := (cp_ok (r := z.1 1) (r1 := z.1 0) (RJ_ne hJ (by decide) (by decide) (by decide))).2.1 _ (RJ_ne hJ (by decide) (by decide) (by decide))
theorem eA_v {z : CS} {p : Int32} : v_X5_endAct z p = p := by
  unfold v_X5_endAct
  rw [ite_self]
theorem wz_same {z : CS} {r : Nat} {b : Nat → Nat → Int32} : (zB z r b).2 r = b := by
  show upP z.2 r b r = b
  exact upP_same
set_option maxHeartbeats 20000 in
theorem mid0 {z y : CS} {W : Nat → Nat → Int32} (hne : z.1 0 ≠ z.1 1) (h1 : y.1 = z.1) (h2 : ∀ q, q ≠ z.1 1 → y.2 q = z.2 q) (h3 : cpE (y.2 (z.1 1)) (z.2 (z.1 0))) : (zB y (z.1 0) W).1 = z.1 ∧ (zB y (z.1 0) W).2 (z.1 0) = W ∧ (∀ q, q ≠ z.1 0 → q ≠ z.1 1 → (zB y (z.1 0) W).2 q = z.2 q) ∧ cpE ((zB y (z.1 0) W).2 (z.1 1)) (z.2 (z.1 0)) := by
  have e1 : (zB y (z.1 0) W).2 (z.1 0) = W := wz_same
  have e2 : ∀ q, q ≠ z.1 0 → (zB y (z.1 0) W).2 q = y.2 q := fun q hq => wz_ne hq
  have e3 : (zB y (z.1 0) W).1 = y.1 := rfl
  refine ⟨e3.trans h1, e1, fun q g1 g2 => (e2 q g1).trans (h2 q g2), ?_⟩
  rw [e2 _ (Ne.symm hne)]
  exact h3
theorem mid {z : CS} {W : Nat → Nat → Int32} (hI : RI z.1) (hJ : RJ z.1) : (zB (w_X5_startAct z) (z.1 0) W).1 = z.1 ∧ (zB (w_X5_startAct z) (z.1 0) W).2 (z.1 0) = W ∧ (∀ q, q ≠ z.1 0 → q ≠ z.1 1 → (zB (w_X5_startAct z) (z.1 0) W).2 q = z.2 q) ∧ cpE ((zB (w_X5_startAct z) (z.1 0) W).2 (z.1 1)) (z.2 (z.1 0)) := by
  have hne : z.1 0 ≠ z.1 1 := RJ_ne hJ (by decide) (by decide) (by decide)
  obtain ⟨h1, h2, h3⟩ := cp_ok (z := z) hne
  exact mid0 hne h1 h2 h3
/-- the pages in the middle of an act, said of them alone -/
def MD (z y : CS) (W : Nat → Nat → Int32) : Prop := y.1 = z.1 ∧ y.2 (z.1 0) = W ∧ (∀ q, q ≠ z.1 0 → q ≠ z.1 1 → y.2 q = z.2 q) ∧ cpE (y.2 (z.1 1)) (z.2 (z.1 0))
