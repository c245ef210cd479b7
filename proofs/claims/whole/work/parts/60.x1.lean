/-! sums that may wrap; the relation of a book and a row of the reference -/
def lS (f : Nat → Int32) : Nat → Nat → Int32
  | 0, _ => 0
  | n + 1, k => f k + lS f n (k + 1)
theorem lS_c {f g : Nat → Int32} : ∀ (n k : Nat), (∀ i, k ≤ i → i < k + n → f i = g i) → lS f n k = lS g n k := by
  intro n
  induction n with
  | zero => intro k h; rfl
  | succ n ih =>
    intro k h
    show f k + lS f n (k + 1) = g k + lS g n (k + 1)
    rw [h k (Nat.le_refl k) (by omega), ih (k + 1) (fun i h1 h2 => h i (by omega) (by omega))]
theorem lS_0 {f : Nat → Int32} : ∀ (n k : Nat), (∀ i, k ≤ i → i < k + n → f i = 0) → lS f n k = 0 := by
  intro n
  induction n with
  | zero => intro k h; rfl
  | succ n ih =>
    intro k h
    show f k + lS f n (k + 1) = 0
    rw [h k (Nat.le_refl k) (by omega), ih (k + 1) (fun i h1 h2 => h i (by omega) (by omega))]
    rfl
theorem lS_app {f : Nat → Int32} (m : Nat) : ∀ (n k : Nat), lS f (n + m) k = lS f n k + lS f m (k + n) := by
  intro n
  induction n with
  | zero =>
    intro k
    show lS f (0 + m) k = 0 + lS f m (k + 0)
    rw [Nat.zero_add, Int32.zero_add]; rfl
  | succ n ih =>
    intro k
    rw [show n + 1 + m = (n + m) + 1 by omega]
    show f k + lS f (n + m) (k + 1) = (f k + lS f n (k + 1)) + lS f m (k + (n + 1))
    rw [ih, Int32.add_assoc, show k + 1 + n = k + (n + 1) by omega]
theorem lS_cut {f : Nat → Int32} {n N : Nat} (h : n ≤ N) (hz : ∀ i, n ≤ i → i < N → f i = 0) : lS f N 0 = lS f n 0 := by
  obtain ⟨m, rfl⟩ : ∃ m, N = n + m := ⟨N - n, by omega⟩
  rw [lS_app, lS_0 m (0 + n) (fun i h1 h2 => hz i (by omega) (by omega)), Int32.add_zero]
theorem lS_up {f g : Nat → Int32} {j : Nat} : ∀ (n k : Nat), k ≤ j → j < k + n → (∀ i, k ≤ i → i < k + n → i ≠ j → g i = f i) → lS g n k = lS f n k + (g j - f j) := by
  intro n
  induction n with
  | zero => intro k h1 h2; omega
  | succ n ih =>
    intro k h1 h2 h
    show g k + lS g n (k + 1) = (f k + lS f n (k + 1)) + (g j - f j)
    by_cases e : k = j
    · subst e
      rw [lS_c (f := g) (g := f) n (k + 1) (fun i h3 h4 => h i (by omega) (by omega) (by omega))]
      grind
    · rw [ih (k + 1) (by omega) (by omega) (fun i h3 h4 => h i (by omega) (by omega)), h k (by omega) (by omega) e]
      grind
theorem acc_lS {f : Nat → Int32} {L : Nat → Nat → Int32 → Int32} (h0 : ∀ k x, L 0 k x = x) (hs : ∀ n k x, L (n + 1) k x = L n (k + 1) (x + f k)) : ∀ n k x, L n k x = x + lS f n k := by
  intro n
  induction n with
  | zero => intro k x; rw [h0]; exact (Int32.add_zero x).symm
  | succ n ih =>
    intro k x
    rw [hs, ih]
    show x + f k + lS f n (k + 1) = x + (f k + lS f n (k + 1))
    rw [Int32.add_assoc]
theorem i50 : (50 : Int32) = nI 50 := rfl
theorem i100 : (100 : Int32) = nI 100 := rfl
theorem i1 : (1 : Int32) = nI 1 := rfl
theorem i0 : (0 : Int32) = nI 0 := rfl
theorem nI_m1lt {a b : Nat} (ha : a < 2 ^ 30) (hb : b < 2 ^ 30) : nI a - (1 : Int32) < nI b ↔ a ≤ b := by
  rw [Int32.lt_iff_toInt_lt, i1, pk_sub_toInt ha (by decide), nI_toInt (by omega)]
  omega
/-- the numbers of a bill, as the reference has them -/
abbrev yR (s : Nat → Int32) (j : Nat) : Nat → Int32 := fun k => s (233 + 12 * j + k)
def BN (y : Nat → Int32) (d cu ne ra wr du st pd dc fe rm lt : Nat) : Prop :=
  (y 0 = nI cu ∧ y 1 = nI ne ∧ y 2 = nI ra ∧ y 3 = nI wr ∧ y 4 = nI du ∧ y 5 = nI st ∧ y 6 = nI pd ∧ y 7 = nI dc ∧ y 8 = nI fe ∧ y 9 = nI rm ∧ y 10 = nI lt) ∧
  (cu < 8 ∧ 1 ≤ ne ∧ ne ≤ 9999 ∧ ra ≤ 40 ∧ wr ≤ d ∧ du ≤ 99 ∧ st ≤ 2 ∧ rm ≤ 3 ∧ lt ≤ d ∧ fe ≤ 300 * rm ∧ ne * ra ≤ 399960) ∧
  pd + dc ≤ ne + (ne * ra + 50) / 100 + fe ∧ (st = 1 ↔ pd + dc = ne + (ne * ra + 50) / 100 + fe)
def BX (x y : Nat → Int32) : Prop := x 0 = y 5 ∧ x 1 = y 0 ∧ x 2 = y 1 ∧ x 3 = y 2 ∧ x 4 = ((y 1 * y 2) + (50 : Int32)) / (100 : Int32) ∧ x 5 = y 1 + ((y 1 * y 2) + (50 : Int32)) / (100 : Int32) ∧ x 6 = y 3 ∧ x 7 = y 4 ∧ x 8 = y 6 ∧ x 9 = y 7 ∧ x 10 = y 8 ∧ x 11 = y 9 ∧ x 12 = y 10 ∧ x 13 = y 11
def BL (x y : Nat → Int32) (d : Nat) : Prop := BX x y ∧ ∃ cu ne ra wr du st pd dc fe rm lt : Nat, BN y d cu ne ra wr du st pd dc fe rm lt
/-- a place without a bill -/
def EB (x : Nat → Int32) : Prop := x 0 = (-1 : Int32) ∧ (∀ k, 1 ≤ k → k < 13 → x k = 0) ∧ x 13 = (-5 : Int32)
def SE (s : Nat → Int32) (e p w f t : Nat) : Prop := (s 1 = nI e ∧ s 2 = nI p ∧ s 3 = nI w ∧ s 4 = nI f ∧ s 5 = nI t) ∧ e ≤ 99 ∧ p ≤ 20 ∧ 1 ≤ w ∧ w ≤ 99 ∧ f ≤ 99 ∧ t ≤ 1
def HB (b : Nat → Nat → Int32) (s : Nat → Int32) (n d : Nat) : Prop :=
  (s 6 = nI n ∧ n ≤ 40) ∧ (s 0 = nI d ∧ d ≤ 9999 ∧ b 0 5 = s 0) ∧ (b 0 6 = s 8 ∧ ∃ c : Nat, c ≤ 100 ∧ s 8 = nI c) ∧ b 0 7 = s 7 ∧
  (∀ k, k < 5 → b 6 k = s (1 + k)) ∧ (∃ e p w f t : Nat, SE s e p w f t) ∧
  (∀ c, c < 8 → b 2 c = s (9 + c) ∧ ∃ v : Nat, v ≤ 999999 ∧ s (9 + c) = nI v) ∧ (∀ y, y < 100 → b 3 y = s (25 + y)) ∧ ∀ y, y < 100 → b 4 y = s (125 + y)
def BR0 (b : Nat → Nat → Int32) (s : Nat → Int32) (n d : Nat) : Prop := HB b s n d ∧ (∀ j, j < n → BL (b (j + 7)) (yR s j) d) ∧ ∀ j, n ≤ j → j < 40 → EB (b (j + 7))
theorem BN_o {y : Nat → Int32} {d cu ne ra wr du st pd dc fe rm lt : Nat} (h : BN y d cu ne ra wr du st pd dc fe rm lt) : ((y 1 + ((y 1 * y 2) + (50 : Int32)) / (100 : Int32) + y 8) - y 6) - y 7 = nI (ne + (ne * ra + 50) / 100 + fe - pd - dc) := by
  obtain ⟨⟨h0, h1, h2, h3, h4, h5, h6, h7, h8, h9, h10⟩, ⟨g0, g1, g2, g3, g4, g5, g6, g7, g8, g9, g10⟩, k1, k2⟩ := h
  rw [h1, h2, h8, h6, h7, pk_mul, i50, nI_add, i100, pk_div (by omega) (by decide) (by decide), nI_add, nI_add, pk_sub (by omega), pk_sub (by omega)]
theorem BN_s {y : Nat → Int32} {d cu ne ra wr du st pd dc fe rm lt : Nat} (h : BN y d cu ne ra wr du st pd dc fe rm lt) : y 1 + ((y 1 * y 2) + (50 : Int32)) / (100 : Int32) = nI (ne + (ne * ra + 50) / 100) := by
  obtain ⟨⟨h0, h1, h2, h3, h4, h5, h6, h7, h8, h9, h10⟩, ⟨g0, g1, g2, g3, g4, g5, g6, g7, g8, g9, g10⟩, k1, k2⟩ := h
  rw [h1, h2, pk_mul, i50, nI_add, i100, pk_div (by omega) (by decide) (by decide), nI_add]
section BRs
variable {b : Nat → Nat → Int32} {u : Nat → Nat → Int32} {n d j : Nat}
theorem BR_owed (h : BR0 b (u 1) n d) (hj : j < n) : v_X0_owed b j = v_X6_owedOn u j := by
  obtain ⟨⟨x0, x1, x2, x3, x4, x5, x6, x7, x8, x9, x10, x11, x12, x13⟩, -⟩ := h.2.1 j hj
  unfold v_X0_owed
  rw [x5, x10, x8, x9]
  rfl
theorem ow_y : v_X6_owedOn u j = ((yR (u 1) j 1 + ((yR (u 1) j 1 * yR (u 1) j 2) + (50 : Int32)) / (100 : Int32) + yR (u 1) j 8) - yR (u 1) j 6) - yR (u 1) j 7 := rfl
theorem su_y : v_X6_sumOf u j = yR (u 1) j 1 + ((yR (u 1) j 1 * yR (u 1) j 2) + (50 : Int32)) / (100 : Int32) := rfl
theorem BR_owedN (h : BR0 b (u 1) n d) (hj : j < n) {cu ne ra wr du st pd dc fe rm lt : Nat} (hN : BN (yR (u 1) j) d cu ne ra wr du st pd dc fe rm lt) : v_X6_owedOn u j = nI (ne + (ne * ra + 50) / 100 + fe - pd - dc) := ow_y.trans (BN_o hN)
theorem BR_disc (h : BR0 b (u 1) n d) (hj : j < n) : v_X1_discountOn b j = v_X6_discountOf u j := by
  have ho := BR_owed h hj
  obtain ⟨⟨x0, x1, x2, x3, x4, x5, x6, x7, x8, x9, x10, x11, x12, x13⟩, cu, ne, ra, wr, du, st, pd, dc, fe, rm, lt, hN⟩ := h.2.1 j hj
  have hO2 := (ow_y (u := u) (j := j)).trans (BN_o hN)
  have hS2 := (su_y (u := u) (j := j)).trans (BN_s hN)
  obtain ⟨⟨h0, h1, h2, h3, h4, h5, h6, h7, h8, h9, h10⟩, ⟨g0, g1, g2, g3, g4, g5, g6, g7, g8, g9, g10⟩, k1, k2⟩ := hN
  obtain ⟨a1, ⟨a2, a3, a4⟩, a5, a6, a7, ⟨e, p, w, f, t, ⟨q1, q2, q3, q4, q5⟩, r1, r2, r3, r4, r5, r6⟩, a9, a10, a11⟩ := h.1
  unfold v_X1_discountOn v_X6_discountOf v_X3_discountDays v_X3_discountPercent v_X6_daysSince
  have e9 : u 1 (233 + 12 * j + 9) = nI rm := h9
  have e11 : b (j + 7) 11 = nI rm := x11.trans h9
  have e0 : b 6 0 = u 1 1 := a7 0 (by decide)
  have e1 : b 6 1 = u 1 2 := a7 1 (by decide)
  have e6 : b (j + 7) 6 = u 1 (233 + 12 * j + 3) := x6
  have e5 : b (j + 7) 5 = v_X6_sumOf u j := x5
  rw [ho, e9, e11, e0, e1, e5, e6, a4]
  by_cases c1 : rm = 0
  · rw [c1, if_neg (show ¬ (0 : Int32) < nI 0 by decide), if_pos (show nI 0 = (0 : Int32) from rfl)]
    by_cases c2 : u 1 1 < u 1 0 - u 1 (233 + 12 * j + 3)
    · rw [if_pos c2, if_neg (Int32.not_le.mpr c2)]
    · rw [if_neg c2, if_pos (Int32.not_lt.mp c2)]
      have hm : (ne + (ne * ra + 50) / 100) * p ≤ 13999 * 20 := Nat.mul_le_mul (by omega) (by omega)
      have eP : (v_X6_sumOf u j * u 1 2) / (100 : Int32) = nI ((ne + (ne * ra + 50) / 100) * p / 100) := by
        rw [hS2, q2, pk_mul, i100, pk_div (by omega) (by decide) (by decide)]
      rw [eP, hO2]
      by_cases c3 : ne + (ne * ra + 50) / 100 + fe - pd - dc ≤ (ne + (ne * ra + 50) / 100) * p / 100
      · rw [if_pos ((nI_m1lt (by omega) (by omega)).mpr c3), if_pos ((nI_leI (by omega) (by omega)).mpr c3)]
      · rw [if_neg (fun z => c3 ((nI_m1lt (by omega) (by omega)).mp z)), if_neg (fun z => c3 ((nI_leI (by omega) (by omega)).mp z))]
  · rw [if_pos (show (0 : Int32) < nI rm from (nI_ltI (a := 0) (by decide) (by omega)).mpr (by omega)), if_neg (nI_ne0 (by omega) (by omega))]
theorem BR_discN (h : BR0 b (u 1) n d) {cu ne ra wr du st pd dc fe rm lt : Nat} (hN : BN (yR (u 1) j) d cu ne ra wr du st pd dc fe rm lt) (hO : 0 < ne + (ne * ra + 50) / 100 + fe - pd - dc) : ∃ D : Nat, D < ne + (ne * ra + 50) / 100 + fe - pd - dc ∧ v_X6_discountOf u j = nI D := by
  have hO2 := (ow_y (u := u) (j := j)).trans (BN_o hN)
  have hS2 := (su_y (u := u) (j := j)).trans (BN_s hN)
  obtain ⟨⟨h0, h1, h2, h3, h4, h5, h6, h7, h8, h9, h10⟩, ⟨g0, g1, g2, g3, g4, g5, g6, g7, g8, g9, g10⟩, k1, k2⟩ := hN
  obtain ⟨a1, ⟨a2, a3, a4⟩, a5, a6, a7, ⟨e, p, w, f, t, ⟨q1, q2, q3, q4, q5⟩, r1, r2, r3, r4, r5, r6⟩, a9, a10, a11⟩ := h.1
  have hm : (ne + (ne * ra + 50) / 100) * p ≤ 13999 * 20 := Nat.mul_le_mul (by omega) (by omega)
  have eP : (v_X6_sumOf u j * u 1 2) / (100 : Int32) = nI ((ne + (ne * ra + 50) / 100) * p / 100) := by
    rw [hS2, q2, pk_mul, i100, pk_div (by omega) (by decide) (by decide)]
  unfold v_X6_discountOf
  split
  · split
    · exact ⟨0, hO, rfl⟩
    · rw [eP, hO2]
      split
      · exact ⟨ne + (ne * ra + 50) / 100 + fe - pd - dc - 1, by omega, by rw [i1, pk_sub (by omega)]⟩
      · rename_i c
        exact ⟨(ne + (ne * ra + 50) / 100) * p / 100, Nat.not_le.mp (fun z => c ((nI_leI (by omega) (by omega)).mpr z)), rfl⟩
  · exact ⟨0, hO, rfl⟩
end BRs
