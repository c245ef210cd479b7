/-! the other acts on a book -/
section AC
variable {b b' : Nat → Nat → Int32} {n d j : Nat}
theorem billAt_cs (h : KI b n d) (x : Int32) : v_X1_billAt b x = none ∨ ∃ k : Nat, k < n ∧ x = nI k ∧ v_X1_billAt b x = some k := by
  have hn : n ≤ 40 := h.1.1
  unfold v_X1_billAt
  rcases pk_ix x (n := 40) (by decide) with h1 | h1 | ⟨k, hk, rfl⟩
  · left; rw [if_pos h1]
  · left
    by_cases h0 : x < 0
    · rw [if_pos h0]
    · rw [if_neg h0, if_pos (show (40 : Int32) ≤ x from h1)]
  · rw [if_neg (nI_pos (by omega)), if_neg (show ¬ (40 : Int32) ≤ nI k from nI_ge (b := 40) hk (by decide)), nI_clamp (by omega)]
    by_cases c : k < n
    · right
      obtain ⟨st, cu, ne, tx, ra, wr, du, pd, dc, fe, rm, lt, lp, ⟨h0, -⟩, ⟨g0, -⟩, -⟩ := h.2.2.2.2.2.1 k c
      rw [h0, if_neg (nI_nm (by omega) (by decide))]
      exact ⟨k, c, rfl, rfl⟩
    · left
      rw [if_pos (h.2.2.2.2.2.2 k (by omega) hk).1]
theorem billAt_1 (h : KI b n d) (hj : j < n) : v_X1_billAt b (nI j) = some j := by
  have hn : n ≤ 40 := h.1.1
  unfold v_X1_billAt
  obtain ⟨st, cu, ne, tx, ra, wr, du, pd, dc, fe, rm, lt, lp, ⟨h0, -⟩, ⟨g0, -⟩, -⟩ := h.2.2.2.2.2.1 j hj
  rw [if_neg (nI_pos (by omega)), if_neg (show ¬ (40 : Int32) ≤ nI j from nI_ge (b := 40) (by omega) (by decide)), nI_clamp (by omega), h0, if_neg (nI_nm (by omega) (by decide))]
theorem billAt_0 (h : KI b n d) : v_X1_billAt b (nI n) = none := by
  have hn : n ≤ 40 := h.1.1
  unfold v_X1_billAt
  rw [if_neg (nI_pos (by omega))]
  by_cases g : n = 40
  · rw [if_pos (show (40 : Int32) ≤ nI n from nI_le (a := 40) (by omega) (by omega))]
  · rw [if_neg (show ¬ (40 : Int32) ≤ nI n from nI_ge (b := 40) (by omega) (by decide)), nI_clamp (by omega), if_pos (h.2.2.2.2.2.2 n (Nat.le_refl n) (by omega)).1]
/-- a new bill -/
theorem wr_o {p1 p2 p3 p4 p5 : Int32} {i : Nat} (h : i ≠ j + 7) : w_X0_write b j p1 p2 p3 p4 p5 i = b i := by
  unfold w_X0_write
  simp (disch := omega) only [up_oi]
theorem wr_k {p1 p2 p3 p4 p5 : Int32} {k : Nat} (h : 8 ≤ k) : w_X0_write b j p1 p2 p3 p4 p5 (j + 7) k = b (j + 7) k := by
  unfold w_X0_write
  simp (disch := omega) only [up_nk]
theorem wr_s {p1 p2 p3 p4 p5 : Int32} : w_X0_write b j p1 p2 p3 p4 p5 (j + 7) 0 = (0 : Int32) ∧ w_X0_write b j p1 p2 p3 p4 p5 (j + 7) 1 = p1 ∧ w_X0_write b j p1 p2 p3 p4 p5 (j + 7) 2 = p2 ∧ w_X0_write b j p1 p2 p3 p4 p5 (j + 7) 3 = p3 ∧ w_X0_write b j p1 p2 p3 p4 p5 (j + 7) 4 = ((p2 * p3) + (50 : Int32)) / (100 : Int32) ∧ w_X0_write b j p1 p2 p3 p4 p5 (j + 7) 5 = p2 + ((p2 * p3) + (50 : Int32)) / (100 : Int32) ∧ w_X0_write b j p1 p2 p3 p4 p5 (j + 7) 6 = p4 ∧ w_X0_write b j p1 p2 p3 p4 p5 (j + 7) 7 = p5 := by
  unfold w_X0_write
  refine ⟨?_, ?_, ?_, ?_, ?_, ?_, ?_, ?_⟩ <;> simp (disch := omega) only [up_nk, up_same]
theorem KI_wr (h : KI b n d) (hn : n < 40) {c ne ra du : Nat} (hc : c < 8) (h1 : 1 ≤ ne) (h2 : ne ≤ 9999) (h3 : ra ≤ 40) (h4 : du ≤ 99) : KI (w_X0_write b n (nI c) (nI ne) (nI ra) (b 0 5) (nI du)) (n + 1) d := by
  obtain ⟨⟨a1, a2, a3⟩, ⟨y, a4, a5, a6⟩, a7, a8, a9, a10, a11⟩ := h
  have hr : ∀ i, i ≠ n + 7 → w_X0_write b n (nI c) (nI ne) (nI ra) (b 0 5) (nI du) i = b i := fun i hi => wr_o hi
  obtain ⟨z0, zz, z13⟩ := a11 n (Nat.le_refl n) hn
  obtain ⟨s0, s1, s2, s3, s4, s5, s6, s7⟩ := wr_s (b := b) (j := n) (p1 := nI c) (p2 := nI ne) (p3 := nI ra) (p4 := b 0 5) (p5 := nI du)
  have hp : pS (w_X0_write b n (nI c) (nI ne) (nI ra) (b 0 5) (nI du)) = pS b := pS_c (fun j _ => by
    by_cases e : j = n
    · subst e; exact wr_k (by decide)
    · rw [hr (j + 7) (by omega)])
  have hm : ne * ra ≤ 9999 * 40 := Nat.mul_le_mul h2 h3
  have et : ((nI ne * nI ra) + (50 : Int32)) / (100 : Int32) = nI ((ne * ra + 50) / 100) := by
    rw [pk_mul, i50, nI_add, i100, pk_div (by omega) (by decide) (by decide)]
  rw [et] at s4 s5
  refine ⟨⟨by omega, a2, by rw [hr 0 (by omega)]; exact a3⟩, ⟨y, a4, by rw [hr 0 (by omega)]; exact a5, fun k hk => by rw [hr 4 (by omega)]; exact a6 k hk⟩, SE_c a7 (fun k _ => by rw [hr 6 (by omega)]), fun k hk => by rw [hr 2 (by omega)]; exact a8 k hk, fun q hq => by rw [hp, hr 3 (by omega)]; exact a9 q hq, fun j hj => ?_, fun j g1 g2 => by rw [hr (j + 7) (by omega)]; exact a11 j (by omega) g2⟩
  by_cases e : j = n
  · subst e
    refine ⟨0, c, ne, (ne * ra + 50) / 100, ra, d, du, 0, 0, 0, 0, 0, 0, ⟨s0, s1, s2, s3, s4, ?_, s6.trans a3, s7, ?_, ?_, ?_, ?_, ?_, ?_⟩, ⟨by omega, hc, h1, h2, by omega, h3, Nat.le_refl d, h4, by omega, by omega, by omega, by omega⟩, by omega, by omega, by omega, by omega⟩
    · rw [s5, nI_add]
    · rw [wr_k (by decide), zz 8 (by decide) (by decide)]; rfl
    · rw [wr_k (by decide), zz 9 (by decide) (by decide)]; rfl
    · rw [wr_k (by decide), zz 10 (by decide) (by decide)]; rfl
    · rw [wr_k (by decide), zz 11 (by decide) (by decide)]; rfl
    · rw [wr_k (by decide), zz 12 (by decide) (by decide)]; rfl
    · rw [wr_k (by decide), z13]; rfl
  · rw [hr (j + 7) (by omega)]; exact a10 j (by omega)
theorem rng_of {x lo hi : Int32} {a c : Nat} (ha : lo = nI a) (hc : hi = nI c) (hl : a < 2 ^ 31) (hh : c < 2 ^ 31) (h1 : ¬ x < lo) (h2 : ¬ hi < x) : ∃ k : Nat, a ≤ k ∧ k ≤ c ∧ x = nI k := by
  subst ha; subst hc
  have h0 : ¬ x < 0 := fun z => h1 (Int32.lt_of_lt_of_le z (nI_pos' hl))
  obtain ⟨k, hk, rfl⟩ := nI_of h0
  exact ⟨k, Nat.not_lt.mp (fun z => h1 ((nI_ltI hk hl).mpr z)), Nat.not_lt.mp (fun z => h2 ((nI_ltI hh hk).mpr z)), rfl⟩
theorem K_bill (h : KI b n d) (p1 p2 p3 p4 : Int32) (ha : ¬ v_X1_writeBill b p1 p2 p3 p4 < 0) : KI (w_X1_writeBill b p1 p2 p3 p4) (n + 1) d := by
  have hn40 : n ≤ 40 := h.1.1
  have neg : ∀ {x : Int32}, v_X1_writeBill b p1 p2 p3 p4 = x → x < 0 → False := fun e hx => ha (e ▸ hx)
  have hcnt := cB_all h
  rcases cust_cs p1 with z | ⟨c, hc, rfl, cz, -⟩
  · exact (neg (by unfold v_X1_writeBill; rw [if_pos z]) (by decide : (-1 : Int32) < 0)).elim
  by_cases z2 : p2 < (1 : Int32)
  · exact (neg (by unfold v_X1_writeBill; rw [if_neg cz, if_pos z2]) (by decide : (-2 : Int32) < 0)).elim
  by_cases z3 : (9999 : Int32) < p2
  · exact (neg (by unfold v_X1_writeBill; rw [if_neg cz, if_neg z2, if_pos z3]) (by decide : (-2 : Int32) < 0)).elim
  by_cases z4 : p3 < 0
  · exact (neg (by unfold v_X1_writeBill; rw [if_neg cz, if_neg z2, if_neg z3, if_pos z4]) (by decide : (-2 : Int32) < 0)).elim
  by_cases z5 : (40 : Int32) < p3
  · exact (neg (by unfold v_X1_writeBill; rw [if_neg cz, if_neg z2, if_neg z3, if_neg z4, if_pos z5]) (by decide : (-2 : Int32) < 0)).elim
  by_cases z6 : p4 < 0
  · exact (neg (by unfold v_X1_writeBill; rw [if_neg cz, if_neg z2, if_neg z3, if_neg z4, if_neg z5, if_pos z6]) (by decide : (-2 : Int32) < 0)).elim
  by_cases z7 : p4 ≤ (99 : Int32)
  case neg => exact (neg (by unfold v_X1_writeBill; rw [if_neg cz, if_neg z2, if_neg z3, if_neg z4, if_neg z5, if_neg z6, if_neg z7]) (by decide : (-2 : Int32) < 0)).elim
  by_cases z8 : v_X1_countBills b (-9 : Int32) (-9 : Int32) < (40 : Int32)
  case neg => exact (neg (by unfold v_X1_writeBill; rw [if_neg cz, if_neg z2, if_neg z3, if_neg z4, if_neg z5, if_neg z6, if_pos z7, if_neg z8]) (by decide : (-3 : Int32) < 0)).elim
  have hn : n < 40 := by rw [hcnt] at z8; exact (nI_ltI (b := 40) (by omega) (by decide)).mp z8
  obtain ⟨ne, e1, e2, rfl⟩ := rng_of (a := 1) (c := 9999) rfl rfl (by decide) (by decide) z2 z3
  obtain ⟨ra, e3, e4, rfl⟩ := rng_of (a := 0) (c := 40) rfl rfl (by decide) (by decide) z4 z5
  obtain ⟨du, e5, e6, rfl⟩ := rng_of (a := 0) (c := 99) rfl rfl (by decide) (by decide) z6 (Int32.not_lt.mpr z7)
  unfold w_X1_writeBill
  rw [if_neg cz, if_neg z2, if_neg z3, if_neg z4, if_neg z5, if_neg z6, if_pos z7, if_pos z8, hcnt, nI_clamp (by omega)]
  have h0 := KI_wr h hn hc e1 e2 e4 e6
  obtain ⟨v, hv, ev⟩ := h0.2.2.2.1 c hc
  rw [cr_1 hc, ev]
  have hs : ¬ w_X0_write b n (nI c) (nI ne) (nI ra) (b 0 5) (nI du) (n + 7) 0 = (1 : Int32) := by rw [wr_s.1]; decide
  obtain ⟨s1, s2, s3, s4, s5, s6⟩ := pay_step h0 (Nat.lt_succ_self n) hs (L := v) (by omega)
  rw [s1, sc_1 hc, pk_sub (by split <;> omega)]
  exact KI_cr s2 (by split <;> omega)
theorem K_payBill (h : KI b n d) (p1 p2 : Int32) (ha : ¬ v_X1_takePaymentFor b p1 p2 < 0) : KI (w_X1_takePaymentFor b p1 p2) n d := by
  unfold v_X1_takePaymentFor at ha
  unfold w_X1_takePaymentFor
  rcases billAt_cs h p1 with z | ⟨k, hk, rfl, z⟩
  · rw [oel_n z] at ha; exact absurd (by decide) ha
  rw [oel_s z] at ha ⊢
  rcases amt_cs p2 with z2 | ⟨L, h1, h2, rfl, z2⟩
  · rw [if_pos z2] at ha; exact absurd (by decide) ha
  rw [if_neg z2] at ha ⊢
  by_cases z3 : b (k + 7) 0 = (1 : Int32)
  · rw [if_pos z3] at ha; exact absurd (by decide) ha
  rw [if_neg z3] at ha ⊢
  rw [ite_self]
  obtain ⟨s1, s2, s3, s4, s5, s6⟩ := pay_step h hk z3 (L := L) (by omega)
  obtain ⟨st, cu, ne, tx, ra, wr, du, pd, dc, fe, rm, lt, lp, ⟨h0, e1, -⟩, ⟨g0, g1, -⟩, -⟩ := h.2.2.2.2.2.1 k hk
  have ec : w_X1_payOn b k (nI L) (k + 7) 1 = nI cu := s4.trans e1
  rw [ec, s1, pk_sub (by split <;> omega)] at ha ⊢
  obtain ⟨v, hv, ev⟩ := s2.2.2.2.1 cu g1
  rcases ac_cs (b := w_X1_payOn b k (nI L)) (x := L - (if L < oN b k - dN b k then L else oN b k - dN b k)) g1 ev hv (by split <;> omega) with ⟨q1, q2, q3⟩ | ⟨q1, q2⟩
  · rw [q3]; exact KI_cr s2 q1
  · rw [if_pos q2] at ha; exact absurd (by decide) ha
/-- the book's own numbers changed, but for the bills, the credits and the settings -/
theorem KI_0 (h : KI b n d) (hr : ∀ i, i ≠ 0 → i ≠ 4 → b' i = b i) {d' : Nat} (hd : d ≤ d') (hd9 : d' ≤ 9999) (h5 : b' 0 5 = nI d') (h6 : ∃ y : Nat, y * 100 ≤ d' ∧ b' 0 6 = nI y ∧ ∀ k, k < y → ∃ v : Nat, v < 2 ^ 31 ∧ b' 4 k = nI v) : KI b' n d' := by
  obtain ⟨⟨a1, a2, a3⟩, -, a7, a8, a9, a10, a11⟩ := h
  have hp : pS b' = pS b := pS_c (fun j _ => by rw [hr (j + 7) (by omega) (by omega)])
  refine ⟨⟨a1, hd9, h5⟩, h6, SE_c a7 (fun k _ => by rw [hr 6 (by omega) (by omega)]), fun k hk => by rw [hr 2 (by omega) (by omega)]; exact a8 k hk, fun q hq => by rw [hp, hr 3 (by omega) (by omega)]; exact a9 q hq, fun j hj => ?_, fun j g1 g2 => by rw [hr (j + 7) (by omega) (by omega)]; exact a11 j g1 g2⟩
  rw [hr (j + 7) (by omega) (by omega)]
  exact BI_c (a10 j hj) (fun _ _ => rfl) hd
theorem K_back (h : KI b n d) (p1 : Int32) (ha : ¬ v_X1_returnCredit b p1 < 0) : KI (w_X1_returnCredit b p1) n d := by
  unfold v_X1_returnCredit at ha
  unfold w_X1_returnCredit
  rcases cust_cs p1 with z | ⟨c, hc, rfl, cz, -⟩
  · rw [if_pos z] at ha; exact absurd (by decide) ha
  rw [if_neg cz] at ha ⊢
  by_cases z2 : v_X1_creditOf b (nI c) = 0
  · rw [if_pos z2] at ha; exact absurd (by decide) ha
  rw [if_neg z2, sc_1 hc]
  have h0 : KI (up b 2 c (nI 0)) n d := KI_cr h (by omega)
  rw [show (0 : Int32) = nI 0 from rfl]
  obtain ⟨y, y1, y2, y3⟩ := h0.2.1
  exact KI_0 h0 (fun i hi _ => up_oi hi) (Nat.le_refl d) h.1.2.1 ((up_nk (by decide)).trans h0.1.2.2) ⟨y, y1, (up_nk (by decide)).trans y2, fun k hk => by rw [up_oi (by decide)]; exact y3 k hk⟩
theorem K_pass (h : KI b n d) (p1 : Int32) (ha : ¬ v_X1_goOn b p1 < 0) : ∃ d' : Nat, KI (w_X1_goOn b p1) n d' := by
  unfold v_X1_goOn at ha
  unfold w_X1_goOn
  by_cases z1 : p1 < (1 : Int32)
  · rw [if_pos z1] at ha; exact absurd (by decide) ha
  rw [if_neg z1] at ha ⊢
  by_cases z2 : p1 ≤ (99 : Int32)
  case neg => rw [if_neg z2] at ha; exact absurd (by decide) ha
  rw [if_pos z2] at ha ⊢
  by_cases z3 : (b 0 5) + p1 ≤ (9999 : Int32)
  case neg => rw [if_neg z3] at ha; exact absurd (by decide) ha
  rw [if_pos z3]
  obtain ⟨k, e1, e2, rfl⟩ := rng_of (a := 1) (c := 99) rfl rfl (by decide) (by decide) z1 (Int32.not_lt.mpr z2)
  have hd9 := h.1.2.1
  rw [h.1.2.2, nI_add] at z3 ⊢
  have hk : d + k ≤ 9999 := (nI_leI (b := 9999) (by omega) (by decide)).mp z3
  obtain ⟨y, y1, y2, y3⟩ := h.2.1
  exact ⟨d + k, KI_0 h (fun i hi _ => up_oi hi) (Nat.le_add_right d k) hk up_same ⟨y, by omega, (up_nk (by decide)).trans y2, fun k hk => by rw [up_oi (by decide)]; exact y3 k hk⟩⟩
/-- reminders -/
theorem ov_e (h : KI b n d) {st cu ne tx ra wr du pd dc fe rm lt lp : Nat} (hN : BN (b (j + 7)) d st cu ne tx ra wr du pd dc fe rm lt lp) : v_X0_isOverdue b j (b 0 5) = (if st = 0 ∧ wr + du < d then (1 : Int32) else 0) := by
  have hd9 := h.1.2.1
  obtain ⟨⟨h0, h1, h2, h3, h4, h5, h6, h7, h8, h9, h10, h11, h12, h13⟩, ⟨g0, g1, g2, g3, g4, g5, g6, g7, g8, g9, g10, g11⟩, k1, k2, k3, k4⟩ := hN
  unfold v_X0_isOverdue
  rw [h0, h6, h7, h.1.2.2, pk_sub (by omega)]
  by_cases c0 : st = 0
  · subst c0
    rw [if_pos nI_0]
    by_cases c1 : wr + du < d
    · rw [if_neg (show ¬ nI (d - wr) ≤ nI du from fun z => absurd ((nI_leI (by omega) (by omega)).mp z) (by omega)), if_pos (show 0 = 0 ∧ wr + du < d from ⟨rfl, c1⟩)]
    · rw [if_pos (show nI (d - wr) ≤ nI du from (nI_leI (by omega) (by omega)).mpr (by omega)), if_neg (show ¬ (0 = 0 ∧ wr + du < d) from fun z => c1 z.2)]
  · rw [if_neg (nI_ne0 (by omega) (by omega)), if_neg (show ¬ (st = 0 ∧ wr + du < d) from fun z => c0 z.1)]
/-- from when on the next reminder is due -/
def rD (w wr du rm lt : Nat) : Nat := (if rm = 0 then wr + du else lt) + w
theorem rd_e {w st cu ne tx ra wr du pd dc fe rm lt lp : Nat} (hN : BN (b (j + 7)) d st cu ne tx ra wr du pd dc fe rm lt lp) : v_X0_reminderDay b j (nI w) = nI (rD w wr du rm lt) := by
  obtain ⟨⟨h0, h1, h2, h3, h4, h5, h6, h7, h8, h9, h10, h11, h12, h13⟩, ⟨g0, g1, g2, g3, g4, g5, g6, g7, g8, g9, g10, g11⟩, k1, k2, k3, k4⟩ := hN
  unfold v_X0_reminderDay v_X0_dueDay rD
  rw [h11, h6, h7, h12]
  by_cases c : rm = 0
  · rw [if_pos c, c, if_pos nI_0, nI_add, nI_add]
  · rw [if_neg c, if_neg (nI_ne0 (by omega) (by omega)), nI_add]
theorem why_e (h : KI b n d) {w st cu ne tx ra wr du pd dc fe rm lt lp : Nat} (hw : w ≤ 99) (hN : BN (b (j + 7)) d st cu ne tx ra wr du pd dc fe rm lt lp) : v_X0_whyNoReminder b j (b 0 5) (nI w) = (if st = 1 then (1 : Int32) else if st = 2 then (2 : Int32) else if ¬ wr + du < d then (3 : Int32) else if rm < 3 then (if rD w wr du rm lt ≤ d then (0 : Int32) else (5 : Int32)) else (4 : Int32)) := by
  have hov := ov_e h hN
  have hrd := rd_e (w := w) hN
  have hd9 := h.1.2.1
  obtain ⟨⟨h0, h1, h2, h3, h4, h5, h6, h7, h8, h9, h10, h11, h12, h13⟩, ⟨g0, g1, g2, g3, g4, g5, g6, g7, g8, g9, g10, g11⟩, k1, k2, k3, k4⟩ := hN
  have hrl : rD w wr du rm lt < 2 ^ 31 := by unfold rD; split <;> omega
  unfold v_X0_whyNoReminder
  rw [hov, hrd, h0, h11, h.1.2.2]
  by_cases c1 : st = 1
  · rw [if_pos (show nI st = (1 : Int32) by rw [c1]; rfl), if_pos c1]
  rw [if_neg (show ¬ nI st = (1 : Int32) from fun z => c1 ((nI_eq (b := 1) (by omega) (by decide)).mp z)), if_neg c1]
  by_cases c2 : st = 2
  · rw [if_pos (show nI st = (2 : Int32) by rw [c2]; rfl), if_pos c2]
  rw [if_neg (show ¬ nI st = (2 : Int32) from fun z => c2 ((nI_eq (b := 2) (by omega) (by decide)).mp z)), if_neg c2]
  by_cases c3 : wr + du < d
  case neg => rw [if_neg (show ¬ (st = 0 ∧ wr + du < d) from fun z => c3 z.2), if_pos (show (0 : Int32) = 0 from rfl), if_pos c3]
  rw [if_pos (show st = 0 ∧ wr + du < d from ⟨by omega, c3⟩), if_neg (show ¬ (1 : Int32) = 0 by decide), if_neg (show ¬ ¬ wr + du < d from fun z => z c3)]
  by_cases c4 : rm < 3
  case neg => rw [if_neg (show ¬ nI rm < (3 : Int32) from fun z => c4 ((nI_ltI (b := 3) (by omega) (by decide)).mp z)), if_neg c4]
  rw [if_pos (show nI rm < (3 : Int32) from (nI_ltI (b := 3) (by omega) (by decide)).mpr c4), if_pos c4]
  by_cases c5 : rD w wr du rm lt ≤ d
  · rw [if_pos ((nI_leI hrl (by omega)).mpr c5), if_pos c5]
  · rw [if_neg (fun z => c5 ((nI_leI hrl (by omega)).mp z)), if_neg c5]
theorem aR_o {p1 p2 : Int32} {i : Nat} (h : i ≠ j + 7) : w_X0_addReminder b j p1 p2 i = b i := by
  unfold w_X0_addReminder
  simp (disch := omega) only [up_oi]
theorem aR_k {p1 p2 : Int32} {k : Nat} (h : k ≠ 10) (h' : k ≠ 11) (h'' : k ≠ 12) : w_X0_addReminder b j p1 p2 (j + 7) k = b (j + 7) k := by
  unfold w_X0_addReminder
  simp (disch := omega) only [up_nk]
theorem aR_s {p1 p2 : Int32} : w_X0_addReminder b j p1 p2 (j + 7) 10 = b (j + 7) 10 + b (j + 7) 11 * p2 ∧ w_X0_addReminder b j p1 p2 (j + 7) 11 = b (j + 7) 11 + (1 : Int32) ∧ w_X0_addReminder b j p1 p2 (j + 7) 12 = p1 := by
  unfold w_X0_addReminder
  refine ⟨?_, ?_, ?_⟩ <;> simp (disch := omega) only [up_nk, up_same]
theorem KI_rem (h : KI b n d) (hj : j < n) (hw : v_X0_whyNoReminder b j (b 0 5) (v_X3_reminderDays b) = 0) : KI (w_X0_addReminder b j (b 0 5) (v_X3_reminderFee b)) n d := by
  have hn : n ≤ 40 := h.1.1
  have hd9 := h.1.2.1
  obtain ⟨e, p, w, f, t, ⟨q1, q2, q3, q4, q5⟩, r1, r2, r3, r4, r5, r6⟩ := h.2.2.1
  have hr : ∀ i, i ≠ j + 7 → w_X0_addReminder b j (b 0 5) (v_X3_reminderFee b) i = b i := fun i hi => aR_o hi
  obtain ⟨st, cu, ne, tx, ra, wr, du, pd, dc, fe, rm, lt, lp, hN⟩ := h.2.2.2.2.2.1 j hj
  have ey : v_X3_reminderDays b = nI w := q3
  rw [ey, why_e h (by omega) hN] at hw
  obtain ⟨⟨h0, h1, h2, h3, h4, h5, h6, h7, h8, h9, h10, h11, h12, h13⟩, ⟨g0, g1, g2, g3, g4, g5, g6, g7, g8, g9, g10, g11⟩, k1, k2, k3, k4⟩ := hN
  have c1 : st ≠ 1 := fun z => by rw [if_pos z] at hw; exact absurd hw (by decide)
  rw [if_neg c1] at hw
  have c2 : st ≠ 2 := fun z => by rw [if_pos z] at hw; exact absurd hw (by decide)
  rw [if_neg c2] at hw
  have c3 : wr + du < d := by
    by_cases z : wr + du < d
    · exact z
    · rw [if_pos z] at hw; exact absurd hw (by decide)
  rw [if_neg (fun z => z c3)] at hw
  have c4 : rm < 3 := by
    by_cases z : rm < 3
    · exact z
    · rw [if_neg z] at hw; exact absurd hw (by decide)
  have hm : rm * f ≤ 3 * 99 := Nat.mul_le_mul (by omega) r5
  have ef : v_X3_reminderFee b = nI f := q4
  obtain ⟨s1, s2, s3⟩ := aR_s (b := b) (j := j) (p1 := b 0 5) (p2 := v_X3_reminderFee b)
  refine KI_bill h hj (fun i hi _ => hr i hi) ⟨st, cu, ne, tx, ra, wr, du, pd, dc, fe + rm * f, rm + 1, d, lp, ⟨?_, ?_, ?_, ?_, ?_, ?_, ?_, ?_, ?_, ?_, ?_, ?_, ?_, ?_⟩, ⟨g0, g1, g2, g3, g4, g5, g6, g7, by omega, Nat.le_refl d, g10, by omega⟩, by omega, by omega, by omega, fun _ => c3⟩ (fun y hy => ?_)
  · rw [aR_k (by decide) (by decide) (by decide)]; exact h0
  · rw [aR_k (by decide) (by decide) (by decide)]; exact h1
  · rw [aR_k (by decide) (by decide) (by decide)]; exact h2
  · rw [aR_k (by decide) (by decide) (by decide)]; exact h3
  · rw [aR_k (by decide) (by decide) (by decide)]; exact h4
  · rw [aR_k (by decide) (by decide) (by decide)]; exact h5
  · rw [aR_k (by decide) (by decide) (by decide)]; exact h6
  · rw [aR_k (by decide) (by decide) (by decide)]; exact h7
  · rw [aR_k (by decide) (by decide) (by decide)]; exact h8
  · rw [aR_k (by decide) (by decide) (by decide)]; exact h9
  · rw [s1, h10, h11, ef, pk_mul, nI_add]
  · rw [s2, h11, nI_1]
  · rw [s3]; exact h.1.2.2
  · rw [aR_k (by decide) (by decide) (by decide)]; exact h13
  · have hp : pS (w_X0_addReminder b j (b 0 5) (v_X3_reminderFee b)) = pS b := pS_c (fun i _ => by
      by_cases z : i = j
      · subst z; exact aR_k (by decide) (by decide) (by decide)
      · rw [hr (i + 7) (by omega)])
    rw [hp, hr 3 (by omega)]
    exact h.2.2.2.2.1 y hy
theorem sR_lp : ∀ (m k : Nat) (b : Nat → Nat → Int32) (x : Int32), k + m = 40 → KI b n d → KI (w_X1_sendReminders_loop m k b x) n d := by
  intro m
  induction m with
  | zero =>
    intro k b x hk h
    show KI (if _ then _ else _) n d
    rw [ite_self]; exact h
  | succ m ih =>
    intro k b x hk h
    show KI (if _ then _ else _) n d
    by_cases c : v_X0_whyNoReminder b k (b 0 5) (v_X3_reminderDays b) = 0
    · rw [if_pos c]
      have hkn : k < n := by
        by_cases z : k < n
        · exact z
        · obtain ⟨z0, z1, -⟩ := h.2.2.2.2.2.2 k (by omega) (by omega)
          have e1 : v_X0_isOverdue b k (b 0 5) = 0 := by
            unfold v_X0_isOverdue
            rw [z0, if_neg (by decide)]
          unfold v_X0_whyNoReminder at c
          rw [z0, if_neg (by decide), if_neg (by decide), e1, if_pos rfl] at c
          exact absurd c (by decide)
      exact ih _ _ _ (by omega) (KI_rem h hkn c)
    · rw [if_neg c]
      exact ih _ _ _ (by omega) h
theorem K_remind (h : KI b n d) : KI (w_X1_sendReminders b) n d := sR_lp 40 0 b 0 rfl h
theorem K_off (h : KI b n d) (p1 : Int32) (ha : ¬ v_X1_giveUp b p1 < 0) : KI (w_X1_giveUp b p1) n d := by
  unfold v_X1_giveUp at ha
  unfold w_X1_giveUp
  rcases billAt_cs h p1 with z | ⟨k, hk, rfl, z⟩
  · rw [oel_n z] at ha; exact absurd (by decide) ha
  rw [oel_s z] at ha ⊢
  by_cases z2 : v_X0_canBeWrittenOff b k (b 0 5) (v_X3_reminderDays b) = 0
  · rw [if_pos z2] at ha; exact absurd (by decide) ha
  rw [if_neg z2]
  have hn : n ≤ 40 := h.1.1
  obtain ⟨st, cu, ne, tx, ra, wr, du, pd, dc, fe, rm, lt, lp, ⟨h0, h1, h2, h3, h4, h5, h6, h7, h8, h9, h10, h11, h12, h13⟩, ⟨g0, g1, g2, g3, g4, g5, g6, g7, g8, g9, g10, g11⟩, k1, k2, k3, k4⟩ := h.2.2.2.2.2.1 k hk
  have c0 : st = 0 := by
    by_cases z : st = 0
    · exact z
    · refine absurd ?_ z2
      unfold v_X0_canBeWrittenOff
      rw [h0, if_neg (nI_ne0 (by omega) (by omega))]
  have c1 : rm = 3 := by
    by_cases z : rm = 3
    · exact z
    · refine absurd ?_ z2
      unfold v_X0_canBeWrittenOff
      rw [h0, c0, if_pos nI_0, h11, if_pos (show nI rm < (3 : Int32) from (nI_ltI (b := 3) (by omega) (by decide)).mpr (by omega))]
  refine KI_bill h hk (fun i hi _ => up_oi hi) ⟨2, cu, ne, tx, ra, wr, du, pd, dc, fe, rm, lt, lp, ⟨up_same, ?_, ?_, ?_, ?_, ?_, ?_, ?_, ?_, ?_, ?_, ?_, ?_, ?_⟩, ⟨by omega, g1, g2, g3, g4, g5, g6, g7, g8, g9, g10, g11⟩, k1, by omega, fun _ => c1, k4⟩ (fun y hy => ?_)
  · exact (up_nk (by decide)).trans h1
  · exact (up_nk (by decide)).trans h2
  · exact (up_nk (by decide)).trans h3
  · exact (up_nk (by decide)).trans h4
  · exact (up_nk (by decide)).trans h5
  · exact (up_nk (by decide)).trans h6
  · exact (up_nk (by decide)).trans h7
  · exact (up_nk (by decide)).trans h8
  · exact (up_nk (by decide)).trans h9
  · exact (up_nk (by decide)).trans h10
  · exact (up_nk (by decide)).trans h11
  · exact (up_nk (by decide)).trans h12
  · exact (up_nk (by decide)).trans h13
  · have hp : pS (up b (k + 7) 0 (2 : Int32)) = pS b := pS_c (fun i _ => by
      by_cases z : i = k
      · subst z; exact up_nk (by decide)
      · rw [up_oi (by omega)])
    rw [hp, up_oi (by omega)]
    exact h.2.2.2.2.1 y hy
/-- the tax of a year is no negative number -/
theorem tax_e (h : KI b n d) {y t : Nat} (hy : y < 100) (ht : t ≤ 1) : ∃ v : Nat, v < 2 ^ 31 ∧ v_X1_taxOf b (nI y) (nI t) = nI v := by
  have hn : n ≤ 40 := h.1.1
  unfold v_X1_taxOf
  rcases (show t = 0 ∨ t = 1 by omega) with rfl | rfl
  · rw [if_neg (by decide), tO_l, Int32.zero_add]
    have e : ∀ i, 0 ≤ i → i < 0 + 40 → (if v_X0_is b i (-9) (-9) = 0 then 0 else if (b (i + 7) 6) / (100 : Int32) = nI y then b (i + 7) 4 else 0) = nI (if v_X0_is b i (-9) (-9) = 0 then 0 else if (b (i + 7) 6) / (100 : Int32) = nI y then (b (i + 7) 4).toNatClampNeg else 0) := by
      intro i _ hi
      by_cases c1 : v_X0_is b i (-9) (-9) = 0
      · rw [if_pos c1, if_pos c1]; rfl
      rw [if_neg c1, if_neg c1]
      by_cases c2 : (b (i + 7) 6) / (100 : Int32) = nI y
      · rw [if_pos c2, if_pos c2]
        have hin : i < n := by
          by_cases z : i < n
          · exact z
          · exact absurd (is_ge h (by omega) (by omega) _ _) c1
        obtain ⟨st, cu, ne, tx, ra, wr, du, pd, dc, fe, rm, lt, lp, ⟨h0, h1, h2, h3, h4, -⟩, ⟨g0, g1, g2, g3, g4, -⟩, -⟩ := h.2.2.2.2.2.1 i hin
        rw [h4, nI_clamp (by omega)]
      · rw [if_neg c2, if_neg c2]; rfl
    rw [lS_nI 40 0 e]
    refine ⟨_, ?_, rfl⟩
    have hb := nS_le (f := fun i => if v_X0_is b i (-9) (-9) = 0 then 0 else if (b (i + 7) 6) / (100 : Int32) = nI y then (b (i + 7) 4).toNatClampNeg else 0) (B := 4000) 40 0 (fun i _ hi => by
      show (if _ then _ else if _ then _ else _) ≤ 4000
      split
      · omega
      rename_i c1
      split
      · have hin : i < n := by
          by_cases z : i < n
          · exact z
          · exact absurd (is_ge h (by omega) (by omega) _ _) c1
        obtain ⟨st, cu, ne, tx, ra, wr, du, pd, dc, fe, rm, lt, lp, ⟨h0, h1, h2, h3, h4, -⟩, ⟨g0, g1, g2, g3, g4, -⟩, -⟩ := h.2.2.2.2.2.1 i hin
        rw [h4, nI_clamp (by omega)]
        exact g4
      · omega)
    omega
  · rw [if_pos (show nI 1 = (1 : Int32) from rfl), if_neg (isYear1 hy), nI_clamp (by omega)]
    obtain ⟨v, hv, ev⟩ := h.2.2.2.2.1 y hy
    have := KI_pS h
    exact ⟨v, by omega, ev⟩
theorem K_close (h : KI b n d) (p1 : Int32) (ha : ¬ v_X1_endYear b p1 < 0) : KI (w_X1_endYear b p1) n d := by
  unfold v_X1_endYear at ha
  unfold w_X1_endYear
  have hd9 := h.1.2.1
  rcases year_cs p1 with z | ⟨k, hk, rfl, z, ek⟩
  · rw [if_pos z] at ha; exact absurd (by decide) ha
  rw [if_neg z] at ha ⊢
  by_cases z2 : b 0 5 < (nI k + (1 : Int32)) * (100 : Int32)
  · rw [if_pos z2] at ha; exact absurd (by decide) ha
  rw [if_neg z2] at ha ⊢
  obtain ⟨y, y1, y2, y3⟩ := h.2.1
  by_cases z3 : nI k ≤ b 0 6
  case neg => rw [if_neg z3] at ha; exact absurd (by decide) ha
  rw [if_pos z3] at ha ⊢
  by_cases z4 : b 0 6 ≤ nI k
  case neg => rw [if_neg z4] at ha; exact absurd (by decide) ha
  rw [if_pos z4, ek]
  have eyk : k = y := by
    rw [y2] at z3 z4
    have h1 := (nI_leI (by omega) (by omega)).mp z3
    have h2 := (nI_leI (by omega) (by omega)).mp z4
    omega
  subst eyk
  have hd : (k + 1) * 100 ≤ d := by
    rw [h.1.2.2, nI_1, i100, pk_mul] at z2
    exact Nat.not_lt.mp (fun q => z2 ((nI_ltI (by omega) (by omega)).mpr q))
  obtain ⟨e, p, w, f, t, ⟨q1, q2, q3, q4, q5⟩, r1, r2, r3, r4, r5, r6⟩ := h.2.2.1
  obtain ⟨v, hv, ev⟩ := tax_e h hk r6
  have et : v_X3_taxWay b = nI t := q5
  rw [et, ev, y2, nI_1]
  refine KI_0 h (fun i hi h4 => by rw [up_oi hi, up_oi h4]) (Nat.le_refl d) hd9 ?_ ⟨k + 1, hd, up_same, fun q hq => ?_⟩
  · rw [up_nk (by decide), up_ni (by decide)]; exact h.1.2.2
  · rw [up_oi (by decide)]
    by_cases g : q = k
    · subst g; exact ⟨v, hv, up_same⟩
    · obtain ⟨v', hv', ev'⟩ := y3 q (by omega)
      exact ⟨v', hv', (up_nk g).trans ev'⟩
theorem K_set (h : KI b n d) (p1 p2 : Int32) (ha : ¬ v_X3_change b p1 p2 < 0) : KI (w_X3_change b p1 p2) n d := by
  unfold v_X3_change at ha
  unfold w_X3_change
  by_cases z1 : p1 < 0
  · rw [if_pos z1] at ha; exact absurd (by decide) ha
  rw [if_neg z1] at ha ⊢
  by_cases z2 : p1 < (5 : Int32)
  case neg => rw [if_neg z2] at ha; exact absurd (by decide) ha
  rw [if_pos z2] at ha ⊢
  obtain ⟨k, e1, e2, rfl⟩ := rng_of (x := p1) (a := 0) (c := 4) rfl rfl (by decide) (by decide) z1 (fun z => absurd z2 (Int32.not_lt.mpr ((le_succ (a := 5) (by decide)).mpr z)))
  have ec : (nI k).toNatClampNeg = k := nI_clamp (by omega)
  rw [ec] at ha ⊢
  by_cases z3 : p2 < leastK k
  · rw [if_pos z3] at ha; exact absurd (by decide) ha
  rw [if_neg z3] at ha ⊢
  by_cases z4 : p2 ≤ mostK k
  case neg => rw [if_neg z4] at ha; exact absurd (by decide) ha
  rw [if_pos z4] at ha ⊢
  by_cases z5 : p2 = b 6 k
  · rw [if_pos z5] at ha; exact absurd (by decide) ha
  rw [if_neg z5]
  obtain ⟨⟨a1, a2, a3⟩, ⟨y, a4, a5, a6⟩, ⟨e, p, w, f, t, ⟨q1, q2, q3, q4, q5⟩, r1, r2, r3, r4, r5, r6⟩, a8, a9, a10, a11⟩ := h
  have hr : ∀ i, i ≠ 6 → up b 6 k p2 i = b i := fun i hi => up_oi hi
  have hp : pS (up b 6 k p2) = pS b := pS_c (fun j _ => by rw [hr (j + 7) (by omega)])
  refine ⟨⟨a1, a2, by rw [hr 0 (by omega)]; exact a3⟩, ⟨y, a4, by rw [hr 0 (by omega)]; exact a5, fun k hk => by rw [hr 4 (by omega)]; exact a6 k hk⟩, ?_, fun k hk => by rw [hr 2 (by omega)]; exact a8 k hk, fun q hq => by rw [hp, hr 3 (by omega)]; exact a9 q hq, fun j hj => by rw [hr (j + 7) (by omega)]; exact a10 j hj, fun j g1 g2 => by rw [hr (j + 7) (by omega)]; exact a11 j g1 g2⟩
  rcases (show k = 0 ∨ k = 1 ∨ k = 2 ∨ k = 3 ∨ k = 4 by omega) with rfl | rfl | rfl | rfl | rfl
  · obtain ⟨v, v1, v2, rfl⟩ := rng_of (x := p2) (a := 0) (c := 99) rfl rfl (by decide) (by decide) z3 (Int32.not_lt.mpr z4)
    exact ⟨v, p, w, f, t, ⟨up_same, (up_nk (by decide)).trans q2, (up_nk (by decide)).trans q3, (up_nk (by decide)).trans q4, (up_nk (by decide)).trans q5⟩, v2, r2, r3, r4, r5, r6⟩
  · obtain ⟨v, v1, v2, rfl⟩ := rng_of (x := p2) (a := 0) (c := 20) rfl rfl (by decide) (by decide) z3 (Int32.not_lt.mpr z4)
    exact ⟨e, v, w, f, t, ⟨(up_nk (by decide)).trans q1, up_same, (up_nk (by decide)).trans q3, (up_nk (by decide)).trans q4, (up_nk (by decide)).trans q5⟩, r1, v2, r3, r4, r5, r6⟩
  · obtain ⟨v, v1, v2, rfl⟩ := rng_of (x := p2) (a := 1) (c := 99) rfl rfl (by decide) (by decide) z3 (Int32.not_lt.mpr z4)
    exact ⟨e, p, v, f, t, ⟨(up_nk (by decide)).trans q1, (up_nk (by decide)).trans q2, up_same, (up_nk (by decide)).trans q4, (up_nk (by decide)).trans q5⟩, r1, r2, v1, v2, r5, r6⟩
  · obtain ⟨v, v1, v2, rfl⟩ := rng_of (x := p2) (a := 0) (c := 99) rfl rfl (by decide) (by decide) z3 (Int32.not_lt.mpr z4)
    exact ⟨e, p, w, v, t, ⟨(up_nk (by decide)).trans q1, (up_nk (by decide)).trans q2, (up_nk (by decide)).trans q3, up_same, (up_nk (by decide)).trans q5⟩, r1, r2, r3, r4, v2, r6⟩
  · obtain ⟨v, v1, v2, rfl⟩ := rng_of (x := p2) (a := 0) (c := 1) rfl rfl (by decide) (by decide) z3 (Int32.not_lt.mpr z4)
    exact ⟨e, p, w, f, v, ⟨(up_nk (by decide)).trans q1, (up_nk (by decide)).trans q2, (up_nk (by decide)).trans q3, (up_nk (by decide)).trans q4, up_same⟩, r1, r2, r3, r4, r5, v2⟩
end AC
