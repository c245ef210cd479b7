/-! the least payment, tried -/
section TS
variable {z : CS} {k : Nat} {b b' : Nat → Nat → Int32}
theorem cp_cO (h : cpE b b') (c : Nat) : cO b c 40 0 = cO b' c 40 0 := nS_c 40 0 (fun i _ hi => by
  show (if _ then _ else _) = _
  rw [cp_is h (by omega)])
theorem cp_lO (h : cpE b b') (c : Nat) : lO b c 40 0 = lO b' c 40 0 := nS_c 40 0 (fun i _ hi => by
  show (if _ then 0 else oN b i - dN b i) = if _ then 0 else oN b' i - dN b' i
  unfold oN dN
  rw [cp_is h (by omega), cp_ow h (by omega), cp_di h (by omega)])
theorem t150 (h : NV z k) {c C L : Nat} (hc : c < 8) (hC : cO (z.2 (z.1 0)) c 40 0 = C) (hL : lO (z.2 (z.1 0)) c 40 0 = L) (h1 : 1 ≤ L) (h2 : L ≤ 99999) (x : Int32) : v_L_tries_t150_1 z x (nI c) (nI C) (nI L) = 1 ∧ ∃ k', NV (w_L_tries_t150_1 z x (nI c) (nI C) (nI L)) k' := by
  obtain ⟨n, d, hK⟩ := h.2.2.1
  have hC40 : C ≤ 40 := by rw [← hC]; exact cO_le c 40 0
  unfold v_L_tries_t150_1 w_L_tries_t150_1
  by_cases g : L = 1
  · have e : nI L = (1 : Int32) := by rw [g]; rfl
    rw [if_pos e, if_pos e]
    exact t182 h hc x
  · have e : ¬ nI L = (1 : Int32) := fun q => g ((nI_eq (b := 1) (by omega) (by decide)).mp q)
    have em : nI L - (1 : Int32) = nI (L - 1) := by rw [i1, pk_sub (by omega)]
    rw [if_neg e, if_neg e, em]
    obtain ⟨v0, -⟩ := iP_v h.2.1 hc (amt_1 (L := L - 1) (by omega) (by omega))
    obtain ⟨r, x', v, b1, e1, e2, e3, e4, e5, e6, e7, e8, e9, e10⟩ := tp_1 hK hc (L := L - 1) (by omega) (by omega)
    have hlt : ¬ nI C ≤ v_X5_ifPaid z (nI c) (nI (L - 1)) (0 : Int32) := by
      rw [v0]
      rcases e4 with ⟨q1, q2, q3⟩ | ⟨q1, q2⟩
      · rw [q2]
        have := e8 (by omega)
        exact nI_ge (by omega) (by omega)
      · rw [q2]
        exact fun q => nI_pos (n := C) (by omega) (Int32.lt_of_le_of_lt q (by decide))
    rw [if_neg hlt, if_neg hlt]
    exact t182 (iP_N h (nI c) (nI (L - 1)) (0 : Int32)).1 hc x
theorem t57 (h : NV z k) {c v : Nat} (hc : c < 8) (hv : z.2 (z.1 0) 2 c = nI v) (hv9 : v ≤ 999999) (x : Int32) : v_L_tries_t57_1 z x (nI c) (nI (cO (z.2 (z.1 0)) c 40 0)) (nI v) (nI (lO (z.2 (z.1 0)) c 40 0)) = 1 ∧ ∃ k', NV (w_L_tries_t57_1 z x (nI c) (nI (cO (z.2 (z.1 0)) c 40 0)) (nI v) (nI (lO (z.2 (z.1 0)) c 40 0))) k' := by
  obtain ⟨n, d, hK⟩ := h.2.2.1
  have hC40 : cO (z.2 (z.1 0)) c 40 0 ≤ 40 := cO_le c 40 0
  have hLb : lO (z.2 (z.1 0)) c 40 0 ≤ 40 * 15000 := Nat.le_trans (lO_e hK hc).2 (oO_e hK (c := c)).2
  have hz := lO_0 hK hc 40 0 rfl
  generalize hCC : cO (z.2 (z.1 0)) c 40 0 = C at *
  generalize hLL : lO (z.2 (z.1 0)) c 40 0 = L at *
  unfold v_L_tries_t57_1 w_L_tries_t57_1
  by_cases g1 : C = 0
  · have e : nI C ≤ 0 := by rw [g1]; decide
    rw [if_pos e, if_pos e]
    exact t182 h hc x
  have e1 : ¬ nI C ≤ 0 := nI_nle (by omega) (by omega)
  rw [if_neg e1, if_neg e1]
  by_cases g2 : 99999 < L
  · have e : (99999 : Int32) < nI L := (nI_ltI (a := 99999) (by decide) (by omega)).mpr g2
    rw [if_pos e, if_pos e]
    exact t182 h hc x
  have e2 : ¬ (99999 : Int32) < nI L := fun q => g2 ((nI_ltI (a := 99999) (by decide) (by omega)).mp q)
  have e3 : ¬ (999999 : Int32) < nI v := fun q => absurd ((nI_ltI (a := 999999) (by decide) (by omega)).mp q) (by omega)
  rw [if_neg e2, if_neg e2, if_neg e3, if_neg e3]
  have hL1 : 1 ≤ L := by
    rcases Nat.eq_zero_or_pos L with q | q
    · exact absurd (hz.mp q) g1
    · exact q
  have hp : ¬ v_X5_isAmount (nI L) = 0 := amt_1 hL1 (by omega)
  obtain ⟨r, x', v', b1, f1, f2, f3, f4, f5, f6, f7, f8, f9, f10⟩ := tp_1 hK hc (L := L) hL1 (by omega)
  rw [hCC, hLL] at f9
  obtain ⟨r1, r2, r3⟩ := f9 rfl
  have evv : v' = v := by
    have hh := (hK.2.2.2.1 c hc)
    exact (nI_eq (by omega) (by omega)).mp (f1.symm.trans hv)
  subst evv
  subst r1
  subst r2
  rcases f4 with ⟨q1, q2, q3⟩ | ⟨q1, q2⟩
  case inr => exact absurd q1 (by omega)
  rw [Nat.add_zero] at q3
  obtain ⟨n1, m1⟩ := iP_N h (nI c) (nI L) (0 : Int32)
  obtain ⟨n2, m2⟩ := iP_N n1 (nI c) (nI L) (2 : Int32)
  have m3 := m2.trans m1
  obtain ⟨v0, -⟩ := iP_v h.2.1 hc hp
  obtain ⟨-, v1'⟩ := iP_v n1.2.1 hc hp
  rw [m1] at v1'
  have hn : ¬ v_X1_takePayment (z.2 (z.1 0)) (nI c) (nI L) < 0 := by rw [q2]; exact nI_pos (by omega)
  have k0 : v_X5_ifPaid z (nI c) (nI L) (0 : Int32) = nI r := v0.trans q2
  have k2 : v_X5_ifPaid (w_X5_ifPaid z (nI c) (nI L) (0 : Int32)) (nI c) (nI L) (2 : Int32) = nI v' := by
    rw [(v1' hn).2.1, q3, cr_1 hc, up_same]
  generalize hz2 : w_X5_ifPaid (w_X5_ifPaid z (nI c) (nI L) (0 : Int32)) (nI c) (nI L) (2 : Int32) = z2 at *
  obtain ⟨p1, p2, p3, p4⟩ := P_pay n2 (p1 := nI c) (p2 := nI L) (by rw [m3]; exact hn)
  rw [m3] at p1 p3 p4
  have k3 : v_X5_pay z2 (nI c) (nI L) = nI r := p1.trans q2
  have k4 : v_X5_customer (w_X5_pay z2 (nI c) (nI L)) (nI c) (1 : Int32) = 0 := by
    rw [(cu_e hc).1, p3, q3, cO_e]
    have e0 : cO (up b1 2 c (nI v')) c 40 0 = 0 := (cO_0 40 0).mpr (fun i _ hi => by
      rw [is_op hc]
      rintro ⟨y1, y2⟩
      have er : up b1 2 c (nI v') (i + 7) = b1 (i + 7) := up_oi (by omega)
      rw [er] at y1 y2
      by_cases g : opn (z.2 (z.1 0)) c i
      · rw [r3 i (by omega) g] at y1
        exact absurd y1 (by decide)
      · rw [f10 i g] at y1 y2
        exact g ⟨y1, y2⟩)
    rw [e0]; rfl
  have k5 : v_X5_customer (w_X5_pay z2 (nI c) (nI L)) (nI c) (3 : Int32) = nI v' := by
    rw [(cu_e hc).2.2.1, p3, q3, cr_1 hc, up_same]
  obtain ⟨u1, u2, u3⟩ := UN p2 p4
  rw [if_pos k0, if_pos k0, if_pos k2, if_pos k2, if_pos k3, if_pos k3, if_pos k4, if_pos k4, if_pos k5, if_pos k5, if_neg u1, if_neg u1]
  exact t150 u2 hc ((cp_cO u3 c).trans hCC) ((cp_lO u3 c).trans hLL) hL1 (by omega) x
theorem tries_1 (h : NV z k) (x : Int32) : v_L_tries z x = 1 ∧ ∃ k', NV (w_L_tries z x) k' := by
  obtain ⟨n, d, hK⟩ := h.2.2.1
  obtain ⟨c, hc3, ec⟩ := low_e x (n := 3) (by decide) (by decide)
  have ec : v_L_low x (3 : Int32) = nI c := ec
  have hc : c < 8 := by omega
  obtain ⟨v, hv, ev⟩ := hK.2.2.2.1 c hc
  have hC40 : cO (z.2 (z.1 0)) c 40 0 ≤ 40 := cO_le c 40 0
  have hLb : lO (z.2 (z.1 0)) c 40 0 ≤ 40 * 15000 := Nat.le_trans (lO_e hK hc).2 (oO_e hK (c := c)).2
  have hz := lO_0 hK hc 40 0 rfl
  have e1 : v_X5_settles z (nI c) = nI (lO (z.2 (z.1 0)) c 40 0) := by
    unfold v_X5_settles
    rw [if_neg (cust_1 hc)]
    exact (lO_e hK hc).1
  have e2 : v_X5_customer z (nI c) (1 : Int32) = nI (cO (z.2 (z.1 0)) c 40 0) := (cu_e hc).1.trans cO_e
  have e3 : v_X5_customer z (nI c) (3 : Int32) = nI v := by rw [(cu_e hc).2.2.1, cr_1 hc, ev]
  unfold v_L_tries w_L_tries
  rw [ec, e1, e2, e3]
  by_cases g : cO (z.2 (z.1 0)) c 40 0 = 0
  · have g1 : nI (lO (z.2 (z.1 0)) c 40 0) = 0 := by rw [hz.mpr g]; rfl
    have g2 : nI (cO (z.2 (z.1 0)) c 40 0) = 0 := by rw [g]; rfl
    rw [if_pos g1, if_pos g1, if_pos g2, if_pos g2]
    exact t57 h hc ev hv x
  · have g1 : ¬ nI (lO (z.2 (z.1 0)) c 40 0) = 0 := nI_ne0 (Nat.pos_of_ne_zero (fun q => g (hz.mp q))) (by omega)
    have g2 : ¬ nI (cO (z.2 (z.1 0)) c 40 0) = 0 := nI_ne0 (by omega) (by omega)
    rw [if_neg g1, if_neg g1, if_neg g2, if_neg g2]
    exact t57 h hc ev hv x
end TS
/-- the start -/
theorem NV_0 : NV z0 0 := by
  have hb : ∀ r, r < 7 → B0 r = bI0 := fun r hr => if_pos hr
  have h7 : B0 7 = fun _ _ => 0 := if_neg (by decide)
  have e0 : z0.2 (z0.1 0) = bI0 := hb 0 (by decide)
  have hK : KI bI0 0 0 := by
    refine ⟨⟨by omega, by omega, rfl⟩, ⟨0, by omega, rfl, fun k hk => absurd hk (by omega)⟩, ⟨10, 2, 7, 5, 0, ⟨rfl, rfl, rfl, rfl, rfl⟩, by omega, by omega, by omega, by omega, by omega, by omega⟩, fun c hc => ⟨0, by omega, rfl⟩, fun y hy => ⟨0, Nat.zero_le _, rfl⟩, fun j hj => absurd hj (by omega), fun j _ _ => ?_⟩
    have e : bI0 (j + 7) = iI := by
      funext k
      unfold bI0
      rw [if_neg (by omega), if_pos (by omega)]
    rw [e]
    exact ⟨rfl, fun k g1 g2 => by unfold iI; rw [if_neg (by omega), if_neg (by omega)], rfl⟩
  refine ⟨z0_RI, z0_RJ, by rw [e0]; exact ⟨0, 0, hK⟩, by omega, ?_, fun i hi => absurd hi (by omega)⟩
  show B0 7 1 1 = nI 0
  rw [h7]; rfl
