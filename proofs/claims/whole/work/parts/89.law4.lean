/-! THE CLAIM OUT OF ONE WALK OF THE LAW'S BODY. Your part is whole_start (and what it stands on); all else here is the same for every law, but numbers. -/
def R_law : String := "InvoiceBookLaw"
def lw_P (b : Addr) (xs : List Int32) (args : Array Value) (s : State) : Prop := args = #[.ref b] ∧ s.IntsAt b xs ∧ xs.length ≤ 2560 ∧ (Jvm.Cond.and given_1 narrow_1).before args s = true
def lw_Q (_ : Array Value) (s : State) (o : Outcome) (t : State) : Prop := o = .returned (some (.int 1)) ∧ Framed s o t [] 600000 7302250
def lw_Z (below : List Frame) (a : Array Value) (s : State) : State → Prop := fun t => ∃ o, t.status = .running ∧ Ended t below o ∧ lw_Q a s o t
/-- the law's own end, with 1 on the stack, nothing written that was there before, its room as the claim has it -/
theorem lw_ret {p : Program} {l : Launch} {e : Env} {s : State} {m : MethodId} {below : List Frame} {meth : Method} {c : Code} {b : Nat} (hx : p.tables.exec = Jvm.exec) (hb : c.code = code) (hr : meth.sig.returnType = ret) (hlocks : meth.locks = false) {pc : Nat} {H : Heap} {ls : Array Slot} (hdg : decode code pc = .ok (.ireturn, 1)) : W p l e room_1 s m #[Value.ref b] below meth c H [] 600000 7302250 (lw_Z below #[Value.ref b] s) (F0 m pc ls [.int 1]) := by
  intro T hT X
  obtain ⟨fs, hret, hrun, hended, hW, hframe⟩ := X.leave (v := some (.int 1)) (hlocks := hlocks) (fun h => by rw [hr] at h; cases h)
  have hmeth' : T.vm.method? m = some meth := X.method'
  refine ⟨T.setFrames fs, ?_, .returned (some (.int 1)), hrun, hended, rfl, ⟨_, rfl⟩, hW, hframe⟩
  jvm_step X.here [X.here.top, hx, hb, hdg, hmeth', hr, ret, narrow_b1]
  (try refine ⟨rfl, ?_⟩); (try refine ⟨rfl, ?_⟩)
  first | (intro acts; rw [hret _ acts rfl rfl rfl]) | rw [hret _ _ rfl rfl rfl]
  exact Steps.refl _
/-- what holds at the law's entry: the machine, the code, the tables' words (any of lw_tbl by 'hts w (by decide +kernel)'), the script of L ints xs at the cell b, what the Statement gives of the start (any of its parts by flat_of_before) -/
def lw_At (p : Program) (s : State) (m : MethodId) (meth : Method) (c : Code) (b L : Nat) (xs : Nat → Int32) : Prop :=
  p.tables.exec = Jvm.exec ∧ c.code = code ∧ meth.sig.returnType = ret ∧ c.maxLocals = 4 ∧ s.vm.findClass R_law = some m.cls ∧ (∀ w ∈ lw_tbl, w.before #[Value.ref b] s = true) ∧ va_X b L xs s s.heap ∧ b < s.heap.size ∧ meth.locks = false ∧ (Jvm.Cond.and given_1 narrow_1).before #[Value.ref b] s = true
set_option maxHeartbeats 4000000 in
set_option maxRecDepth 100000 in
/-- the law's loop: at its head, with i ints read, class and reference are alike -/
theorem law_loop {p : Program} {l : Launch} {e : Env} {s : State} {m : MethodId} {below : List Frame} {meth : Method} {c : Code} {b L : Nat} {xs : Nat → Int32} (hL : L ≤ 2560) (C0 : lw_At p s m meth c b L xs) {G : kG} {a1 a2 : Nat → Nat} {t1 t2 : Nat} (w : lw_W G a1 a2 t1 t2 s) {cells slots : Nat} (hr : cells ≤ room_1.cells ∧ slots ≤ room_1.slots) :
    ∀ (n i : Nat), i ≤ L → L + 1 ≤ i + n → ∀ (z : CS) (u : Nat → Nat → Int32) (H : Heap) (locs : List Loc), cP G a1 z H → mP G a2 u H → va_S (fun q => s.heap.size ≤ q) s.heap H locs → RLz z u → ∀ (ls : Array Slot), lv_has ls 4 [(0, .ref b), (1, .ref (a1 329)), (2, .ref (a2 0)), (3, .int (nI i))] → W p l e room_1 s m #[Value.ref b] below meth c H locs cells slots (lw_Z below #[Value.ref b] s) (F0 m 18 ls []) := by
  obtain ⟨hx, hb, hret, hml, hown, hts, hX, hbl, hlocks, hgv⟩ := C0
  have S : CallFix p m c cL_law 4 s #[Value.ref b] BIG RL := ⟨hx, hb, hml, hown, fun w h => hts w (BIG_in w h)⟩
  have hbA : ¬ (fun q : Nat => s.heap.size ≤ q) b := Nat.not_le.mpr hbl
  intro n
  induction n with
  | zero =>
    intro i h1 h2
    exact absurd h2 (by omega)
  | succ n ih =>
    intro i hi hin z u H locs hc hm hS hh ls hl
    refine lv_iload_n hx hb dL_law_18 rfl (lv_at hl 3 rfl) ?_
    refine lv_aload_n hx hb dL_law_19 rfl (lv_at hl 0 rfl) ?_
    refine va_slen hx hb hX hbl hbA hS dL_law_20 ?_
    refine lv_iconst (v := 5) hx hb dL_law_21 (by decide) ?_
    refine lv_isub hx hb dL_law_22 ?_
    refine lv_icmp_gt (tgt := 771) hx hb dL_law_23 (by decide) (fun _ => ?_) (fun c1 => ?_)
    · refine lv_iconst (v := 1) hx hb dL_law_771 (by decide) ?_
      refine va_forget (fun q hq => hS.2.2 q hq) ?_
      refine W.widen (k := 600000) (n := 7302250) hr.1 hr.2 ?_
      exact lw_ret hx hb hret hlocks dL_law_772
    · have h5 := lw_more hL hi c1
      have K : ∀ (z : CS) (u : Nat → Nat → Int32) (H : Heap) (locs : List Loc), cP G a1 z H → mP G a2 u H → va_S (fun q => s.heap.size ≤ q) s.heap H locs → RLz z u → W p l e room_1 s m #[Value.ref b] below meth c H locs cells slots (lw_Z below #[Value.ref b] s) (F0 m 765 ls []) := by
        intro z u H locs hc hm hS hh
        refine lv_iinc (v := nI (i + 5)) (lv' := [(3, .int (nI (i + 5))), (0, .ref b), (1, .ref (a1 329)), (2, .ref (a2 0))]) hx hb dL_law_765 hl (k := 3) rfl (nI_add i 5) (by decide) rfl (fun ls hl => ?_)
        refine lv_goto (tgt := 18) hx hb dL_law_768 (by decide) ?_
        exact ih (i + 5) h5 (by omega) z u H locs hc hm hS hh ls (lv_sub hl [1, 2, 3, 0] rfl)
      refine lv_aload_n hx hb dL_law_26 rfl (lv_at hl 0 rfl) ?_
      refine lv_iload_n hx hb dL_law_27 rfl (lv_at hl 3 rfl) ?_
      refine va_sld hx hb hX hbl hbA hS (vp_in_nI (show i < L by omega) (by omega)) dL_law_28 ?_
      refine lv_bipush (v := 31) hx hb dL_law_29 (by decide) ?_
      refine lv_iand hx hb dL_law_31 ?_
      obtain ⟨j, hj, ej⟩ := pk_andE (xs (nI i).toNatClampNeg) (m := 31) 5 (by decide)
      refine r_top ej ?_
      have hj : j < 32 := hj
      rcases (show j = 0 ∨ j = 1 ∨ j = 2 ∨ j = 3 ∨ j = 4 ∨ j = 5 ∨ j = 6 ∨ j = 7 ∨ j = 8 ∨ j = 9 ∨ j = 10 ∨ j = 11 ∨ j = 12 ∨ j = 13 ∨ j = 14 ∨ j = 15 ∨ j = 16 ∨ j = 17 ∨ j = 18 ∨ j = 19 ∨ j = 20 ∨ j = 21 ∨ j = 22 ∨ j = 23 ∨ j = 24 ∨ 25 ≤ j by omega) with rfl | rfl | rfl | rfl | rfl | rfl | rfl | rfl | rfl | rfl | rfl | rfl | rfl | rfl | rfl | rfl | rfl | rfl | rfl | rfl | rfl | rfl | rfl | rfl | rfl | hj25
      · exact lv_tableIn (tgt := 148) hx hb dL_law_32 (by decide) (by decide) (off := 116) (by decide) (by decide) (lw_case_bill S w hX hbl hL h5 hl hc hm hS hh hr K)
      · exact lv_tableIn (tgt := 201) hx hb dL_law_32 (by decide) (by decide) (off := 169) (by decide) (by decide) (lw_case_pay S w hX hbl hL h5 hl hc hm hS hh hr K)
      · exact lv_tableIn (tgt := 234) hx hb dL_law_32 (by decide) (by decide) (off := 202) (by decide) (by decide) (lw_case_payBill S w hX hbl hL h5 hl hc hm hS hh hr K)
      · exact lv_tableIn (tgt := 267) hx hb dL_law_32 (by decide) (by decide) (off := 235) (by decide) (by decide) (lw_case_payBack S w hX hbl hL h5 hl hc hm hS hh hr K)
      · exact lv_tableIn (tgt := 290) hx hb dL_law_32 (by decide) (by decide) (off := 258) (by decide) (by decide) (lw_case_pass S w hX hbl hL h5 hl hc hm hS hh hr K)
      · exact lv_tableIn (tgt := 313) hx hb dL_law_32 (by decide) (by decide) (off := 281) (by decide) (by decide) (lw_case_remind S w hX hbl hL h5 hl hc hm hS hh hr K)
      · exact lv_tableIn (tgt := 326) hx hb dL_law_32 (by decide) (by decide) (off := 294) (by decide) (by decide) (lw_case_writeOff S w hX hbl hL h5 hl hc hm hS hh hr K)
      · exact lv_tableIn (tgt := 349) hx hb dL_law_32 (by decide) (by decide) (off := 317) (by decide) (by decide) (lw_case_closeYear S w hX hbl hL h5 hl hc hm hS hh hr K)
      · exact lv_tableIn (tgt := 372) hx hb dL_law_32 (by decide) (by decide) (off := 340) (by decide) (by decide) (lw_case_set S w hX hbl hL h5 hl hc hm hS hh hr K)
      · exact lv_tableIn (tgt := 405) hx hb dL_law_32 (by decide) (by decide) (off := 373) (by decide) (by decide) (lw_case_type S w hX hbl hL h5 hl hc hm hS hh hr K)
      · exact lv_tableIn (tgt := 430) hx hb dL_law_32 (by decide) (by decide) (off := 398) (by decide) (by decide) (lw_case_clearText S w hX hbl hL h5 hl hc hm hS hh hr K)
      · exact lv_tableIn (tgt := 443) hx hb dL_law_32 (by decide) (by decide) (off := 411) (by decide) (by decide) (lw_case_perform S w hX hbl hL h5 hl hc hm hS hh hr K)
      · exact lv_tableIn (tgt := 456) hx hb dL_law_32 (by decide) (by decide) (off := 424) (by decide) (by decide) (lw_case_stopped S w hX hbl hL h5 hl hc hm hS hh hr K)
      · exact lv_tableIn (tgt := 479) hx hb dL_law_32 (by decide) (by decide) (off := 447) (by decide) (by decide) (lw_case_undo S w hX hbl hL h5 hl hc hm hS hh hr K)
      · exact lv_tableIn (tgt := 492) hx hb dL_law_32 (by decide) (by decide) (off := 460) (by decide) (by decide) (lw_case_keep S w hX hbl hL h5 hl hc hm hS hh hr K)
      · exact lv_tableIn (tgt := 505) hx hb dL_law_32 (by decide) (by decide) (off := 473) (by decide) (by decide) (lw_case_restore S w hX hbl hL h5 hl hc hm hS hh hr K)
      · exact lv_tableIn (tgt := 518) hx hb dL_law_32 (by decide) (by decide) (off := 486) (by decide) (by decide) (lw_case_billOf S w hX hbl hL h5 hl hc hm hS hh hr K)
      · exact lv_tableIn (tgt := 551) hx hb dL_law_32 (by decide) (by decide) (off := 519) (by decide) (by decide) (lw_case_customer S w hX hbl hL h5 hl hc hm hS hh hr K)
      · exact lv_tableIn (tgt := 584) hx hb dL_law_32 (by decide) (by decide) (off := 552) (by decide) (by decide) (lw_case_tax S w hX hbl hL h5 hl hc hm hS hh hr K)
      · exact lv_tableIn (tgt := 617) hx hb dL_law_32 (by decide) (by decide) (off := 585) (by decide) (by decide) (lw_case_reason S w hX hbl hL h5 hl hc hm hS hh hr K)
      · exact lv_tableIn (tgt := 640) hx hb dL_law_32 (by decide) (by decide) (off := 608) (by decide) (by decide) (lw_case_ifPaid S w hX hbl hL h5 hl hc hm hS hh hr K)
      · exact lv_tableIn (tgt := 683) hx hb dL_law_32 (by decide) (by decide) (off := 651) (by decide) (by decide) (lw_case_settles S w hX hbl hL h5 hl hc hm hS hh hr K)
      · exact lv_tableIn (tgt := 706) hx hb dL_law_32 (by decide) (by decide) (off := 674) (by decide) (by decide) (lw_case_nextReminder S w hX hbl hL h5 hl hc hm hS hh hr K)
      · exact lv_tableIn (tgt := 729) hx hb dL_law_32 (by decide) (by decide) (off := 697) (by decide) (by decide) (lw_case_worst S w hX hbl hL h5 hl hc hm hS hh hr K)
      · exact lv_tableIn (tgt := 742) hx hb dL_law_32 (by decide) (by decide) (off := 710) (by decide) (by decide) (lw_case_count S w hX hbl hL h5 hl hc hm hS hh hr K)
      · exact lv_tableOut (tgt := 765) hx hb dL_law_32 (Or.inr (by rw [nI_toInt (by omega)]; omega)) (by decide) (K z u H locs hc hm hS hh)
set_option maxHeartbeats 4000000 in
set_option maxRecDepth 100000 in
/-- the law, from its entry -/
theorem whole_start {p : Program} {e : Env} {s : State} {m : MethodId} {below : List Frame} {meth : Method} {c : Code} (l : Launch) (hflags : l.flags = flags0) {b L : Nat} {xs : Nat → Int32} (hL : L ≤ 2560) (C0 : lw_At p s m meth c b L xs) : W p l e room_1 s m #[Value.ref b] below meth c s.heap [] 0 0 (lw_Z below #[Value.ref b] s) (entryFrame m ([Value.ref b] : List Value).toArray 4) := by
  obtain ⟨hx, hb, hret, hml, hown, hts, hX, hbl, hlocks, hgv⟩ := id C0
  have S : CallFix p m c cL_law 4 s #[Value.ref b] BIG RL := ⟨hx, hb, hml, hown, fun w h => hts w (BIG_in w h)⟩
  obtain ⟨G, hK, hO⟩ := lw_Kp hts
  obtain ⟨t1, t2, hT⟩ := lw_STK hts hgv
  have hA : ∀ q : Nat, s.heap.size ≤ q → (fun q : Nat => s.heap.size ≤ q) q := fun _ h => h
  have hS : va_S (fun q : Nat => s.heap.size ≤ q) s.heap s.heap [] := va_S.rf
  have hP : eP G 0 (fun _ => 0) (fun _ => .inr (5, [])) s.heap := fun k q h => by simp [fW] at h
  have hD : eD (fun q : Nat => s.heap.size ≤ q) 0 (fun _ => 0) (fun _ => .inr (5, [])) := ⟨fun i j p q h => by simp [fW] at h, fun k q h => by simp [fW] at h⟩
  have hl := lv_entry ([.ref b]) (n := 4) (Nat.le_of_ble_eq_true rfl)
  rw [lg_entry_eq]
  generalize (lg_sl ([.ref b]) ++ List.replicate (4 - (lg_sl ([.ref b])).length) Slot.unset).toArray = ls at hl ⊢
  have hl : lv_has ls 4 [(0, .ref b)] := hl
  refine e_new S hK hP hD hS hA (ci := 5) rfl inlX5 tyX5 tyX5_ok k_0 k_1 k_2 (fs := [.null, .null, .null, .int 0, .null, .null, .int 0, .int 0, .int 0]) (fun j hj => by rcases (show j = 0 ∨ j = 1 ∨ j = 2 ∨ j = 3 ∨ j = 4 ∨ j = 5 ∨ j = 6 ∨ j = 7 ∨ j = 8 by omega) with rfl | rfl | rfl | rfl | rfl | rfl | rfl | rfl | rfl <;> rfl) (show 0 + 1 ≤ 600000 by omega) (show 0 + 9 ≤ 7302250 by omega) dL_law_0 (fun q H hP hD hS => ?_)
  refine lv_dup hx hb dL_law_3 rfl ?_
  have hq1 : aw (fun _ => 0) 0 q 0 = q := aw_same
  have hP1 : eP G 1 (fun _ => q) (fun _ => .inr (5, [.null, .null, .null, .int 0, .null, .null, .int 0, .int 0, .int 0])) H := eP_congr (eP_pick hP (show 0 < 0 + 1 by omega)) (fun _ _ => hq1.symm) (fun _ _ => ue_same.symm)
  have hqA : s.heap.size ≤ q := by
    have h := eD_A hD (show 0 < 0 + 1 by omega)
    rw [hq1] at h
    exact h
  have hsub : ∀ x, nA q H.size x → s.heap.size ≤ x := fun x hx => by
    rcases hx with rfl | hx
    · exact hqA
    · exact Nat.le_trans hS.1 hx
  refine n_callI S hK hO hP1 (c_X5_init l G q H.size) k_8 k_6 k_7 k_2 rfl q_X5_init ⟨Nat.le_of_ble_eq_true rfl, Nat.le_of_ble_eq_true rfl⟩ rfl rfl hl.1 (Nat.le_of_ble_eq_true rfl) dL_law_4 ⟨show 0 + 1 + 333 ≤ 600000 by omega, show 0 + 9 + 5829 ≤ 7302250 by omega⟩ hS hsub (fun H1 locs1 hQ hk1 hz1 hS => ?_)
  obtain ⟨b0, h10, hI0, ho0, hQ⟩ := hQ
  have hb0 : ∀ i, i < 334 → s.heap.size ≤ b0 i := fun i hi => by
    rcases Nat.eq_zero_or_pos i with rfl | h0
    · rw [h10]; exact hqA
    · exact hsub _ (Or.inr (ho0 i h0 hi))
  have hD0 : eD (fun q : Nat => s.heap.size ≤ q) 334 b0 (iEk G b0) := eD_of hI0 hb0
  refine lv_astore_n (lv' := [(1, .ref q), (0, .ref b)]) hx hb dL_law_7 rfl hl (by decide) rfl (fun ls hl => ?_)
  refine e_new S hK hQ hD0 hS hA (ci := 6) rfl inlX6 tyX6 tyX6_ok k_3 k_4 k_5 (fs := [.null, .null, .null, .null, .int 0, .null, .int 0, .null, .int 0, .int 0, .int 0, .int 0, .int 0, .null, .int 0]) (fun j hj => by rcases (show j = 0 ∨ j = 1 ∨ j = 2 ∨ j = 3 ∨ j = 4 ∨ j = 5 ∨ j = 6 ∨ j = 7 ∨ j = 8 ∨ j = 9 ∨ j = 10 ∨ j = 11 ∨ j = 12 ∨ j = 13 ∨ j = 14 by omega) with rfl | rfl | rfl | rfl | rfl | rfl | rfl | rfl | rfl | rfl | rfl | rfl | rfl | rfl | rfl <;> rfl) (show 0 + 1 + 333 + 1 ≤ 600000 by omega) (show 0 + 9 + 5829 + 15 ≤ 7302250 by omega) dL_law_8 (fun q2 H hP hD hS => ?_)
  refine lv_dup hx hb dL_law_11 rfl ?_
  have hq2 : aw b0 334 q2 334 = q2 := aw_same
  have hP2 : eP G 1 (fun _ => q2) (fun _ => .inr (6, [.null, .null, .null, .null, .int 0, .null, .int 0, .null, .int 0, .int 0, .int 0, .int 0, .int 0, .null, .int 0])) H := eP_congr (eP_pick hP (show 334 < 334 + 1 by omega)) (fun _ _ => hq2.symm) (fun _ _ => ue_same.symm)
  have hqB : s.heap.size ≤ q2 := by
    have h := eD_A hD (show 334 < 334 + 1 by omega)
    rw [hq2] at h
    exact h
  have hP0 : eP G 334 b0 (iEk G b0) H := fP_of fun i hi => by
    have hi := List.mem_range.mp hi
    have h := fP_at hP (List.mem_range.mpr (show i < 334 + 1 by omega))
    rw [aw_ne (by omega), ue_ne (by omega)] at h
    exact h
  have hne : ∀ i, i < 334 → b0 i ≠ q2 := fun i hi h => by
    have h2 := (eD_inj hD).2 i (List.mem_range.mpr (by omega)) 334 (List.mem_range.mpr (by omega)) (by rw [aw_ne (by omega), hq2]; exact h)
    omega
  have hlt : ∀ i, i < 334 → b0 i < H.size := fun i hi => (fP_at hP0 (List.mem_range.mpr hi)).lt
  have hsub2 : ∀ x, nA q2 H.size x → s.heap.size ≤ x := fun x hx => by
    rcases hx with rfl | hx
    · exact hqB
    · exact Nat.le_trans hS.1 hx
  refine n_callI S hK hO hP2 (c_X6_init l G q2 H.size) k_65 k_63 k_64 k_5 rfl q_X6_init ⟨Nat.le_of_ble_eq_true rfl, Nat.le_of_ble_eq_true rfl⟩ rfl rfl hl.1 (Nat.le_of_ble_eq_true rfl) dL_law_12 ⟨show 0 + 1 + 333 + 1 + 7 ≤ 600000 by omega, show 0 + 9 + 5829 + 15 + 5769 ≤ 7302250 by omega⟩ hS hsub2 (fun H2 locs2 hQ2 hk2 hz2 hS => ?_)
  obtain ⟨d0, h20, hI2, ho2, hQ2⟩ := hQ2
  have hd0 : ∀ j, j < 8 → s.heap.size ≤ d0 j := fun j hj => by
    rcases Nat.eq_zero_or_pos j with rfl | h0
    · rw [h20]; exact hqB
    · exact hsub2 _ (Or.inr (ho2 j h0 hj))
  have hP3 : eP G 334 b0 (iEk G b0) H2 := fP_of fun i hi => by
    have hi' := List.mem_range.mp hi
    refine (fP_at hP0 hi).kept (hk2 _ (hlt i hi') ?_)
    rintro (h | h)
    · exact hne i hi' h
    · have := hlt i hi'
      omega
  have hdis : ∀ i j, i < 334 → j < 8 → b0 (piI i) ≠ d0 j := fun i j hi hj h => by
    rcases Nat.eq_zero_or_pos j with rfl | h0
    · exact hne _ (piI_lt hi) (h.trans h20)
    · have := hlt _ (piI_lt hi)
      have := ho2 j h0 hj
      omega
  have w : lw_W G (fun i => b0 (piI i)) d0 t1 t2 s := ⟨gI_of hI0, hI2, fun i hi => hb0 _ (piI_lt hi), hd0, hdis, hK, hT⟩
  refine lv_astore_n (lv' := [(2, .ref q2), (1, .ref q), (0, .ref b)]) hx hb dL_law_15 rfl hl (by decide) rfl (fun ls hl => ?_)
  refine lv_iconst (v := nI 0) hx hb dL_law_16 (by decide) ?_
  refine lv_istore_n (lv' := [(3, .int (nI 0)), (2, .ref q2), (1, .ref q), (0, .ref b)]) hx hb dL_law_17 rfl hl (by decide) rfl (fun ls hl => ?_)
  have hl : lv_has ls 4 [(0, .ref b), (1, .ref q), (2, .ref q2), (3, .int (nI 0))] := lv_sub hl [3, 2, 1, 0] rfl
  rw [← h10, ← h20] at hl
  exact law_loop hL C0 w ⟨show 0 + 1 + 333 + 1 + 7 ≤ 600000 by omega, show 0 + 9 + 5829 + 15 + 5769 ≤ 7302250 by omega⟩ (L + 1) 0 (Nat.zero_le L) (by omega) z0 mI0 H2 locs2 (c_of hP3) (mP_of hQ2) hS RL_start ls hl
