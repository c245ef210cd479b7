/-! THE CLAIM OUT OF ONE WALK OF THE LAW'S BODY. Your part is whole_start (and what it stands on); all else here is the same for every law, but numbers. -/
def R_law : String := "InvoiceBookLaw"
def lw_P (b : Addr) (xs : List Int32) (args : Array Value) (s : State) : Prop := args = #[.ref b] ∧ s.IntsAt b xs ∧ xs.length ≤ 260 ∧ (Jvm.Cond.and given_1 narrow_1).before args s = true
def lw_Q (_ : Array Value) (s : State) (o : Outcome) (t : State) : Prop := o = .returned (some (.int 1)) ∧ Framed s o t [] 600000 7302250
def lw_Z (below : List Frame) (a : Array Value) (s : State) : State → Prop := fun t => ∃ o, t.status = .running ∧ Ended t below o ∧ lw_Q a s o t
/-- the law's own end, with 1 on the stack, nothing written that was there before, its room as the claim has it -/
theorem lw_ret {p : Program} {l : Launch} {e : Env} {s : State} {m : MethodId} {below : List Frame} {meth : Method} {c : Code} {b : Nat} (hx : p.tables.exec = Jvm.exec) (hb : c.code = code) (hr : meth.sig.returnType = ret) (hlocks : meth.locks = false) {pc : Nat} {H : Heap} {ls : Array Slot} (hdg : decode code pc = .ok (.ireturn, 1)) : W p l e room_1 s m #[Value.ref b] below meth c H [] 600000 7302250 (lw_Z below #[Value.ref b] s) (F0 m pc ls [.int 1]) := by
  intro T hT X
  obtain ⟨fs, hret, hrun, hended, hW, hframe⟩ := X.leave (v := some (.int 1)) (hlocks := hlocks) (fun h => by rw [hr] at h; cases h)
  have hmeth' : T.vm.method? m = some meth := X.method'
  refine ⟨T.setFrames fs, ?_, .returned (some (.int 1)), hrun, hended, rfl, ⟨_, rfl⟩, hW, hframe⟩
  jvm_step X.here [X.here.top, hx, hb, hdg, hmeth', hr, ret, narrow_b1]
  (try refine ⟨rfl, ?_⟩); (try refine ⟨rfl, ?_⟩)
  first | (intro acts; rw [hret _ acts rfl rfl rfl]) | rw [hret _ _ rfl rfl rfl]
  exact Steps.refl _
/-- what holds at the law's entry: the machine, the code, the tables' words (any of lw_tbl by 'hts w (by decide +kernel)'), the script of L ints xs at the cell b, what the Statement gives of the start (any of its parts by flat_of_before) -/
def lw_At (p : Program) (s : State) (m : MethodId) (meth : Method) (c : Code) (b L : Nat) (xs : Nat → Int32) : Prop :=
  p.tables.exec = Jvm.exec ∧ c.code = code ∧ meth.sig.returnType = ret ∧ c.maxLocals = 9 ∧ s.vm.findClass R_law = some m.cls ∧ (∀ w ∈ lw_tbl, w.before #[Value.ref b] s = true) ∧ va_X b L xs s s.heap ∧ b < s.heap.size ∧ meth.locks = false ∧ (Jvm.Cond.and given_1 narrow_1).before #[Value.ref b] s = true
set_option maxHeartbeats 4000000 in
set_option maxRecDepth 100000 in
/-- the law's loop: at its head, with i turns done, the numbers go together -/
theorem law_loop {p : Program} {l : Launch} {e : Env} {s : State} {m : MethodId} {below : List Frame} {meth : Method} {c : Code} {b L : Nat} {xs : Nat → Int32} (hL : L ≤ 260) (C0 : lw_At p s m meth c b L xs) {G : kG} {a : Nat → Nat} {t1 t2 : Nat} (hI1 : gI 334 a) (hA1 : ∀ i, i < 334 → s.heap.size ≤ a i) (hK : Kp G s) (hT : STK (fun q => s.heap.size ≤ q) t1 t2 s s.heap) {cells slots : Nat} (hr : cells ≤ room_1.cells ∧ slots ≤ room_1.slots) {T : Nat} (hT86 : T ≤ 86) :
    ∀ (n i : Nat), i ≤ T → T + 1 ≤ i + n → ∀ (z : CS) (k : Nat) (H : Heap) (locs : List Loc), NV z k → cP G a z H → va_S (fun q => s.heap.size ≤ q) s.heap H locs → ∀ (ls : Array Slot), lv_has ls 9 [(0, .ref b), (1, .ref (a 329)), (2, .int 1), (3, .int (nI T)), (4, .int (nI i))] → W p l e room_1 s m #[Value.ref b] below meth c H locs cells slots (lw_Z below #[Value.ref b] s) (F0 m 61 ls []) := by
  obtain ⟨hx, hb, hret, hml, hown, hts, hX, hbl, hlocks, hgv⟩ := C0
  have S : CallFix p m c cL_law 9 s #[Value.ref b] BIG RL := ⟨hx, hb, hml, hown, fun w h => hts w (BIG_in w h)⟩
  have hbA : ¬ (fun q : Nat => s.heap.size ≤ q) b := Nat.not_le.mpr hbl
  intro n
  induction n with
  | zero =>
    intro i h1 h2
    exact absurd h2 (by omega)
  | succ n ih =>
    intro i hi hin z k H locs h hc hS ls hl
    refine lv_iload hx hb dL_law_61 (lv_at hl 4 rfl) ?_
    refine lv_iload_n hx hb dL_law_63 rfl (lv_at hl 3 rfl) ?_
    refine lv_icmp_ge (tgt := 217) hx hb dL_law_64 (by decide) (fun _ => ?_) (fun c1 => ?_)
    · refine lv_iload_n hx hb dL_law_217 rfl (lv_at hl 2 rfl) ?_
      refine va_forget (fun q hq => hS.2.2 q hq) ?_
      refine W.widen (k := 600000) (n := 7302250) hr.1 hr.2 ?_
      exact lw_ret hx hb hret hlocks dL_law_218
    have hiT : i < T := by
      by_cases g : i < T
      · exact g
      · exact absurd ((nI_leI (by omega) (by omega)).mpr (by omega)) c1
    have hh : v_X5_count z (20 : Int32) = nI k := h.2.2.2.2.1
    refine lv_iload_n hx hb dL_law_67 rfl (lv_at hl 2 rfl) ?_
    refine lv_if_eq (tgt := 217) hx hb dL_law_68 (by decide) (fun c => absurd c (by decide)) (fun _ => ?_)
    have K205 : ∀ (z2 : CS) (k2 : Nat) (H : Heap) (locs : List Loc) (ls : Array Slot), NV z2 k2 → cP G a z2 H → va_S (fun q => s.heap.size ≤ q) s.heap H locs → lv_has ls 9 [(0, .ref b), (1, .ref (a 329)), (3, .int (nI T)), (4, .int (nI i))] → W p l e room_1 s m #[Value.ref b] below meth c H locs cells slots (lw_Z below #[Value.ref b] s) (F0 m 205 ls []) := by
      intro z2 k2 H locs ls h2 hc hS hl
      refine lv_iconst (v := 1) hx hb dL_law_205 (by decide) ?_
      refine lv_goto (tgt := 210) hx hb dL_law_206 (by decide) ?_
      refine lv_istore_n (lv' := [(2, .int 1), (0, .ref b), (1, .ref (a 329)), (3, .int (nI T)), (4, .int (nI i))]) hx hb dL_law_210 rfl hl (by decide) rfl (fun ls hl => ?_)
      refine lv_iinc (v := nI (i + 1)) (lv' := [(4, .int (nI (i + 1))), (2, .int 1), (0, .ref b), (1, .ref (a 329)), (3, .int (nI T))]) hx hb dL_law_211 hl (k := 4) rfl (nI_add i 1) (by decide) rfl (fun ls hl => ?_)
      refine lv_goto (tgt := 61) hx hb dL_law_214 (by decide) ?_
      exact ih (i + 1) hiT (by omega) z2 k2 H locs h2 hc hS ls (lv_sub hl [2, 3, 1, 4, 0] rfl)
    refine lv_aload_n hx hb dL_law_71 rfl (lv_at hl 0 rfl) ?_
    refine lv_iconst (v := nI 3) hx hb dL_law_72 (by decide) ?_
    refine lv_iload hx hb dL_law_73 (lv_at hl 4 rfl) ?_
    refine lv_imul hx hb dL_law_75 ?_
    refine r_top (pk_mul 3 i) ?_
    refine r_callSC S hK hX hbl hbA hc (c_L_cell l G (cP G a z) b L xs (3 * i) (by omega) (by omega)) (r_cs S k_274 k_272 k_273 k_62 q_L_cell ⟨Nat.le_of_ble_eq_true rfl, Nat.le_of_ble_eq_true rfl⟩ rfl rfl) rfl hl.1 rfl (Nat.le_of_ble_eq_true rfl) dL_law_76 hr hS (fun _ h => h.elim) (fun H locs hc _ _ hS => ?_)
    refine lv_bipush (v := nI 17) hx hb dL_law_79 (by decide) ?_
    refine r_callS S hK hc (c_L_low l G (cP G a z) (fun _ => False) (v_cell L xs (3 * i)) (nI 17) (by decide)) (r_cs S k_278 k_276 k_277 k_62 q_L_low ⟨Nat.le_of_ble_eq_true rfl, Nat.le_of_ble_eq_true rfl⟩ rfl rfl) rfl hl.1 rfl (Nat.le_of_ble_eq_true rfl) dL_law_81 hr hS (fun _ h => h.elim) (fun H locs hc _ _ hS => ?_)
    obtain ⟨q, hq, eq⟩ := low_e (v_cell L xs (3 * i)) (n := 17) (by decide) (by decide)
    refine r_top eq ?_
    refine lv_istore (lv' := [(5, .int (nI q)), (0, .ref b), (1, .ref (a 329)), (2, .int 1), (3, .int (nI T)), (4, .int (nI i))]) hx hb dL_law_84 hl (by decide) rfl (fun ls hl => ?_)
    refine lv_aload_n hx hb dL_law_86 rfl (lv_at hl 2 rfl) ?_
    refine lv_bipush (v := 20) hx hb dL_law_87 (by decide) ?_
    refine r_callI S hK hc (c_X5_count l G a hI1 z (20 : Int32) h.1 h.2.1) (r_cw S k_67 k_64 k_65 k_66 k_2 q_X5_count ⟨Nat.le_of_ble_eq_true rfl, Nat.le_of_ble_eq_true rfl⟩ rfl rfl) (g_recv hK hc (i := 329) (by omega) cC0 rfl) rfl hl.1 rfl (Nat.le_of_ble_eq_true rfl) dL_law_89 hr hS (lw_A hA1) (fun H locs hc _ _ hS => ?_)
    refine r_top hh ?_
    refine lv_istore (lv' := [(6, .int (nI k)), (5, .int (nI q)), (0, .ref b), (1, .ref (a 329)), (2, .int 1), (3, .int (nI T)), (4, .int (nI i))]) hx hb dL_law_92 hl (by decide) rfl (fun ls hl => ?_)
    refine lv_aload_n hx hb dL_law_94 rfl (lv_at hl 3 rfl) ?_
    refine lv_iload hx hb dL_law_95 (lv_at hl 1 rfl) ?_
    refine lv_aload_n hx hb dL_law_97 rfl (lv_at hl 2 rfl) ?_
    refine lv_iconst (v := nI 3) hx hb dL_law_98 (by decide) ?_
    refine lv_iload hx hb dL_law_99 (lv_at hl 6 rfl) ?_
    refine lv_imul hx hb dL_law_101 ?_
    refine r_top (pk_mul 3 i) ?_
    refine lv_iconst (v := nI 1) hx hb dL_law_102 (by decide) ?_
    refine lv_iadd hx hb dL_law_103 ?_
    refine r_top (nI_add _ _) ?_
    refine r_callSC S hK hX hbl hbA hc (c_L_cell l G (cP G a z) b L xs (3 * i + 1) (by omega) (by omega)) (r_cs S k_274 k_272 k_273 k_62 q_L_cell ⟨Nat.le_of_ble_eq_true rfl, Nat.le_of_ble_eq_true rfl⟩ rfl rfl) rfl hl.1 rfl (Nat.le_of_ble_eq_true rfl) dL_law_104 hr hS (fun _ h => h.elim) (fun H locs hc _ _ hS => ?_)
    refine lv_aload_n hx hb dL_law_107 rfl (lv_at hl 2 rfl) ?_
    refine lv_iconst (v := nI 3) hx hb dL_law_108 (by decide) ?_
    refine lv_iload hx hb dL_law_109 (lv_at hl 6 rfl) ?_
    refine lv_imul hx hb dL_law_111 ?_
    refine r_top (pk_mul 3 i) ?_
    refine lv_iconst (v := nI 2) hx hb dL_law_112 (by decide) ?_
    refine lv_iadd hx hb dL_law_113 ?_
    refine r_top (nI_add _ _) ?_
    refine r_callSC S hK hX hbl hbA hc (c_L_cell l G (cP G a z) b L xs (3 * i + 2) (by omega) (by omega)) (r_cs S k_274 k_272 k_273 k_62 q_L_cell ⟨Nat.le_of_ble_eq_true rfl, Nat.le_of_ble_eq_true rfl⟩ rfl rfl) rfl hl.1 rfl (Nat.le_of_ble_eq_true rfl) dL_law_114 hr hS (fun _ h => h.elim) (fun H locs hc _ _ hS => ?_)
    refine r_callSX S hK hT hc (c_L_act l G a hI1 z t1 t2 (nI q) (v_cell L xs (3 * i + 1)) (v_cell L xs (3 * i + 2)) h.1 h.2.1) (r_cs S k_282 k_280 k_281 k_62 q_L_act ⟨Nat.le_of_ble_eq_true rfl, Nat.le_of_ble_eq_true rfl⟩ rfl rfl) rfl hl.1 rfl (Nat.le_of_ble_eq_true rfl) dL_law_117 hr hS (lw_A hA1) (fun H locs hc _ _ hS => ?_)
    have step := L_step h hq (v_cell L xs (3 * i + 1)) (v_cell L xs (3 * i + 2))
    generalize v_L_act z (nI q) (v_cell L xs (3 * i + 1)) (v_cell L xs (3 * i + 2)) = t at step ⊢
    generalize w_L_act z (nI q) (v_cell L xs (3 * i + 1)) (v_cell L xs (3 * i + 2)) = z1 at step hc
    refine lv_istore (lv' := [(7, .int t), (6, .int (nI k)), (5, .int (nI q)), (0, .ref b), (1, .ref (a 329)), (2, .int 1), (3, .int (nI T)), (4, .int (nI i))]) hx hb dL_law_120 hl (by decide) rfl (fun ls hl => ?_)
    have K160 : ∀ (v : Int32) (k1 : Nat), v = nI k1 → NV z1 k1 → W p l e room_1 s m #[Value.ref b] below meth c H locs cells slots (lw_Z below #[Value.ref b] s) (F0 m 160 ls [.int v]) := by
      intro v k1 ev h1
      obtain ⟨y1, y2, y3⟩ := NV_q h1
      have hh1 : v_X5_count z1 (20 : Int32) = v := (show v_X5_count z1 (20 : Int32) = nI k1 from h1.2.2.2.2.1).trans ev.symm
      refine lv_istore (lv' := [(8, .int v), (7, .int t), (6, .int (nI k)), (5, .int (nI q)), (0, .ref b), (1, .ref (a 329)), (2, .int 1), (3, .int (nI T)), (4, .int (nI i))]) hx hb dL_law_160 hl (by decide) rfl (fun ls hl => ?_)
      refine lv_aload_n hx hb dL_law_162 rfl (lv_at hl 5 rfl) ?_
      refine lv_bipush (v := 20) hx hb dL_law_163 (by decide) ?_
      refine r_callI S hK hc (c_X5_count l G a hI1 z1 (20 : Int32) h1.1 h1.2.1) (r_cw S k_67 k_64 k_65 k_66 k_2 q_X5_count ⟨Nat.le_of_ble_eq_true rfl, Nat.le_of_ble_eq_true rfl⟩ rfl rfl) (g_recv hK hc (i := 329) (by omega) cC0 rfl) rfl hl.1 rfl (Nat.le_of_ble_eq_true rfl) dL_law_165 hr hS (lw_A hA1) (fun H locs hc _ _ hS => ?_)
      refine lv_iload hx hb dL_law_168 (lv_at hl 0 rfl) ?_
      refine lv_icmp_ne (tgt := 209) hx hb dL_law_170 (by decide) (fun q => absurd hh1 q) (fun _ => ?_)
      refine lv_aload_n hx hb dL_law_173 rfl (lv_at hl 5 rfl) ?_
      refine r_callS S hK hc (c_L_holds l G a hI1 z1 h1.1 h1.2.1 y2 y3) (r_cs S k_63 k_60 k_61 k_62 q_L_holds ⟨Nat.le_of_ble_eq_true rfl, Nat.le_of_ble_eq_true rfl⟩ rfl rfl) rfl hl.1 rfl (Nat.le_of_ble_eq_true rfl) dL_law_174 hr hS (lw_A hA1) (fun H locs hc _ _ hS => ?_)
      refine r_top y1 ?_
      refine lv_if_eq (tgt := 209) hx hb dL_law_177 (by decide) (fun c => absurd c (by decide)) (fun _ => ?_)
      refine lv_iload hx hb dL_law_180 (lv_at hl 8 rfl) ?_
      refine lv_iconst (v := 4) hx hb dL_law_182 (by decide) ?_
      refine lv_irem hx hb dL_law_183 (by decide) ?_
      refine lv_iconst (v := 3) hx hb dL_law_184 (by decide) ?_
      refine lv_icmp_ne (tgt := 205) hx hb dL_law_185 (by decide) (fun _ => K205 z1 k1 H locs ls h1 hc hS (lv_sub hl [4, 5, 7, 8] rfl)) (fun _ => ?_)
      refine lv_aload_n hx hb dL_law_188 rfl (lv_at hl 5 rfl) ?_
      refine lv_aload_n hx hb dL_law_189 rfl (lv_at hl 4 rfl) ?_
      refine lv_iconst (v := nI 3) hx hb dL_law_190 (by decide) ?_
      refine lv_iload hx hb dL_law_191 (lv_at hl 8 rfl) ?_
      refine lv_imul hx hb dL_law_193 ?_
      refine r_top (pk_mul 3 i) ?_
      refine lv_iconst (v := nI 2) hx hb dL_law_194 (by decide) ?_
      refine lv_iadd hx hb dL_law_195 ?_
      refine r_top (nI_add _ _) ?_
      refine r_callSC S hK hX hbl hbA hc (c_L_cell l G (cP G a z1) b L xs (3 * i + 2) (by omega) (by omega)) (r_cs S k_274 k_272 k_273 k_62 q_L_cell ⟨Nat.le_of_ble_eq_true rfl, Nat.le_of_ble_eq_true rfl⟩ rfl rfl) rfl hl.1 rfl (Nat.le_of_ble_eq_true rfl) dL_law_196 hr hS (fun _ h => h.elim) (fun H locs hc _ _ hS => ?_)
      obtain ⟨y4, k2, y5⟩ := tries_1 h1 (v_cell L xs (3 * i + 2))
      refine r_callS S hK hc (c_L_tries l G a hI1 z1 (v_cell L xs (3 * i + 2)) h1.1 h1.2.1) (r_cs S k_439 k_437 k_438 k_62 q_L_tries ⟨Nat.le_of_ble_eq_true rfl, Nat.le_of_ble_eq_true rfl⟩ rfl rfl) rfl hl.1 rfl (Nat.le_of_ble_eq_true rfl) dL_law_199 hr hS (lw_A hA1) (fun H locs hc _ _ hS => ?_)
      refine r_top y4 ?_
      refine lv_if_eq (tgt := 209) hx hb dL_law_202 (by decide) (fun c => absurd c (by decide)) (fun _ => ?_)
      exact K205 _ k2 H locs ls y5 hc hS (lv_sub hl [4, 5, 7, 8] rfl)
    refine lv_iload hx hb dL_law_122 (lv_at hl 0 rfl) ?_
    rcases step with ⟨s1, s2⟩ | ⟨s1, s2, k', s3, s4⟩ | ⟨s1, s2, s3⟩
    · refine lv_if_ge (tgt := 132) hx hb dL_law_124 (by decide) (fun c => absurd s1 (Int32.not_lt.mpr c)) (fun _ => ?_)
      refine lv_iload hx hb dL_law_127 (lv_at hl 1 rfl) ?_
      refine lv_goto (tgt := 160) hx hb dL_law_129 (by decide) ?_
      exact K160 _ k rfl s2
    · refine lv_if_ge (tgt := 132) hx hb dL_law_124 (by decide) (fun _ => ?_) (fun c => absurd (Int32.not_lt.mp s1) c)
      refine lv_iload hx hb dL_law_132 (lv_at hl 2 rfl) ?_
      refine lv_bipush (v := nI 16) hx hb dL_law_134 (by decide) ?_
      refine lv_icmp_ne (tgt := 146) hx hb dL_law_136 (by decide) (fun c => absurd (congrArg nI s2) c) (fun _ => ?_)
      refine lv_iload hx hb dL_law_139 (lv_at hl 1 rfl) ?_
      refine lv_iconst (v := 1) hx hb dL_law_141 (by decide) ?_
      refine lv_isub hx hb dL_law_142 ?_
      refine lv_goto (tgt := 160) hx hb dL_law_143 (by decide) ?_
      exact K160 _ k' (by rw [s3]; exact nI_pred k') s4
    · refine lv_if_ge (tgt := 132) hx hb dL_law_124 (by decide) (fun _ => ?_) (fun c => absurd (Int32.not_lt.mp s1) c)
      refine lv_iload hx hb dL_law_132 (lv_at hl 2 rfl) ?_
      refine lv_bipush (v := nI 16) hx hb dL_law_134 (by decide) ?_
      refine lv_icmp_ne (tgt := 146) hx hb dL_law_136 (by decide) (fun _ => ?_) (fun c => absurd ((nI_eq (by omega) (by decide)).mp c) s2)
      refine lv_iload hx hb dL_law_146 (lv_at hl 1 rfl) ?_
      refine lv_iconst (v := nI 4) hx hb dL_law_148 (by decide) ?_
      have h4 := h.2.2.2.1
      by_cases g : k = 4
      · refine lv_icmp_ne (tgt := 156) hx hb dL_law_149 (by decide) (fun c => absurd (congrArg nI g) c) (fun _ => ?_)
        refine lv_iconst (v := nI 4) hx hb dL_law_152 (by decide) ?_
        refine lv_goto (tgt := 160) hx hb dL_law_153 (by decide) ?_
        exact K160 _ _ (by unfold up4; rw [if_pos g]) s3
      · refine lv_icmp_ne (tgt := 156) hx hb dL_law_149 (by decide) (fun _ => ?_) (fun c => absurd ((nI_eq (by omega) (by decide)).mp c) g)
        refine lv_iload hx hb dL_law_156 (lv_at hl 1 rfl) ?_
        refine lv_iconst (v := 1) hx hb dL_law_158 (by decide) ?_
        refine lv_iadd hx hb dL_law_159 ?_
        exact K160 _ _ (by unfold up4; rw [if_neg g]; exact nI_1 k) s3
set_option maxHeartbeats 4000000 in
set_option maxRecDepth 100000 in
/-- the law, from its entry -/
theorem whole_start {p : Program} {e : Env} {s : State} {m : MethodId} {below : List Frame} {meth : Method} {c : Code} (l : Launch) (hflags : l.flags = flags0) {b L : Nat} {xs : Nat → Int32} (hL : L ≤ 260) (C0 : lw_At p s m meth c b L xs) : W p l e room_1 s m #[Value.ref b] below meth c s.heap [] 0 0 (lw_Z below #[Value.ref b] s) (entryFrame m ([Value.ref b] : List Value).toArray 9) := by
  obtain ⟨hx, hb, hret, hml, hown, hts, hX, hbl, hlocks, hgv⟩ := id C0
  have S : CallFix p m c cL_law 9 s #[Value.ref b] BIG RL := ⟨hx, hb, hml, hown, fun w h => hts w (BIG_in w h)⟩
  have hbA : ¬ (fun q : Nat => s.heap.size ≤ q) b := Nat.not_le.mpr hbl
  obtain ⟨G, hK, hO⟩ := lw_Kp hts
  obtain ⟨t1, t2, hT⟩ := lw_STK hts hgv
  have hA : ∀ q : Nat, s.heap.size ≤ q → (fun q : Nat => s.heap.size ≤ q) q := fun _ h => h
  have hS : va_S (fun q : Nat => s.heap.size ≤ q) s.heap s.heap [] := va_S.rf
  have hP : eP G 0 (fun _ => 0) (fun _ => .inr (5, [])) s.heap := fun k q h => by simp [fW] at h
  have hD : eD (fun q : Nat => s.heap.size ≤ q) 0 (fun _ => 0) (fun _ => .inr (5, [])) := ⟨fun i j p q h => by simp [fW] at h, fun k q h => by simp [fW] at h⟩
  have hl := lv_entry ([.ref b]) (n := 9) (Nat.le_of_ble_eq_true rfl)
  rw [lg_entry_eq]
  generalize (lg_sl ([.ref b]) ++ List.replicate (9 - (lg_sl ([.ref b])).length) Slot.unset).toArray = ls at hl ⊢
  have hl : lv_has ls 9 [(0, .ref b)] := hl
  refine e_new S hK hP hD hS hA (ci := 5) rfl inlX5 tyX5 tyX5_ok k_0 k_1 k_2 (fs := [.null, .null, .null, .int 0, .null, .null, .int 0, .int 0, .int 0]) (fun j hj => by rcases (show j = 0 ∨ j = 1 ∨ j = 2 ∨ j = 3 ∨ j = 4 ∨ j = 5 ∨ j = 6 ∨ j = 7 ∨ j = 8 by omega) with rfl | rfl | rfl | rfl | rfl | rfl | rfl | rfl | rfl <;> rfl) (show 0 + 1 ≤ 600000 by omega) (show 0 + 9 ≤ 7302250 by omega) dL_law_0 (fun q H hP hD hS => ?_)
  refine lv_dup hx hb dL_law_3 rfl ?_
  have hq1 : aw (fun _ => 0) 0 q 0 = q := aw_same
  have hP1 : eP G 1 (fun _ => q) (fun _ => .inr (5, [.null, .null, .null, .int 0, .null, .null, .int 0, .int 0, .int 0])) H := eP_congr (eP_pick hP (show 0 < 0 + 1 by omega)) (fun _ _ => hq1.symm) (fun _ _ => ue_same.symm)
  have hqA : s.heap.size ≤ q := by
    have h := eD_A hD (show 0 < 0 + 1 by omega)
    rw [hq1] at h
    exact h
  have hsub : ∀ x, nA q H.size x → s.heap.size ≤ x := fun x hx => by
    rcases hx with rfl | hx
    · exact hqA
    · exact Nat.le_trans hS.1 hx
  refine n_callI S hK hO hP1 (c_X5_init l G q H.size) k_5 k_3 k_4 k_2 rfl q_X5_init ⟨Nat.le_of_ble_eq_true rfl, Nat.le_of_ble_eq_true rfl⟩ rfl rfl hl.1 (Nat.le_of_ble_eq_true rfl) dL_law_4 ⟨show 0 + 1 + 333 ≤ 600000 by omega, show 0 + 9 + 5829 ≤ 7302250 by omega⟩ hS hsub (fun H1 locs1 hQ hk1 hz1 hS => ?_)
  obtain ⟨b0, h10, hI0, ho0, hQ⟩ := hQ
  have hb0 : ∀ i, i < 334 → s.heap.size ≤ b0 i := fun i hi => by
    rcases Nat.eq_zero_or_pos i with rfl | h0
    · rw [h10]; exact hqA
    · exact hsub _ (Or.inr (ho0 i h0 hi))
  refine lv_astore_n (lv' := [(1, .ref q), (0, .ref b)]) hx hb dL_law_7 rfl hl (by decide) rfl (fun ls hl => ?_)
  have hc := c_of hQ
  have hI1 := gI_of hI0
  have hA1 : ∀ i, i < 334 → s.heap.size ≤ (fun i => b0 (piI i)) i := fun i hi => hb0 _ (piI_lt hi)
  have ha : (fun i => b0 (piI i)) 329 = q := h10
  rw [← ha] at hl
  generalize (fun i => b0 (piI i)) = a at hc hI1 hA1 hl
  have hr : 0 + 1 + 333 ≤ room_1.cells ∧ 0 + 9 + 5829 ≤ room_1.slots := ⟨show 0 + 1 + 333 ≤ 600000 by omega, show 0 + 9 + 5829 ≤ 7302250 by omega⟩
  have hN := NV_0
  obtain ⟨y1, y2, y3⟩ := NV_q hN
  obtain ⟨u1, u2⟩ := NV_undo0 hN
  have y20 : v_X5_count z0 (20 : Int32) = 0 := (show v_X5_count z0 (20 : Int32) = nI 0 from hN.2.2.2.2.1)
  generalize z0 = z at hc hN y1 y2 y3 u1 u2 y20
  refine lv_aload_n hx hb dL_law_8 rfl (lv_at hl 0 rfl) ?_
  refine r_callS S hK hc (c_L_holds l G a hI1 z hN.1 hN.2.1 y2 y3) (r_cs S k_63 k_60 k_61 k_62 q_L_holds ⟨Nat.le_of_ble_eq_true rfl, Nat.le_of_ble_eq_true rfl⟩ rfl rfl) rfl hl.1 rfl (Nat.le_of_ble_eq_true rfl) dL_law_9 hr hS (lw_A hA1) (fun H locs hc _ _ hS => ?_)
  refine r_top y1 ?_
  refine lv_if_eq (tgt := 37) hx hb dL_law_12 (by decide) (fun c => absurd c (by decide)) (fun _ => ?_)
  refine lv_aload_n hx hb dL_law_15 rfl (lv_at hl 0 rfl) ?_
  refine lv_bipush (v := 20) hx hb dL_law_16 (by decide) ?_
  refine r_callI S hK hc (c_X5_count l G a hI1 z (20 : Int32) hN.1 hN.2.1) (r_cw S k_67 k_64 k_65 k_66 k_2 q_X5_count ⟨Nat.le_of_ble_eq_true rfl, Nat.le_of_ble_eq_true rfl⟩ rfl rfl) (g_recv hK hc (i := 329) (by omega) cC0 rfl) rfl hl.1 rfl (Nat.le_of_ble_eq_true rfl) dL_law_18 hr hS (lw_A hA1) (fun H locs hc _ _ hS => ?_)
  refine lv_if_ne (tgt := 37) hx hb dL_law_21 (by decide) (fun c => absurd y20 c) (fun _ => ?_)
  refine lv_aload_n hx hb dL_law_24 rfl (lv_at hl 0 rfl) ?_
  refine r_callI S hK hc (c_X5_undo l G a hI1 z hN.1 hN.2.1) (r_cw S k_266 k_263 k_264 k_265 k_2 q_X5_undo ⟨Nat.le_of_ble_eq_true rfl, Nat.le_of_ble_eq_true rfl⟩ rfl rfl) (g_recv hK hc (i := 329) (by omega) cC0 rfl) rfl hl.1 rfl (Nat.le_of_ble_eq_true rfl) dL_law_25 hr hS (lw_A hA1) (fun H locs hc _ _ hS => ?_)
  rw [u2] at hc
  refine lv_bipush (v := -5) hx hb dL_law_28 (by decide) ?_
  refine lv_icmp_ne (tgt := 37) hx hb dL_law_30 (by decide) (fun c => absurd u1 c) (fun _ => ?_)
  refine lv_iconst (v := 1) hx hb dL_law_33 (by decide) ?_
  refine lv_goto (tgt := 38) hx hb dL_law_34 (by decide) ?_
  refine lv_istore_n (lv' := [(2, .int 1), (1, .ref (a 329)), (0, .ref b)]) hx hb dL_law_38 rfl hl (by decide) rfl (fun ls hl => ?_)
  have K57 : ∀ T : Nat, T ≤ 86 → W p l e room_1 s m #[Value.ref b] below meth c H locs (0 + 1 + 333) (0 + 9 + 5829) (lw_Z below #[Value.ref b] s) (F0 m 57 ls [.int (nI T)]) := by
    intro T hT86
    refine lv_istore_n (lv' := [(3, .int (nI T)), (2, .int 1), (1, .ref (a 329)), (0, .ref b)]) hx hb dL_law_57 rfl hl (by decide) rfl (fun ls hl => ?_)
    refine lv_iconst (v := nI 0) hx hb dL_law_58 (by decide) ?_
    refine lv_istore (lv' := [(4, .int (nI 0)), (3, .int (nI T)), (2, .int 1), (1, .ref (a 329)), (0, .ref b)]) hx hb dL_law_59 hl (by decide) rfl (fun ls hl => ?_)
    exact law_loop hL C0 hI1 hA1 hK hT hr hT86 (T + 1) 0 (Nat.zero_le T) (by omega) z 0 H locs hN hc hS ls (lv_sub hl [4, 3, 2, 1, 0] rfl)
  have e3 : Int32.ofNat L / nI 3 = nI (L / 3) := pk_div (a := L) (by omega) (by decide) (by decide)
  refine lv_aload_n hx hb dL_law_39 rfl (lv_at hl 2 rfl) ?_
  refine va_slen hx hb hX hbl hbA hS dL_law_40 ?_
  refine lv_iconst (v := nI 3) hx hb dL_law_41 (by decide) ?_
  refine lv_idiv hx hb dL_law_42 (by decide) ?_
  refine r_top e3 ?_
  refine lv_bipush (v := nI 30) hx hb dL_law_43 (by decide) ?_
  refine lv_icmp_le (tgt := 53) hx hb dL_law_45 (by decide) (fun _ => ?_) (fun _ => ?_)
  · refine lv_aload_n hx hb dL_law_53 rfl (lv_at hl 2 rfl) ?_
    refine va_slen hx hb hX hbl hbA hS dL_law_54 ?_
    refine lv_iconst (v := nI 3) hx hb dL_law_55 (by decide) ?_
    refine lv_idiv hx hb dL_law_56 (by decide) ?_
    refine r_top e3 ?_
    exact K57 (L / 3) (by omega)
  · refine lv_bipush (v := nI 30) hx hb dL_law_48 (by decide) ?_
    refine lv_goto (tgt := 57) hx hb dL_law_50 (by decide) ?_
    exact K57 30 (by omega)
