/-! the law: its cases, one theorem each, from the place that the switch names to the place behind the switch -/
section LWC
variable {p : Program} {l : Launch} {e : Env} {s : State} {m : MethodId} {below : List Frame} {meth : Method} {c : Code} {H : Heap} {locs : List Loc} {cells slots : Nat} {Q : State → Prop} {ls : Array Slot} {G : kG} {a1 a2 : Nat → Nat} {t1 t2 b L i : Nat} {xs : Nat → Int32} {z : CS} {u : Nat → Nat → Int32}
set_option maxHeartbeats 4000000 in
set_option maxRecDepth 100000 in
theorem lw_case_bill (S : CallFix p m c cL_law 4 s #[Value.ref b] BIG RL) (w : lw_W G a1 a2 t1 t2 s) (hX : va_X b L xs s s.heap) (hbl : b < s.heap.size) (hL : L ≤ 2560) (hi : i + 5 ≤ L) (hl : lv_has ls 4 [(0, .ref b), (1, .ref (a1 329)), (2, .ref (a2 0)), (3, .int (nI i))]) (hc : cP G a1 z H) (hm : mP G a2 u H) (hS : va_S (fun q => s.heap.size ≤ q) s.heap H locs) (hh : RLz z u) (hr : cells ≤ room_1.cells ∧ slots ≤ room_1.slots)
    (kk : ∀ (z : CS) (u : Nat → Nat → Int32) (H : Heap) (locs : List Loc), cP G a1 z H → mP G a2 u H → va_S (fun q => s.heap.size ≤ q) s.heap H locs → RLz z u → W p l e room_1 s m #[Value.ref b] below meth c H locs cells slots Q (F0 m 765 ls [])) : W p l e room_1 s m #[Value.ref b] below meth c H locs cells slots Q (F0 m 148 ls []) := by
  have hx := S.1
  have hb := S.2.1
  obtain ⟨hI1, hI2, hA1, hA2, hd, hK, hT⟩ := w
  refine lv_aload_n hx hb dL_law_148 rfl (lv_at hl 1 rfl) ?_
  refine lw_arg S hX hbl hS hl hL 1 (by omega) (by decide) dL_law_149 dL_law_150 dL_law_151 dL_law_152 dL_law_153 ?_
  refine lw_arg S hX hbl hS hl hL 2 (by omega) (by decide) dL_law_154 dL_law_155 dL_law_156 dL_law_157 dL_law_158 ?_
  refine lw_arg S hX hbl hS hl hL 3 (by omega) (by decide) dL_law_159 dL_law_160 dL_law_161 dL_law_162 dL_law_163 ?_
  refine lw_arg S hX hbl hS hl hL 4 (by omega) (by decide) dL_law_164 dL_law_165 dL_law_166 dL_law_167 dL_law_168 ?_
  refine r_callI S hK hc (c_X5_bill l G a1 hI1 z (xs (i + 1)) (xs (i + 2)) (xs (i + 3)) (xs (i + 4)) hh.1 hh.2.1) (r_cw S k_79 k_76 k_77 k_78 k_2 q_X5_bill ⟨Nat.le_of_ble_eq_true rfl, Nat.le_of_ble_eq_true rfl⟩ rfl rfl) (g_recv hK hc (i := 329) (by omega) cC0 rfl) rfl hl.1 rfl (Nat.le_of_ble_eq_true rfl) dL_law_169 hr hS (lw_A hA1) (fun H locs hc hk1 _ hS => ?_)
  have hm := lw_mk hm hd hk1
  refine lv_aload_n hx hb dL_law_172 rfl (lv_at hl 2 rfl) ?_
  refine lw_arg S hX hbl hS hl hL 1 (by omega) (by decide) dL_law_173 dL_law_174 dL_law_175 dL_law_176 dL_law_177 ?_
  refine lw_arg S hX hbl hS hl hL 2 (by omega) (by decide) dL_law_178 dL_law_179 dL_law_180 dL_law_181 dL_law_182 ?_
  refine lw_arg S hX hbl hS hl hL 3 (by omega) (by decide) dL_law_183 dL_law_184 dL_law_185 dL_law_186 dL_law_187 ?_
  refine lw_arg S hX hbl hS hl hL 4 (by omega) (by decide) dL_law_188 dL_law_189 dL_law_190 dL_law_191 dL_law_192 ?_
  refine r_callI S hK hm (c_X6_bill l G a2 hI2 u (xs (i + 1)) (xs (i + 2)) (xs (i + 3)) (xs (i + 4)) (RL_SI hh) (RL_KI hh)) (r_cw S k_192 k_189 k_190 k_191 k_5 q_X6_bill ⟨Nat.le_of_ble_eq_true rfl, Nat.le_of_ble_eq_true rfl⟩ rfl rfl) (g_recv hK hm (i := 0) (by omega) mC0 rfl) rfl hl.1 rfl (Nat.le_of_ble_eq_true rfl) dL_law_193 hr hS (lw_A hA2) (fun H locs hm hk1 _ hS => ?_)
  have hc := lw_ck hc hd hk1
  exact lv_icmp_eq (tgt := 765) hx hb dL_law_196 (by decide) (fun _ => kk _ _ H locs hc hm hS (M_bill hh (xs (i + 1)) (xs (i + 2)) (xs (i + 3)) (xs (i + 4))).2) (fun q => absurd (M_bill hh (xs (i + 1)) (xs (i + 2)) (xs (i + 3)) (xs (i + 4))).1 q)
set_option maxHeartbeats 4000000 in
set_option maxRecDepth 100000 in
theorem lw_case_pay (S : CallFix p m c cL_law 4 s #[Value.ref b] BIG RL) (w : lw_W G a1 a2 t1 t2 s) (hX : va_X b L xs s s.heap) (hbl : b < s.heap.size) (hL : L ≤ 2560) (hi : i + 5 ≤ L) (hl : lv_has ls 4 [(0, .ref b), (1, .ref (a1 329)), (2, .ref (a2 0)), (3, .int (nI i))]) (hc : cP G a1 z H) (hm : mP G a2 u H) (hS : va_S (fun q => s.heap.size ≤ q) s.heap H locs) (hh : RLz z u) (hr : cells ≤ room_1.cells ∧ slots ≤ room_1.slots)
    (kk : ∀ (z : CS) (u : Nat → Nat → Int32) (H : Heap) (locs : List Loc), cP G a1 z H → mP G a2 u H → va_S (fun q => s.heap.size ≤ q) s.heap H locs → RLz z u → W p l e room_1 s m #[Value.ref b] below meth c H locs cells slots Q (F0 m 765 ls [])) : W p l e room_1 s m #[Value.ref b] below meth c H locs cells slots Q (F0 m 201 ls []) := by
  have hx := S.1
  have hb := S.2.1
  obtain ⟨hI1, hI2, hA1, hA2, hd, hK, hT⟩ := w
  refine lv_aload_n hx hb dL_law_201 rfl (lv_at hl 1 rfl) ?_
  refine lw_arg S hX hbl hS hl hL 1 (by omega) (by decide) dL_law_202 dL_law_203 dL_law_204 dL_law_205 dL_law_206 ?_
  refine lw_arg S hX hbl hS hl hL 2 (by omega) (by decide) dL_law_207 dL_law_208 dL_law_209 dL_law_210 dL_law_211 ?_
  refine r_callI S hK hc (c_X5_pay l G a1 hI1 z (xs (i + 1)) (xs (i + 2)) hh.1 hh.2.1) (r_cw S k_249 k_246 k_247 k_248 k_2 q_X5_pay ⟨Nat.le_of_ble_eq_true rfl, Nat.le_of_ble_eq_true rfl⟩ rfl rfl) (g_recv hK hc (i := 329) (by omega) cC0 rfl) rfl hl.1 rfl (Nat.le_of_ble_eq_true rfl) dL_law_212 hr hS (lw_A hA1) (fun H locs hc hk1 _ hS => ?_)
  have hm := lw_mk hm hd hk1
  refine lv_aload_n hx hb dL_law_215 rfl (lv_at hl 2 rfl) ?_
  refine lw_arg S hX hbl hS hl hL 1 (by omega) (by decide) dL_law_216 dL_law_217 dL_law_218 dL_law_219 dL_law_220 ?_
  refine lw_arg S hX hbl hS hl hL 2 (by omega) (by decide) dL_law_221 dL_law_222 dL_law_223 dL_law_224 dL_law_225 ?_
  refine r_callI S hK hm (c_X6_pay l G a2 hI2 u (xs (i + 1)) (xs (i + 2)) (RL_SI hh) (RL_KI hh)) (r_cw S k_266 k_263 k_264 k_265 k_5 q_X6_pay ⟨Nat.le_of_ble_eq_true rfl, Nat.le_of_ble_eq_true rfl⟩ rfl rfl) (g_recv hK hm (i := 0) (by omega) mC0 rfl) rfl hl.1 rfl (Nat.le_of_ble_eq_true rfl) dL_law_226 hr hS (lw_A hA2) (fun H locs hm hk1 _ hS => ?_)
  have hc := lw_ck hc hd hk1
  exact lv_icmp_eq (tgt := 765) hx hb dL_law_229 (by decide) (fun _ => kk _ _ H locs hc hm hS (M_pay hh (xs (i + 1)) (xs (i + 2))).2) (fun q => absurd (M_pay hh (xs (i + 1)) (xs (i + 2))).1 q)
set_option maxHeartbeats 4000000 in
set_option maxRecDepth 100000 in
theorem lw_case_payBill (S : CallFix p m c cL_law 4 s #[Value.ref b] BIG RL) (w : lw_W G a1 a2 t1 t2 s) (hX : va_X b L xs s s.heap) (hbl : b < s.heap.size) (hL : L ≤ 2560) (hi : i + 5 ≤ L) (hl : lv_has ls 4 [(0, .ref b), (1, .ref (a1 329)), (2, .ref (a2 0)), (3, .int (nI i))]) (hc : cP G a1 z H) (hm : mP G a2 u H) (hS : va_S (fun q => s.heap.size ≤ q) s.heap H locs) (hh : RLz z u) (hr : cells ≤ room_1.cells ∧ slots ≤ room_1.slots)
    (kk : ∀ (z : CS) (u : Nat → Nat → Int32) (H : Heap) (locs : List Loc), cP G a1 z H → mP G a2 u H → va_S (fun q => s.heap.size ≤ q) s.heap H locs → RLz z u → W p l e room_1 s m #[Value.ref b] below meth c H locs cells slots Q (F0 m 765 ls [])) : W p l e room_1 s m #[Value.ref b] below meth c H locs cells slots Q (F0 m 234 ls []) := by
  have hx := S.1
  have hb := S.2.1
  obtain ⟨hI1, hI2, hA1, hA2, hd, hK, hT⟩ := w
  refine lv_aload_n hx hb dL_law_234 rfl (lv_at hl 1 rfl) ?_
  refine lw_arg S hX hbl hS hl hL 1 (by omega) (by decide) dL_law_235 dL_law_236 dL_law_237 dL_law_238 dL_law_239 ?_
  refine lw_arg S hX hbl hS hl hL 2 (by omega) (by decide) dL_law_240 dL_law_241 dL_law_242 dL_law_243 dL_law_244 ?_
  refine r_callI S hK hc (c_X5_payBill l G a1 hI1 z (xs (i + 1)) (xs (i + 2)) hh.1 hh.2.1) (r_cw S k_303 k_300 k_301 k_302 k_2 q_X5_payBill ⟨Nat.le_of_ble_eq_true rfl, Nat.le_of_ble_eq_true rfl⟩ rfl rfl) (g_recv hK hc (i := 329) (by omega) cC0 rfl) rfl hl.1 rfl (Nat.le_of_ble_eq_true rfl) dL_law_245 hr hS (lw_A hA1) (fun H locs hc hk1 _ hS => ?_)
  have hm := lw_mk hm hd hk1
  refine lv_aload_n hx hb dL_law_248 rfl (lv_at hl 2 rfl) ?_
  refine lw_arg S hX hbl hS hl hL 1 (by omega) (by decide) dL_law_249 dL_law_250 dL_law_251 dL_law_252 dL_law_253 ?_
  refine lw_arg S hX hbl hS hl hL 2 (by omega) (by decide) dL_law_254 dL_law_255 dL_law_256 dL_law_257 dL_law_258 ?_
  refine r_callI S hK hm (c_X6_payBill l G a2 hI2 u (xs (i + 1)) (xs (i + 2)) (RL_SI hh) (RL_KI hh)) (r_cw S k_316 k_313 k_314 k_315 k_5 q_X6_payBill ⟨Nat.le_of_ble_eq_true rfl, Nat.le_of_ble_eq_true rfl⟩ rfl rfl) (g_recv hK hm (i := 0) (by omega) mC0 rfl) rfl hl.1 rfl (Nat.le_of_ble_eq_true rfl) dL_law_259 hr hS (lw_A hA2) (fun H locs hm hk1 _ hS => ?_)
  have hc := lw_ck hc hd hk1
  exact lv_icmp_eq (tgt := 765) hx hb dL_law_262 (by decide) (fun _ => kk _ _ H locs hc hm hS (M_payBill hh (xs (i + 1)) (xs (i + 2))).2) (fun q => absurd (M_payBill hh (xs (i + 1)) (xs (i + 2))).1 q)
set_option maxHeartbeats 4000000 in
set_option maxRecDepth 100000 in
theorem lw_case_payBack (S : CallFix p m c cL_law 4 s #[Value.ref b] BIG RL) (w : lw_W G a1 a2 t1 t2 s) (hX : va_X b L xs s s.heap) (hbl : b < s.heap.size) (hL : L ≤ 2560) (hi : i + 5 ≤ L) (hl : lv_has ls 4 [(0, .ref b), (1, .ref (a1 329)), (2, .ref (a2 0)), (3, .int (nI i))]) (hc : cP G a1 z H) (hm : mP G a2 u H) (hS : va_S (fun q => s.heap.size ≤ q) s.heap H locs) (hh : RLz z u) (hr : cells ≤ room_1.cells ∧ slots ≤ room_1.slots)
    (kk : ∀ (z : CS) (u : Nat → Nat → Int32) (H : Heap) (locs : List Loc), cP G a1 z H → mP G a2 u H → va_S (fun q => s.heap.size ≤ q) s.heap H locs → RLz z u → W p l e room_1 s m #[Value.ref b] below meth c H locs cells slots Q (F0 m 765 ls [])) : W p l e room_1 s m #[Value.ref b] below meth c H locs cells slots Q (F0 m 267 ls []) := by
  have hx := S.1
  have hb := S.2.1
  obtain ⟨hI1, hI2, hA1, hA2, hd, hK, hT⟩ := w
  refine lv_aload_n hx hb dL_law_267 rfl (lv_at hl 1 rfl) ?_
  refine lw_arg S hX hbl hS hl hL 1 (by omega) (by decide) dL_law_268 dL_law_269 dL_law_270 dL_law_271 dL_law_272 ?_
  refine r_callI S hK hc (c_X5_payBack l G a1 hI1 z (xs (i + 1)) hh.1 hh.2.1) (r_cw S k_332 k_329 k_330 k_331 k_2 q_X5_payBack ⟨Nat.le_of_ble_eq_true rfl, Nat.le_of_ble_eq_true rfl⟩ rfl rfl) (g_recv hK hc (i := 329) (by omega) cC0 rfl) rfl hl.1 rfl (Nat.le_of_ble_eq_true rfl) dL_law_273 hr hS (lw_A hA1) (fun H locs hc hk1 _ hS => ?_)
  have hm := lw_mk hm hd hk1
  refine lv_aload_n hx hb dL_law_276 rfl (lv_at hl 2 rfl) ?_
  refine lw_arg S hX hbl hS hl hL 1 (by omega) (by decide) dL_law_277 dL_law_278 dL_law_279 dL_law_280 dL_law_281 ?_
  refine r_callI S hK hm (c_X6_payBack l G a2 hI2 u (xs (i + 1)) (RL_SI hh) (RL_KI hh)) (r_cw S k_340 k_337 k_338 k_339 k_5 q_X6_payBack ⟨Nat.le_of_ble_eq_true rfl, Nat.le_of_ble_eq_true rfl⟩ rfl rfl) (g_recv hK hm (i := 0) (by omega) mC0 rfl) rfl hl.1 rfl (Nat.le_of_ble_eq_true rfl) dL_law_282 hr hS (lw_A hA2) (fun H locs hm hk1 _ hS => ?_)
  have hc := lw_ck hc hd hk1
  exact lv_icmp_eq (tgt := 765) hx hb dL_law_285 (by decide) (fun _ => kk _ _ H locs hc hm hS (M_payBack hh (xs (i + 1))).2) (fun q => absurd (M_payBack hh (xs (i + 1))).1 q)
set_option maxHeartbeats 4000000 in
set_option maxRecDepth 100000 in
theorem lw_case_pass (S : CallFix p m c cL_law 4 s #[Value.ref b] BIG RL) (w : lw_W G a1 a2 t1 t2 s) (hX : va_X b L xs s s.heap) (hbl : b < s.heap.size) (hL : L ≤ 2560) (hi : i + 5 ≤ L) (hl : lv_has ls 4 [(0, .ref b), (1, .ref (a1 329)), (2, .ref (a2 0)), (3, .int (nI i))]) (hc : cP G a1 z H) (hm : mP G a2 u H) (hS : va_S (fun q => s.heap.size ≤ q) s.heap H locs) (hh : RLz z u) (hr : cells ≤ room_1.cells ∧ slots ≤ room_1.slots)
    (kk : ∀ (z : CS) (u : Nat → Nat → Int32) (H : Heap) (locs : List Loc), cP G a1 z H → mP G a2 u H → va_S (fun q => s.heap.size ≤ q) s.heap H locs → RLz z u → W p l e room_1 s m #[Value.ref b] below meth c H locs cells slots Q (F0 m 765 ls [])) : W p l e room_1 s m #[Value.ref b] below meth c H locs cells slots Q (F0 m 290 ls []) := by
  have hx := S.1
  have hb := S.2.1
  obtain ⟨hI1, hI2, hA1, hA2, hd, hK, hT⟩ := w
  refine lv_aload_n hx hb dL_law_290 rfl (lv_at hl 1 rfl) ?_
  refine lw_arg S hX hbl hS hl hL 1 (by omega) (by decide) dL_law_291 dL_law_292 dL_law_293 dL_law_294 dL_law_295 ?_
  refine r_callI S hK hc (c_X5_pass l G a1 hI1 z (xs (i + 1)) hh.1 hh.2.1) (r_cw S k_344 k_341 k_342 k_343 k_2 q_X5_pass ⟨Nat.le_of_ble_eq_true rfl, Nat.le_of_ble_eq_true rfl⟩ rfl rfl) (g_recv hK hc (i := 329) (by omega) cC0 rfl) rfl hl.1 rfl (Nat.le_of_ble_eq_true rfl) dL_law_296 hr hS (lw_A hA1) (fun H locs hc hk1 _ hS => ?_)
  have hm := lw_mk hm hd hk1
  refine lv_aload_n hx hb dL_law_299 rfl (lv_at hl 2 rfl) ?_
  refine lw_arg S hX hbl hS hl hL 1 (by omega) (by decide) dL_law_300 dL_law_301 dL_law_302 dL_law_303 dL_law_304 ?_
  refine r_callI S hK hm (c_X6_pass l G a2 hI2 u (xs (i + 1)) (RL_SI hh) (RL_KI hh)) (r_cw S k_360 k_357 k_358 k_359 k_5 q_X6_pass ⟨Nat.le_of_ble_eq_true rfl, Nat.le_of_ble_eq_true rfl⟩ rfl rfl) (g_recv hK hm (i := 0) (by omega) mC0 rfl) rfl hl.1 rfl (Nat.le_of_ble_eq_true rfl) dL_law_305 hr hS (lw_A hA2) (fun H locs hm hk1 _ hS => ?_)
  have hc := lw_ck hc hd hk1
  exact lv_icmp_eq (tgt := 765) hx hb dL_law_308 (by decide) (fun _ => kk _ _ H locs hc hm hS (M_pass hh (xs (i + 1))).2) (fun q => absurd (M_pass hh (xs (i + 1))).1 q)
set_option maxHeartbeats 4000000 in
set_option maxRecDepth 100000 in
theorem lw_case_remind (S : CallFix p m c cL_law 4 s #[Value.ref b] BIG RL) (w : lw_W G a1 a2 t1 t2 s) (hX : va_X b L xs s s.heap) (hbl : b < s.heap.size) (hL : L ≤ 2560) (hi : i + 5 ≤ L) (hl : lv_has ls 4 [(0, .ref b), (1, .ref (a1 329)), (2, .ref (a2 0)), (3, .int (nI i))]) (hc : cP G a1 z H) (hm : mP G a2 u H) (hS : va_S (fun q => s.heap.size ≤ q) s.heap H locs) (hh : RLz z u) (hr : cells ≤ room_1.cells ∧ slots ≤ room_1.slots)
    (kk : ∀ (z : CS) (u : Nat → Nat → Int32) (H : Heap) (locs : List Loc), cP G a1 z H → mP G a2 u H → va_S (fun q => s.heap.size ≤ q) s.heap H locs → RLz z u → W p l e room_1 s m #[Value.ref b] below meth c H locs cells slots Q (F0 m 765 ls [])) : W p l e room_1 s m #[Value.ref b] below meth c H locs cells slots Q (F0 m 313 ls []) := by
  have hx := S.1
  have hb := S.2.1
  obtain ⟨hI1, hI2, hA1, hA2, hd, hK, hT⟩ := w
  refine lv_aload_n hx hb dL_law_313 rfl (lv_at hl 1 rfl) ?_
  refine r_callI S hK hc (c_X5_remind l G a1 hI1 z hh.1 hh.2.1) (r_cw S k_372 k_369 k_370 k_371 k_2 q_X5_remind ⟨Nat.le_of_ble_eq_true rfl, Nat.le_of_ble_eq_true rfl⟩ rfl rfl) (g_recv hK hc (i := 329) (by omega) cC0 rfl) rfl hl.1 rfl (Nat.le_of_ble_eq_true rfl) dL_law_314 hr hS (lw_A hA1) (fun H locs hc hk1 _ hS => ?_)
  have hm := lw_mk hm hd hk1
  refine lv_aload_n hx hb dL_law_317 rfl (lv_at hl 2 rfl) ?_
  refine r_callI S hK hm (c_X6_remind l G a2 hI2 u (RL_SI hh) (RL_KI hh)) (r_cw S k_405 k_402 k_403 k_404 k_5 q_X6_remind ⟨Nat.le_of_ble_eq_true rfl, Nat.le_of_ble_eq_true rfl⟩ rfl rfl) (g_recv hK hm (i := 0) (by omega) mC0 rfl) rfl hl.1 rfl (Nat.le_of_ble_eq_true rfl) dL_law_318 hr hS (lw_A hA2) (fun H locs hm hk1 _ hS => ?_)
  have hc := lw_ck hc hd hk1
  exact lv_icmp_eq (tgt := 765) hx hb dL_law_321 (by decide) (fun _ => kk _ _ H locs hc hm hS (M_remind hh).2) (fun q => absurd (M_remind hh).1 q)
set_option maxHeartbeats 4000000 in
set_option maxRecDepth 100000 in
theorem lw_case_writeOff (S : CallFix p m c cL_law 4 s #[Value.ref b] BIG RL) (w : lw_W G a1 a2 t1 t2 s) (hX : va_X b L xs s s.heap) (hbl : b < s.heap.size) (hL : L ≤ 2560) (hi : i + 5 ≤ L) (hl : lv_has ls 4 [(0, .ref b), (1, .ref (a1 329)), (2, .ref (a2 0)), (3, .int (nI i))]) (hc : cP G a1 z H) (hm : mP G a2 u H) (hS : va_S (fun q => s.heap.size ≤ q) s.heap H locs) (hh : RLz z u) (hr : cells ≤ room_1.cells ∧ slots ≤ room_1.slots)
    (kk : ∀ (z : CS) (u : Nat → Nat → Int32) (H : Heap) (locs : List Loc), cP G a1 z H → mP G a2 u H → va_S (fun q => s.heap.size ≤ q) s.heap H locs → RLz z u → W p l e room_1 s m #[Value.ref b] below meth c H locs cells slots Q (F0 m 765 ls [])) : W p l e room_1 s m #[Value.ref b] below meth c H locs cells slots Q (F0 m 326 ls []) := by
  have hx := S.1
  have hb := S.2.1
  obtain ⟨hI1, hI2, hA1, hA2, hd, hK, hT⟩ := w
  refine lv_aload_n hx hb dL_law_326 rfl (lv_at hl 1 rfl) ?_
  refine lw_arg S hX hbl hS hl hL 1 (by omega) (by decide) dL_law_327 dL_law_328 dL_law_329 dL_law_330 dL_law_331 ?_
  refine r_callI S hK hc (c_X5_writeOff l G a1 hI1 z (xs (i + 1)) hh.1 hh.2.1) (r_cw S k_425 k_422 k_423 k_424 k_2 q_X5_writeOff ⟨Nat.le_of_ble_eq_true rfl, Nat.le_of_ble_eq_true rfl⟩ rfl rfl) (g_recv hK hc (i := 329) (by omega) cC0 rfl) rfl hl.1 rfl (Nat.le_of_ble_eq_true rfl) dL_law_332 hr hS (lw_A hA1) (fun H locs hc hk1 _ hS => ?_)
  have hm := lw_mk hm hd hk1
  refine lv_aload_n hx hb dL_law_335 rfl (lv_at hl 2 rfl) ?_
  refine lw_arg S hX hbl hS hl hL 1 (by omega) (by decide) dL_law_336 dL_law_337 dL_law_338 dL_law_339 dL_law_340 ?_
  refine r_callI S hK hm (c_X6_writeOff l G a2 hI2 u (xs (i + 1)) (RL_SI hh) (RL_KI hh)) (r_cw S k_437 k_434 k_435 k_436 k_5 q_X6_writeOff ⟨Nat.le_of_ble_eq_true rfl, Nat.le_of_ble_eq_true rfl⟩ rfl rfl) (g_recv hK hm (i := 0) (by omega) mC0 rfl) rfl hl.1 rfl (Nat.le_of_ble_eq_true rfl) dL_law_341 hr hS (lw_A hA2) (fun H locs hm hk1 _ hS => ?_)
  have hc := lw_ck hc hd hk1
  exact lv_icmp_eq (tgt := 765) hx hb dL_law_344 (by decide) (fun _ => kk _ _ H locs hc hm hS (M_writeOff hh (xs (i + 1))).2) (fun q => absurd (M_writeOff hh (xs (i + 1))).1 q)
set_option maxHeartbeats 4000000 in
set_option maxRecDepth 100000 in
theorem lw_case_closeYear (S : CallFix p m c cL_law 4 s #[Value.ref b] BIG RL) (w : lw_W G a1 a2 t1 t2 s) (hX : va_X b L xs s s.heap) (hbl : b < s.heap.size) (hL : L ≤ 2560) (hi : i + 5 ≤ L) (hl : lv_has ls 4 [(0, .ref b), (1, .ref (a1 329)), (2, .ref (a2 0)), (3, .int (nI i))]) (hc : cP G a1 z H) (hm : mP G a2 u H) (hS : va_S (fun q => s.heap.size ≤ q) s.heap H locs) (hh : RLz z u) (hr : cells ≤ room_1.cells ∧ slots ≤ room_1.slots)
    (kk : ∀ (z : CS) (u : Nat → Nat → Int32) (H : Heap) (locs : List Loc), cP G a1 z H → mP G a2 u H → va_S (fun q => s.heap.size ≤ q) s.heap H locs → RLz z u → W p l e room_1 s m #[Value.ref b] below meth c H locs cells slots Q (F0 m 765 ls [])) : W p l e room_1 s m #[Value.ref b] below meth c H locs cells slots Q (F0 m 349 ls []) := by
  have hx := S.1
  have hb := S.2.1
  obtain ⟨hI1, hI2, hA1, hA2, hd, hK, hT⟩ := w
  refine lv_aload_n hx hb dL_law_349 rfl (lv_at hl 1 rfl) ?_
  refine lw_arg S hX hbl hS hl hL 1 (by omega) (by decide) dL_law_350 dL_law_351 dL_law_352 dL_law_353 dL_law_354 ?_
  refine r_callI S hK hc (c_X5_closeYear l G a1 hI1 z (xs (i + 1)) hh.1 hh.2.1) (r_cw S k_445 k_442 k_443 k_444 k_2 q_X5_closeYear ⟨Nat.le_of_ble_eq_true rfl, Nat.le_of_ble_eq_true rfl⟩ rfl rfl) (g_recv hK hc (i := 329) (by omega) cC0 rfl) rfl hl.1 rfl (Nat.le_of_ble_eq_true rfl) dL_law_355 hr hS (lw_A hA1) (fun H locs hc hk1 _ hS => ?_)
  have hm := lw_mk hm hd hk1
  refine lv_aload_n hx hb dL_law_358 rfl (lv_at hl 2 rfl) ?_
  refine lw_arg S hX hbl hS hl hL 1 (by omega) (by decide) dL_law_359 dL_law_360 dL_law_361 dL_law_362 dL_law_363 ?_
  refine r_callI S hK hm (c_X6_closeYear l G a2 hI2 u (xs (i + 1)) (RL_SI hh) (RL_KI hh)) (r_cw S k_462 k_459 k_460 k_461 k_5 q_X6_closeYear ⟨Nat.le_of_ble_eq_true rfl, Nat.le_of_ble_eq_true rfl⟩ rfl rfl) (g_recv hK hm (i := 0) (by omega) mC0 rfl) rfl hl.1 rfl (Nat.le_of_ble_eq_true rfl) dL_law_364 hr hS (lw_A hA2) (fun H locs hm hk1 _ hS => ?_)
  have hc := lw_ck hc hd hk1
  exact lv_icmp_eq (tgt := 765) hx hb dL_law_367 (by decide) (fun _ => kk _ _ H locs hc hm hS (M_closeYear hh (xs (i + 1))).2) (fun q => absurd (M_closeYear hh (xs (i + 1))).1 q)
set_option maxHeartbeats 4000000 in
set_option maxRecDepth 100000 in
theorem lw_case_set (S : CallFix p m c cL_law 4 s #[Value.ref b] BIG RL) (w : lw_W G a1 a2 t1 t2 s) (hX : va_X b L xs s s.heap) (hbl : b < s.heap.size) (hL : L ≤ 2560) (hi : i + 5 ≤ L) (hl : lv_has ls 4 [(0, .ref b), (1, .ref (a1 329)), (2, .ref (a2 0)), (3, .int (nI i))]) (hc : cP G a1 z H) (hm : mP G a2 u H) (hS : va_S (fun q => s.heap.size ≤ q) s.heap H locs) (hh : RLz z u) (hr : cells ≤ room_1.cells ∧ slots ≤ room_1.slots)
    (kk : ∀ (z : CS) (u : Nat → Nat → Int32) (H : Heap) (locs : List Loc), cP G a1 z H → mP G a2 u H → va_S (fun q => s.heap.size ≤ q) s.heap H locs → RLz z u → W p l e room_1 s m #[Value.ref b] below meth c H locs cells slots Q (F0 m 765 ls [])) : W p l e room_1 s m #[Value.ref b] below meth c H locs cells slots Q (F0 m 372 ls []) := by
  have hx := S.1
  have hb := S.2.1
  obtain ⟨hI1, hI2, hA1, hA2, hd, hK, hT⟩ := w
  refine lv_aload_n hx hb dL_law_372 rfl (lv_at hl 1 rfl) ?_
  refine lw_arg S hX hbl hS hl hL 1 (by omega) (by decide) dL_law_373 dL_law_374 dL_law_375 dL_law_376 dL_law_377 ?_
  refine lw_arg S hX hbl hS hl hL 2 (by omega) (by decide) dL_law_378 dL_law_379 dL_law_380 dL_law_381 dL_law_382 ?_
  refine r_callIX S hK hT hc (c_X5_set l G a1 hI1 z t1 t2 (xs (i + 1)) (xs (i + 2)) hh.1 hh.2.1) (r_cw S k_473 k_470 k_471 k_472 k_2 q_X5_set ⟨Nat.le_of_ble_eq_true rfl, Nat.le_of_ble_eq_true rfl⟩ rfl rfl) (g_recv hK hc (i := 329) (by omega) cC0 rfl) rfl hl.1 rfl (Nat.le_of_ble_eq_true rfl) dL_law_383 hr hS (lw_A hA1) (fun H locs hc hk1 _ hS => ?_)
  have hm := lw_mk hm hd hk1
  refine lv_aload_n hx hb dL_law_386 rfl (lv_at hl 2 rfl) ?_
  refine lw_arg S hX hbl hS hl hL 1 (by omega) (by decide) dL_law_387 dL_law_388 dL_law_389 dL_law_390 dL_law_391 ?_
  refine lw_arg S hX hbl hS hl hL 2 (by omega) (by decide) dL_law_392 dL_law_393 dL_law_394 dL_law_395 dL_law_396 ?_
  refine r_callI S hK hm (c_X6_set l G a2 hI2 u (xs (i + 1)) (xs (i + 2)) (RL_SI hh) (RL_KI hh)) (r_cw S k_484 k_481 k_482 k_483 k_5 q_X6_set ⟨Nat.le_of_ble_eq_true rfl, Nat.le_of_ble_eq_true rfl⟩ rfl rfl) (g_recv hK hm (i := 0) (by omega) mC0 rfl) rfl hl.1 rfl (Nat.le_of_ble_eq_true rfl) dL_law_397 hr hS (lw_A hA2) (fun H locs hm hk1 _ hS => ?_)
  have hc := lw_ck hc hd hk1
  exact lv_icmp_eq (tgt := 765) hx hb dL_law_400 (by decide) (fun _ => kk _ _ H locs hc hm hS (M_set hh (xs (i + 1)) (xs (i + 2))).2) (fun q => absurd (M_set hh (xs (i + 1)) (xs (i + 2))).1 q)
set_option maxHeartbeats 4000000 in
set_option maxRecDepth 100000 in
theorem lw_case_type (S : CallFix p m c cL_law 4 s #[Value.ref b] BIG RL) (w : lw_W G a1 a2 t1 t2 s) (hX : va_X b L xs s s.heap) (hbl : b < s.heap.size) (hL : L ≤ 2560) (hi : i + 5 ≤ L) (hl : lv_has ls 4 [(0, .ref b), (1, .ref (a1 329)), (2, .ref (a2 0)), (3, .int (nI i))]) (hc : cP G a1 z H) (hm : mP G a2 u H) (hS : va_S (fun q => s.heap.size ≤ q) s.heap H locs) (hh : RLz z u) (hr : cells ≤ room_1.cells ∧ slots ≤ room_1.slots)
    (kk : ∀ (z : CS) (u : Nat → Nat → Int32) (H : Heap) (locs : List Loc), cP G a1 z H → mP G a2 u H → va_S (fun q => s.heap.size ≤ q) s.heap H locs → RLz z u → W p l e room_1 s m #[Value.ref b] below meth c H locs cells slots Q (F0 m 765 ls [])) : W p l e room_1 s m #[Value.ref b] below meth c H locs cells slots Q (F0 m 405 ls []) := by
  have hx := S.1
  have hb := S.2.1
  obtain ⟨hI1, hI2, hA1, hA2, hd, hK, hT⟩ := w
  refine lv_aload_n hx hb dL_law_405 rfl (lv_at hl 1 rfl) ?_
  refine lw_arg S hX hbl hS hl hL 1 (by omega) (by decide) dL_law_406 dL_law_407 dL_law_408 dL_law_409 dL_law_410 ?_
  refine lv_i2c hx hb dL_law_411 rfl ?_
  refine r_callI S hK hc (c_X5_type l G a1 hI1 z (((xs (i + 1)).toUInt32 % 65536).toInt32) hh.1 hh.2.1 (pk_vc _)) (r_cw S k_491 k_488 k_489 k_490 k_2 q_X5_type ⟨Nat.le_of_ble_eq_true rfl, Nat.le_of_ble_eq_true rfl⟩ rfl rfl) (g_recv hK hc (i := 329) (by omega) cC0 rfl) rfl hl.1 rfl (Nat.le_of_ble_eq_true rfl) dL_law_412 hr hS (lw_A hA1) (fun H locs hc hk1 _ hS => ?_)
  have hm := lw_mk hm hd hk1
  refine lv_aload_n hx hb dL_law_415 rfl (lv_at hl 2 rfl) ?_
  refine lw_arg S hX hbl hS hl hL 1 (by omega) (by decide) dL_law_416 dL_law_417 dL_law_418 dL_law_419 dL_law_420 ?_
  refine lv_i2c hx hb dL_law_421 rfl ?_
  refine r_callI S hK hm (c_X6_type l G a2 hI2 u (((xs (i + 1)).toUInt32 % 65536).toInt32) (RL_LI hh)) (r_cw S k_501 k_498 k_499 k_500 k_5 q_X6_type ⟨Nat.le_of_ble_eq_true rfl, Nat.le_of_ble_eq_true rfl⟩ rfl rfl) (g_recv hK hm (i := 0) (by omega) mC0 rfl) rfl hl.1 rfl (Nat.le_of_ble_eq_true rfl) dL_law_422 hr hS (lw_A hA2) (fun H locs hm hk1 _ hS => ?_)
  have hc := lw_ck hc hd hk1
  exact lv_icmp_eq (tgt := 765) hx hb dL_law_425 (by decide) (fun _ => kk _ _ H locs hc hm hS (M_type hh (((xs (i + 1)).toUInt32 % 65536).toInt32)).2) (fun q => absurd (M_type hh (((xs (i + 1)).toUInt32 % 65536).toInt32)).1 q)
set_option maxHeartbeats 4000000 in
set_option maxRecDepth 100000 in
theorem lw_case_clearText (S : CallFix p m c cL_law 4 s #[Value.ref b] BIG RL) (w : lw_W G a1 a2 t1 t2 s) (hX : va_X b L xs s s.heap) (hbl : b < s.heap.size) (hL : L ≤ 2560) (hi : i + 5 ≤ L) (hl : lv_has ls 4 [(0, .ref b), (1, .ref (a1 329)), (2, .ref (a2 0)), (3, .int (nI i))]) (hc : cP G a1 z H) (hm : mP G a2 u H) (hS : va_S (fun q => s.heap.size ≤ q) s.heap H locs) (hh : RLz z u) (hr : cells ≤ room_1.cells ∧ slots ≤ room_1.slots)
    (kk : ∀ (z : CS) (u : Nat → Nat → Int32) (H : Heap) (locs : List Loc), cP G a1 z H → mP G a2 u H → va_S (fun q => s.heap.size ≤ q) s.heap H locs → RLz z u → W p l e room_1 s m #[Value.ref b] below meth c H locs cells slots Q (F0 m 765 ls [])) : W p l e room_1 s m #[Value.ref b] below meth c H locs cells slots Q (F0 m 430 ls []) := by
  have hx := S.1
  have hb := S.2.1
  obtain ⟨hI1, hI2, hA1, hA2, hd, hK, hT⟩ := w
  refine lv_aload_n hx hb dL_law_430 rfl (lv_at hl 1 rfl) ?_
  refine r_callI S hK hc (c_X5_clearText l G a1 hI1 z hh.1 hh.2.1) (r_cw S k_506 k_503 k_504 k_505 k_2 q_X5_clearText ⟨Nat.le_of_ble_eq_true rfl, Nat.le_of_ble_eq_true rfl⟩ rfl rfl) (g_recv hK hc (i := 329) (by omega) cC0 rfl) rfl hl.1 rfl (Nat.le_of_ble_eq_true rfl) dL_law_431 hr hS (lw_A hA1) (fun H locs hc hk1 _ hS => ?_)
  have hm := lw_mk hm hd hk1
  refine lv_aload_n hx hb dL_law_434 rfl (lv_at hl 2 rfl) ?_
  refine r_callI S hK hm (c_X6_clearText l G a2 hI2 u) (r_cw S k_510 k_507 k_508 k_509 k_5 q_X6_clearText ⟨Nat.le_of_ble_eq_true rfl, Nat.le_of_ble_eq_true rfl⟩ rfl rfl) (g_recv hK hm (i := 0) (by omega) mC0 rfl) rfl hl.1 rfl (Nat.le_of_ble_eq_true rfl) dL_law_435 hr hS (lw_A hA2) (fun H locs hm hk1 _ hS => ?_)
  have hc := lw_ck hc hd hk1
  exact lv_icmp_eq (tgt := 765) hx hb dL_law_438 (by decide) (fun _ => kk _ _ H locs hc hm hS (M_clearText hh).2) (fun q => absurd (M_clearText hh).1 q)
set_option maxHeartbeats 4000000 in
set_option maxRecDepth 100000 in
theorem lw_case_perform (S : CallFix p m c cL_law 4 s #[Value.ref b] BIG RL) (w : lw_W G a1 a2 t1 t2 s) (hX : va_X b L xs s s.heap) (hbl : b < s.heap.size) (hL : L ≤ 2560) (hi : i + 5 ≤ L) (hl : lv_has ls 4 [(0, .ref b), (1, .ref (a1 329)), (2, .ref (a2 0)), (3, .int (nI i))]) (hc : cP G a1 z H) (hm : mP G a2 u H) (hS : va_S (fun q => s.heap.size ≤ q) s.heap H locs) (hh : RLz z u) (hr : cells ≤ room_1.cells ∧ slots ≤ room_1.slots)
    (kk : ∀ (z : CS) (u : Nat → Nat → Int32) (H : Heap) (locs : List Loc), cP G a1 z H → mP G a2 u H → va_S (fun q => s.heap.size ≤ q) s.heap H locs → RLz z u → W p l e room_1 s m #[Value.ref b] below meth c H locs cells slots Q (F0 m 765 ls [])) : W p l e room_1 s m #[Value.ref b] below meth c H locs cells slots Q (F0 m 443 ls []) := by
  have hx := S.1
  have hb := S.2.1
  obtain ⟨hI1, hI2, hA1, hA2, hd, hK, hT⟩ := w
  refine lv_aload_n hx hb dL_law_443 rfl (lv_at hl 1 rfl) ?_
  refine r_callI S hK hc (c_X5_perform l G a1 hI1 z hh.1 hh.2.1) (r_cw S k_514 k_511 k_512 k_513 k_2 q_X5_perform ⟨Nat.le_of_ble_eq_true rfl, Nat.le_of_ble_eq_true rfl⟩ rfl rfl) (g_recv hK hc (i := 329) (by omega) cC0 rfl) rfl hl.1 rfl (Nat.le_of_ble_eq_true rfl) dL_law_444 hr hS (lw_A hA1) (fun H locs hc hk1 _ hS => ?_)
  have hm := lw_mk hm hd hk1
  refine lv_aload_n hx hb dL_law_447 rfl (lv_at hl 2 rfl) ?_
  refine r_callI S hK hm (c_X6_perform l G a2 hI2 u (RL_SI hh) (RL_KI hh) (RL_LI hh)) (r_cw S k_586 k_583 k_584 k_585 k_5 q_X6_perform ⟨Nat.le_of_ble_eq_true rfl, Nat.le_of_ble_eq_true rfl⟩ rfl rfl) (g_recv hK hm (i := 0) (by omega) mC0 rfl) rfl hl.1 rfl (Nat.le_of_ble_eq_true rfl) dL_law_448 hr hS (lw_A hA2) (fun H locs hm hk1 _ hS => ?_)
  have hc := lw_ck hc hd hk1
  exact lv_icmp_eq (tgt := 765) hx hb dL_law_451 (by decide) (fun _ => kk _ _ H locs hc hm hS (M_perform hh).2) (fun q => absurd (M_perform hh).1 q)
set_option maxHeartbeats 4000000 in
set_option maxRecDepth 100000 in
theorem lw_case_stopped (S : CallFix p m c cL_law 4 s #[Value.ref b] BIG RL) (w : lw_W G a1 a2 t1 t2 s) (hX : va_X b L xs s s.heap) (hbl : b < s.heap.size) (hL : L ≤ 2560) (hi : i + 5 ≤ L) (hl : lv_has ls 4 [(0, .ref b), (1, .ref (a1 329)), (2, .ref (a2 0)), (3, .int (nI i))]) (hc : cP G a1 z H) (hm : mP G a2 u H) (hS : va_S (fun q => s.heap.size ≤ q) s.heap H locs) (hh : RLz z u) (hr : cells ≤ room_1.cells ∧ slots ≤ room_1.slots)
    (kk : ∀ (z : CS) (u : Nat → Nat → Int32) (H : Heap) (locs : List Loc), cP G a1 z H → mP G a2 u H → va_S (fun q => s.heap.size ≤ q) s.heap H locs → RLz z u → W p l e room_1 s m #[Value.ref b] below meth c H locs cells slots Q (F0 m 765 ls [])) : W p l e room_1 s m #[Value.ref b] below meth c H locs cells slots Q (F0 m 456 ls []) := by
  have hx := S.1
  have hb := S.2.1
  obtain ⟨hI1, hI2, hA1, hA2, hd, hK, hT⟩ := w
  refine lv_aload_n hx hb dL_law_456 rfl (lv_at hl 1 rfl) ?_
  refine lw_arg S hX hbl hS hl hL 1 (by omega) (by decide) dL_law_457 dL_law_458 dL_law_459 dL_law_460 dL_law_461 ?_
  refine r_callI S hK hc (c_X5_stopped l G a1 hI1 z (xs (i + 1)) hh.1 hh.2.1) (r_cw S k_625 k_622 k_623 k_624 k_2 q_X5_stopped ⟨Nat.le_of_ble_eq_true rfl, Nat.le_of_ble_eq_true rfl⟩ rfl rfl) (g_recv hK hc (i := 329) (by omega) cC0 rfl) rfl hl.1 rfl (Nat.le_of_ble_eq_true rfl) dL_law_462 hr hS (lw_A hA1) (fun H locs hc hk1 _ hS => ?_)
  have hm := lw_mk hm hd hk1
  refine lv_aload_n hx hb dL_law_465 rfl (lv_at hl 2 rfl) ?_
  refine lw_arg S hX hbl hS hl hL 1 (by omega) (by decide) dL_law_466 dL_law_467 dL_law_468 dL_law_469 dL_law_470 ?_
  refine r_callI S hK hm (c_X6_stopped l G a2 hI2 u (xs (i + 1))) (r_cw S k_629 k_626 k_627 k_628 k_5 q_X6_stopped ⟨Nat.le_of_ble_eq_true rfl, Nat.le_of_ble_eq_true rfl⟩ rfl rfl) (g_recv hK hm (i := 0) (by omega) mC0 rfl) rfl hl.1 rfl (Nat.le_of_ble_eq_true rfl) dL_law_471 hr hS (lw_A hA2) (fun H locs hm hk1 _ hS => ?_)
  have hc := lw_ck hc hd hk1
  exact lv_icmp_eq (tgt := 765) hx hb dL_law_474 (by decide) (fun _ => kk z u H locs hc hm hS hh) (fun q => absurd (R_stopped hh (xs (i + 1))) q)
set_option maxHeartbeats 4000000 in
set_option maxRecDepth 100000 in
theorem lw_case_undo (S : CallFix p m c cL_law 4 s #[Value.ref b] BIG RL) (w : lw_W G a1 a2 t1 t2 s) (hX : va_X b L xs s s.heap) (hbl : b < s.heap.size) (hL : L ≤ 2560) (hi : i + 5 ≤ L) (hl : lv_has ls 4 [(0, .ref b), (1, .ref (a1 329)), (2, .ref (a2 0)), (3, .int (nI i))]) (hc : cP G a1 z H) (hm : mP G a2 u H) (hS : va_S (fun q => s.heap.size ≤ q) s.heap H locs) (hh : RLz z u) (hr : cells ≤ room_1.cells ∧ slots ≤ room_1.slots)
    (kk : ∀ (z : CS) (u : Nat → Nat → Int32) (H : Heap) (locs : List Loc), cP G a1 z H → mP G a2 u H → va_S (fun q => s.heap.size ≤ q) s.heap H locs → RLz z u → W p l e room_1 s m #[Value.ref b] below meth c H locs cells slots Q (F0 m 765 ls [])) : W p l e room_1 s m #[Value.ref b] below meth c H locs cells slots Q (F0 m 479 ls []) := by
  have hx := S.1
  have hb := S.2.1
  obtain ⟨hI1, hI2, hA1, hA2, hd, hK, hT⟩ := w
  refine lv_aload_n hx hb dL_law_479 rfl (lv_at hl 1 rfl) ?_
  refine r_callI S hK hc (c_X5_undo l G a1 hI1 z hh.1 hh.2.1) (r_cw S k_633 k_630 k_631 k_632 k_2 q_X5_undo ⟨Nat.le_of_ble_eq_true rfl, Nat.le_of_ble_eq_true rfl⟩ rfl rfl) (g_recv hK hc (i := 329) (by omega) cC0 rfl) rfl hl.1 rfl (Nat.le_of_ble_eq_true rfl) dL_law_480 hr hS (lw_A hA1) (fun H locs hc hk1 _ hS => ?_)
  have hm := lw_mk hm hd hk1
  refine lv_aload_n hx hb dL_law_483 rfl (lv_at hl 2 rfl) ?_
  refine r_callI S hK hm (c_X6_undo l G a2 hI2 u (RL_KI hh)) (r_cw S k_642 k_639 k_640 k_641 k_5 q_X6_undo ⟨Nat.le_of_ble_eq_true rfl, Nat.le_of_ble_eq_true rfl⟩ rfl rfl) (g_recv hK hm (i := 0) (by omega) mC0 rfl) rfl hl.1 rfl (Nat.le_of_ble_eq_true rfl) dL_law_484 hr hS (lw_A hA2) (fun H locs hm hk1 _ hS => ?_)
  have hc := lw_ck hc hd hk1
  exact lv_icmp_eq (tgt := 765) hx hb dL_law_487 (by decide) (fun _ => kk _ _ H locs hc hm hS (M_undo hh).2) (fun q => absurd (M_undo hh).1 q)
set_option maxHeartbeats 4000000 in
set_option maxRecDepth 100000 in
theorem lw_case_keep (S : CallFix p m c cL_law 4 s #[Value.ref b] BIG RL) (w : lw_W G a1 a2 t1 t2 s) (hX : va_X b L xs s s.heap) (hbl : b < s.heap.size) (hL : L ≤ 2560) (hi : i + 5 ≤ L) (hl : lv_has ls 4 [(0, .ref b), (1, .ref (a1 329)), (2, .ref (a2 0)), (3, .int (nI i))]) (hc : cP G a1 z H) (hm : mP G a2 u H) (hS : va_S (fun q => s.heap.size ≤ q) s.heap H locs) (hh : RLz z u) (hr : cells ≤ room_1.cells ∧ slots ≤ room_1.slots)
    (kk : ∀ (z : CS) (u : Nat → Nat → Int32) (H : Heap) (locs : List Loc), cP G a1 z H → mP G a2 u H → va_S (fun q => s.heap.size ≤ q) s.heap H locs → RLz z u → W p l e room_1 s m #[Value.ref b] below meth c H locs cells slots Q (F0 m 765 ls [])) : W p l e room_1 s m #[Value.ref b] below meth c H locs cells slots Q (F0 m 492 ls []) := by
  have hx := S.1
  have hb := S.2.1
  obtain ⟨hI1, hI2, hA1, hA2, hd, hK, hT⟩ := w
  refine lv_aload_n hx hb dL_law_492 rfl (lv_at hl 1 rfl) ?_
  refine r_callI S hK hc (c_X5_keep l G a1 hI1 z hh.1 hh.2.1) (r_cw S k_646 k_643 k_644 k_645 k_2 q_X5_keep ⟨Nat.le_of_ble_eq_true rfl, Nat.le_of_ble_eq_true rfl⟩ rfl rfl) (g_recv hK hc (i := 329) (by omega) cC0 rfl) rfl hl.1 rfl (Nat.le_of_ble_eq_true rfl) dL_law_493 hr hS (lw_A hA1) (fun H locs hc hk1 _ hS => ?_)
  have hm := lw_mk hm hd hk1
  refine lv_aload_n hx hb dL_law_496 rfl (lv_at hl 2 rfl) ?_
  refine r_callI S hK hm (c_X6_keep l G a2 hI2 u) (r_cw S k_652 k_649 k_650 k_651 k_5 q_X6_keep ⟨Nat.le_of_ble_eq_true rfl, Nat.le_of_ble_eq_true rfl⟩ rfl rfl) (g_recv hK hm (i := 0) (by omega) mC0 rfl) rfl hl.1 rfl (Nat.le_of_ble_eq_true rfl) dL_law_497 hr hS (lw_A hA2) (fun H locs hm hk1 _ hS => ?_)
  have hc := lw_ck hc hd hk1
  exact lv_icmp_eq (tgt := 765) hx hb dL_law_500 (by decide) (fun _ => kk _ _ H locs hc hm hS (M_keep hh).2) (fun q => absurd (M_keep hh).1 q)
set_option maxHeartbeats 4000000 in
set_option maxRecDepth 100000 in
theorem lw_case_restore (S : CallFix p m c cL_law 4 s #[Value.ref b] BIG RL) (w : lw_W G a1 a2 t1 t2 s) (hX : va_X b L xs s s.heap) (hbl : b < s.heap.size) (hL : L ≤ 2560) (hi : i + 5 ≤ L) (hl : lv_has ls 4 [(0, .ref b), (1, .ref (a1 329)), (2, .ref (a2 0)), (3, .int (nI i))]) (hc : cP G a1 z H) (hm : mP G a2 u H) (hS : va_S (fun q => s.heap.size ≤ q) s.heap H locs) (hh : RLz z u) (hr : cells ≤ room_1.cells ∧ slots ≤ room_1.slots)
    (kk : ∀ (z : CS) (u : Nat → Nat → Int32) (H : Heap) (locs : List Loc), cP G a1 z H → mP G a2 u H → va_S (fun q => s.heap.size ≤ q) s.heap H locs → RLz z u → W p l e room_1 s m #[Value.ref b] below meth c H locs cells slots Q (F0 m 765 ls [])) : W p l e room_1 s m #[Value.ref b] below meth c H locs cells slots Q (F0 m 505 ls []) := by
  have hx := S.1
  have hb := S.2.1
  obtain ⟨hI1, hI2, hA1, hA2, hd, hK, hT⟩ := w
  refine lv_aload_n hx hb dL_law_505 rfl (lv_at hl 1 rfl) ?_
  refine r_callI S hK hc (c_X5_restore l G a1 hI1 z hh.1 hh.2.1) (r_cw S k_657 k_654 k_655 k_656 k_2 q_X5_restore ⟨Nat.le_of_ble_eq_true rfl, Nat.le_of_ble_eq_true rfl⟩ rfl rfl) (g_recv hK hc (i := 329) (by omega) cC0 rfl) rfl hl.1 rfl (Nat.le_of_ble_eq_true rfl) dL_law_506 hr hS (lw_A hA1) (fun H locs hc hk1 _ hS => ?_)
  have hm := lw_mk hm hd hk1
  refine lv_aload_n hx hb dL_law_509 rfl (lv_at hl 2 rfl) ?_
  refine r_callI S hK hm (c_X6_restore l G a2 hI2 u (RL_KI hh)) (r_cw S k_661 k_658 k_659 k_660 k_5 q_X6_restore ⟨Nat.le_of_ble_eq_true rfl, Nat.le_of_ble_eq_true rfl⟩ rfl rfl) (g_recv hK hm (i := 0) (by omega) mC0 rfl) rfl hl.1 rfl (Nat.le_of_ble_eq_true rfl) dL_law_510 hr hS (lw_A hA2) (fun H locs hm hk1 _ hS => ?_)
  have hc := lw_ck hc hd hk1
  exact lv_icmp_eq (tgt := 765) hx hb dL_law_513 (by decide) (fun _ => kk _ _ H locs hc hm hS (M_restore hh).2) (fun q => absurd (M_restore hh).1 q)
set_option maxHeartbeats 4000000 in
set_option maxRecDepth 100000 in
theorem lw_case_billOf (S : CallFix p m c cL_law 4 s #[Value.ref b] BIG RL) (w : lw_W G a1 a2 t1 t2 s) (hX : va_X b L xs s s.heap) (hbl : b < s.heap.size) (hL : L ≤ 2560) (hi : i + 5 ≤ L) (hl : lv_has ls 4 [(0, .ref b), (1, .ref (a1 329)), (2, .ref (a2 0)), (3, .int (nI i))]) (hc : cP G a1 z H) (hm : mP G a2 u H) (hS : va_S (fun q => s.heap.size ≤ q) s.heap H locs) (hh : RLz z u) (hr : cells ≤ room_1.cells ∧ slots ≤ room_1.slots)
    (kk : ∀ (z : CS) (u : Nat → Nat → Int32) (H : Heap) (locs : List Loc), cP G a1 z H → mP G a2 u H → va_S (fun q => s.heap.size ≤ q) s.heap H locs → RLz z u → W p l e room_1 s m #[Value.ref b] below meth c H locs cells slots Q (F0 m 765 ls [])) : W p l e room_1 s m #[Value.ref b] below meth c H locs cells slots Q (F0 m 518 ls []) := by
  have hx := S.1
  have hb := S.2.1
  obtain ⟨hI1, hI2, hA1, hA2, hd, hK, hT⟩ := w
  refine lv_aload_n hx hb dL_law_518 rfl (lv_at hl 1 rfl) ?_
  refine lw_arg S hX hbl hS hl hL 1 (by omega) (by decide) dL_law_519 dL_law_520 dL_law_521 dL_law_522 dL_law_523 ?_
  refine lw_arg S hX hbl hS hl hL 2 (by omega) (by decide) dL_law_524 dL_law_525 dL_law_526 dL_law_527 dL_law_528 ?_
  refine r_callI S hK hc (c_X5_billOf l G a1 hI1 z (xs (i + 1)) (xs (i + 2)) hh.1 hh.2.1) (r_cw S k_665 k_662 k_663 k_664 k_2 q_X5_billOf ⟨Nat.le_of_ble_eq_true rfl, Nat.le_of_ble_eq_true rfl⟩ rfl rfl) (g_recv hK hc (i := 329) (by omega) cC0 rfl) rfl hl.1 rfl (Nat.le_of_ble_eq_true rfl) dL_law_529 hr hS (lw_A hA1) (fun H locs hc hk1 _ hS => ?_)
  have hm := lw_mk hm hd hk1
  refine lv_aload_n hx hb dL_law_532 rfl (lv_at hl 2 rfl) ?_
  refine lw_arg S hX hbl hS hl hL 1 (by omega) (by decide) dL_law_533 dL_law_534 dL_law_535 dL_law_536 dL_law_537 ?_
  refine lw_arg S hX hbl hS hl hL 2 (by omega) (by decide) dL_law_538 dL_law_539 dL_law_540 dL_law_541 dL_law_542 ?_
  refine r_callI S hK hm (c_X6_billOf l G a2 hI2 u (xs (i + 1)) (xs (i + 2)) (RL_SI hh)) (r_cw S k_684 k_681 k_682 k_683 k_5 q_X6_billOf ⟨Nat.le_of_ble_eq_true rfl, Nat.le_of_ble_eq_true rfl⟩ rfl rfl) (g_recv hK hm (i := 0) (by omega) mC0 rfl) rfl hl.1 rfl (Nat.le_of_ble_eq_true rfl) dL_law_543 hr hS (lw_A hA2) (fun H locs hm hk1 _ hS => ?_)
  have hc := lw_ck hc hd hk1
  exact lv_icmp_eq (tgt := 765) hx hb dL_law_546 (by decide) (fun _ => kk z u H locs hc hm hS hh) (fun q => absurd (R_billOf hh (xs (i + 1)) (xs (i + 2))) q)
set_option maxHeartbeats 4000000 in
set_option maxRecDepth 100000 in
theorem lw_case_customer (S : CallFix p m c cL_law 4 s #[Value.ref b] BIG RL) (w : lw_W G a1 a2 t1 t2 s) (hX : va_X b L xs s s.heap) (hbl : b < s.heap.size) (hL : L ≤ 2560) (hi : i + 5 ≤ L) (hl : lv_has ls 4 [(0, .ref b), (1, .ref (a1 329)), (2, .ref (a2 0)), (3, .int (nI i))]) (hc : cP G a1 z H) (hm : mP G a2 u H) (hS : va_S (fun q => s.heap.size ≤ q) s.heap H locs) (hh : RLz z u) (hr : cells ≤ room_1.cells ∧ slots ≤ room_1.slots)
    (kk : ∀ (z : CS) (u : Nat → Nat → Int32) (H : Heap) (locs : List Loc), cP G a1 z H → mP G a2 u H → va_S (fun q => s.heap.size ≤ q) s.heap H locs → RLz z u → W p l e room_1 s m #[Value.ref b] below meth c H locs cells slots Q (F0 m 765 ls [])) : W p l e room_1 s m #[Value.ref b] below meth c H locs cells slots Q (F0 m 551 ls []) := by
  have hx := S.1
  have hb := S.2.1
  obtain ⟨hI1, hI2, hA1, hA2, hd, hK, hT⟩ := w
  refine lv_aload_n hx hb dL_law_551 rfl (lv_at hl 1 rfl) ?_
  refine lw_arg S hX hbl hS hl hL 1 (by omega) (by decide) dL_law_552 dL_law_553 dL_law_554 dL_law_555 dL_law_556 ?_
  refine lw_arg S hX hbl hS hl hL 2 (by omega) (by decide) dL_law_557 dL_law_558 dL_law_559 dL_law_560 dL_law_561 ?_
  refine r_callI S hK hc (c_X5_customer l G a1 hI1 z (xs (i + 1)) (xs (i + 2)) hh.1 hh.2.1) (r_cw S k_688 k_685 k_686 k_687 k_2 q_X5_customer ⟨Nat.le_of_ble_eq_true rfl, Nat.le_of_ble_eq_true rfl⟩ rfl rfl) (g_recv hK hc (i := 329) (by omega) cC0 rfl) rfl hl.1 rfl (Nat.le_of_ble_eq_true rfl) dL_law_562 hr hS (lw_A hA1) (fun H locs hc hk1 _ hS => ?_)
  have hm := lw_mk hm hd hk1
  refine lv_aload_n hx hb dL_law_565 rfl (lv_at hl 2 rfl) ?_
  refine lw_arg S hX hbl hS hl hL 1 (by omega) (by decide) dL_law_566 dL_law_567 dL_law_568 dL_law_569 dL_law_570 ?_
  refine lw_arg S hX hbl hS hl hL 2 (by omega) (by decide) dL_law_571 dL_law_572 dL_law_573 dL_law_574 dL_law_575 ?_
  refine r_callI S hK hm (c_X6_customer l G a2 hI2 u (xs (i + 1)) (xs (i + 2)) (RL_SI hh)) (r_cw S k_708 k_705 k_706 k_707 k_5 q_X6_customer ⟨Nat.le_of_ble_eq_true rfl, Nat.le_of_ble_eq_true rfl⟩ rfl rfl) (g_recv hK hm (i := 0) (by omega) mC0 rfl) rfl hl.1 rfl (Nat.le_of_ble_eq_true rfl) dL_law_576 hr hS (lw_A hA2) (fun H locs hm hk1 _ hS => ?_)
  have hc := lw_ck hc hd hk1
  exact lv_icmp_eq (tgt := 765) hx hb dL_law_579 (by decide) (fun _ => kk z u H locs hc hm hS hh) (fun q => absurd (R_customer hh (xs (i + 1)) (xs (i + 2))) q)
set_option maxHeartbeats 4000000 in
set_option maxRecDepth 100000 in
theorem lw_case_tax (S : CallFix p m c cL_law 4 s #[Value.ref b] BIG RL) (w : lw_W G a1 a2 t1 t2 s) (hX : va_X b L xs s s.heap) (hbl : b < s.heap.size) (hL : L ≤ 2560) (hi : i + 5 ≤ L) (hl : lv_has ls 4 [(0, .ref b), (1, .ref (a1 329)), (2, .ref (a2 0)), (3, .int (nI i))]) (hc : cP G a1 z H) (hm : mP G a2 u H) (hS : va_S (fun q => s.heap.size ≤ q) s.heap H locs) (hh : RLz z u) (hr : cells ≤ room_1.cells ∧ slots ≤ room_1.slots)
    (kk : ∀ (z : CS) (u : Nat → Nat → Int32) (H : Heap) (locs : List Loc), cP G a1 z H → mP G a2 u H → va_S (fun q => s.heap.size ≤ q) s.heap H locs → RLz z u → W p l e room_1 s m #[Value.ref b] below meth c H locs cells slots Q (F0 m 765 ls [])) : W p l e room_1 s m #[Value.ref b] below meth c H locs cells slots Q (F0 m 584 ls []) := by
  have hx := S.1
  have hb := S.2.1
  obtain ⟨hI1, hI2, hA1, hA2, hd, hK, hT⟩ := w
  refine lv_aload_n hx hb dL_law_584 rfl (lv_at hl 1 rfl) ?_
  refine lw_arg S hX hbl hS hl hL 1 (by omega) (by decide) dL_law_585 dL_law_586 dL_law_587 dL_law_588 dL_law_589 ?_
  refine lw_arg S hX hbl hS hl hL 2 (by omega) (by decide) dL_law_590 dL_law_591 dL_law_592 dL_law_593 dL_law_594 ?_
  refine r_callI S hK hc (c_X5_tax l G a1 hI1 z (xs (i + 1)) (xs (i + 2)) hh.1 hh.2.1) (r_cw S k_724 k_721 k_722 k_723 k_2 q_X5_tax ⟨Nat.le_of_ble_eq_true rfl, Nat.le_of_ble_eq_true rfl⟩ rfl rfl) (g_recv hK hc (i := 329) (by omega) cC0 rfl) rfl hl.1 rfl (Nat.le_of_ble_eq_true rfl) dL_law_595 hr hS (lw_A hA1) (fun H locs hc hk1 _ hS => ?_)
  have hm := lw_mk hm hd hk1
  refine lv_aload_n hx hb dL_law_598 rfl (lv_at hl 2 rfl) ?_
  refine lw_arg S hX hbl hS hl hL 1 (by omega) (by decide) dL_law_599 dL_law_600 dL_law_601 dL_law_602 dL_law_603 ?_
  refine lw_arg S hX hbl hS hl hL 2 (by omega) (by decide) dL_law_604 dL_law_605 dL_law_606 dL_law_607 dL_law_608 ?_
  refine r_callI S hK hm (c_X6_tax l G a2 hI2 u (xs (i + 1)) (xs (i + 2)) (RL_SI hh)) (r_cw S k_734 k_731 k_732 k_733 k_5 q_X6_tax ⟨Nat.le_of_ble_eq_true rfl, Nat.le_of_ble_eq_true rfl⟩ rfl rfl) (g_recv hK hm (i := 0) (by omega) mC0 rfl) rfl hl.1 rfl (Nat.le_of_ble_eq_true rfl) dL_law_609 hr hS (lw_A hA2) (fun H locs hm hk1 _ hS => ?_)
  have hc := lw_ck hc hd hk1
  exact lv_icmp_eq (tgt := 765) hx hb dL_law_612 (by decide) (fun _ => kk z u H locs hc hm hS hh) (fun q => absurd (R_tax hh (xs (i + 1)) (xs (i + 2))) q)
set_option maxHeartbeats 4000000 in
set_option maxRecDepth 100000 in
theorem lw_case_reason (S : CallFix p m c cL_law 4 s #[Value.ref b] BIG RL) (w : lw_W G a1 a2 t1 t2 s) (hX : va_X b L xs s s.heap) (hbl : b < s.heap.size) (hL : L ≤ 2560) (hi : i + 5 ≤ L) (hl : lv_has ls 4 [(0, .ref b), (1, .ref (a1 329)), (2, .ref (a2 0)), (3, .int (nI i))]) (hc : cP G a1 z H) (hm : mP G a2 u H) (hS : va_S (fun q => s.heap.size ≤ q) s.heap H locs) (hh : RLz z u) (hr : cells ≤ room_1.cells ∧ slots ≤ room_1.slots)
    (kk : ∀ (z : CS) (u : Nat → Nat → Int32) (H : Heap) (locs : List Loc), cP G a1 z H → mP G a2 u H → va_S (fun q => s.heap.size ≤ q) s.heap H locs → RLz z u → W p l e room_1 s m #[Value.ref b] below meth c H locs cells slots Q (F0 m 765 ls [])) : W p l e room_1 s m #[Value.ref b] below meth c H locs cells slots Q (F0 m 617 ls []) := by
  have hx := S.1
  have hb := S.2.1
  obtain ⟨hI1, hI2, hA1, hA2, hd, hK, hT⟩ := w
  refine lv_aload_n hx hb dL_law_617 rfl (lv_at hl 1 rfl) ?_
  refine lw_arg S hX hbl hS hl hL 1 (by omega) (by decide) dL_law_618 dL_law_619 dL_law_620 dL_law_621 dL_law_622 ?_
  refine r_callI S hK hc (c_X5_reason l G a1 hI1 z (xs (i + 1)) hh.1 hh.2.1) (r_cw S k_738 k_735 k_736 k_737 k_2 q_X5_reason ⟨Nat.le_of_ble_eq_true rfl, Nat.le_of_ble_eq_true rfl⟩ rfl rfl) (g_recv hK hc (i := 329) (by omega) cC0 rfl) rfl hl.1 rfl (Nat.le_of_ble_eq_true rfl) dL_law_623 hr hS (lw_A hA1) (fun H locs hc hk1 _ hS => ?_)
  have hm := lw_mk hm hd hk1
  refine lv_aload_n hx hb dL_law_626 rfl (lv_at hl 2 rfl) ?_
  refine lw_arg S hX hbl hS hl hL 1 (by omega) (by decide) dL_law_627 dL_law_628 dL_law_629 dL_law_630 dL_law_631 ?_
  refine r_callI S hK hm (c_X6_reason l G a2 hI2 u (xs (i + 1)) (RL_SI hh)) (r_cw S k_744 k_741 k_742 k_743 k_5 q_X6_reason ⟨Nat.le_of_ble_eq_true rfl, Nat.le_of_ble_eq_true rfl⟩ rfl rfl) (g_recv hK hm (i := 0) (by omega) mC0 rfl) rfl hl.1 rfl (Nat.le_of_ble_eq_true rfl) dL_law_632 hr hS (lw_A hA2) (fun H locs hm hk1 _ hS => ?_)
  have hc := lw_ck hc hd hk1
  exact lv_icmp_eq (tgt := 765) hx hb dL_law_635 (by decide) (fun _ => kk z u H locs hc hm hS hh) (fun q => absurd (R_reason hh (xs (i + 1))) q)
set_option maxHeartbeats 4000000 in
set_option maxRecDepth 100000 in
theorem lw_case_ifPaid (S : CallFix p m c cL_law 4 s #[Value.ref b] BIG RL) (w : lw_W G a1 a2 t1 t2 s) (hX : va_X b L xs s s.heap) (hbl : b < s.heap.size) (hL : L ≤ 2560) (hi : i + 5 ≤ L) (hl : lv_has ls 4 [(0, .ref b), (1, .ref (a1 329)), (2, .ref (a2 0)), (3, .int (nI i))]) (hc : cP G a1 z H) (hm : mP G a2 u H) (hS : va_S (fun q => s.heap.size ≤ q) s.heap H locs) (hh : RLz z u) (hr : cells ≤ room_1.cells ∧ slots ≤ room_1.slots)
    (kk : ∀ (z : CS) (u : Nat → Nat → Int32) (H : Heap) (locs : List Loc), cP G a1 z H → mP G a2 u H → va_S (fun q => s.heap.size ≤ q) s.heap H locs → RLz z u → W p l e room_1 s m #[Value.ref b] below meth c H locs cells slots Q (F0 m 765 ls [])) : W p l e room_1 s m #[Value.ref b] below meth c H locs cells slots Q (F0 m 640 ls []) := by
  have hx := S.1
  have hb := S.2.1
  obtain ⟨hI1, hI2, hA1, hA2, hd, hK, hT⟩ := w
  refine lv_aload_n hx hb dL_law_640 rfl (lv_at hl 1 rfl) ?_
  refine lw_arg S hX hbl hS hl hL 1 (by omega) (by decide) dL_law_641 dL_law_642 dL_law_643 dL_law_644 dL_law_645 ?_
  refine lw_arg S hX hbl hS hl hL 2 (by omega) (by decide) dL_law_646 dL_law_647 dL_law_648 dL_law_649 dL_law_650 ?_
  refine lw_arg S hX hbl hS hl hL 3 (by omega) (by decide) dL_law_651 dL_law_652 dL_law_653 dL_law_654 dL_law_655 ?_
  refine r_callI S hK hc (c_X5_ifPaid l G a1 hI1 z (xs (i + 1)) (xs (i + 2)) (xs (i + 3)) hh.1 hh.2.1) (r_cw S k_748 k_745 k_746 k_747 k_2 q_X5_ifPaid ⟨Nat.le_of_ble_eq_true rfl, Nat.le_of_ble_eq_true rfl⟩ rfl rfl) (g_recv hK hc (i := 329) (by omega) cC0 rfl) rfl hl.1 rfl (Nat.le_of_ble_eq_true rfl) dL_law_656 hr hS (lw_A hA1) (fun H locs hc hk1 _ hS => ?_)
  have hm := lw_mk hm hd hk1
  refine lv_aload_n hx hb dL_law_659 rfl (lv_at hl 2 rfl) ?_
  refine lw_arg S hX hbl hS hl hL 1 (by omega) (by decide) dL_law_660 dL_law_661 dL_law_662 dL_law_663 dL_law_664 ?_
  refine lw_arg S hX hbl hS hl hL 2 (by omega) (by decide) dL_law_665 dL_law_666 dL_law_667 dL_law_668 dL_law_669 ?_
  refine lw_arg S hX hbl hS hl hL 3 (by omega) (by decide) dL_law_670 dL_law_671 dL_law_672 dL_law_673 dL_law_674 ?_
  refine r_callI S hK hm (c_X6_ifPaid l G a2 hI2 u (xs (i + 1)) (xs (i + 2)) (xs (i + 3)) (RL_SI hh)) (r_cw S k_758 k_755 k_756 k_757 k_5 q_X6_ifPaid ⟨Nat.le_of_ble_eq_true rfl, Nat.le_of_ble_eq_true rfl⟩ rfl rfl) (g_recv hK hm (i := 0) (by omega) mC0 rfl) rfl hl.1 rfl (Nat.le_of_ble_eq_true rfl) dL_law_675 hr hS (lw_A hA2) (fun H locs hm hk1 _ hS => ?_)
  have hc := lw_ck hc hd hk1
  exact lv_icmp_eq (tgt := 765) hx hb dL_law_678 (by decide) (fun _ => kk _ _ H locs hc hm hS (M_ifPaid hh (xs (i + 1)) (xs (i + 2)) (xs (i + 3))).2) (fun q => absurd (M_ifPaid hh (xs (i + 1)) (xs (i + 2)) (xs (i + 3))).1 q)
set_option maxHeartbeats 4000000 in
set_option maxRecDepth 100000 in
theorem lw_case_settles (S : CallFix p m c cL_law 4 s #[Value.ref b] BIG RL) (w : lw_W G a1 a2 t1 t2 s) (hX : va_X b L xs s s.heap) (hbl : b < s.heap.size) (hL : L ≤ 2560) (hi : i + 5 ≤ L) (hl : lv_has ls 4 [(0, .ref b), (1, .ref (a1 329)), (2, .ref (a2 0)), (3, .int (nI i))]) (hc : cP G a1 z H) (hm : mP G a2 u H) (hS : va_S (fun q => s.heap.size ≤ q) s.heap H locs) (hh : RLz z u) (hr : cells ≤ room_1.cells ∧ slots ≤ room_1.slots)
    (kk : ∀ (z : CS) (u : Nat → Nat → Int32) (H : Heap) (locs : List Loc), cP G a1 z H → mP G a2 u H → va_S (fun q => s.heap.size ≤ q) s.heap H locs → RLz z u → W p l e room_1 s m #[Value.ref b] below meth c H locs cells slots Q (F0 m 765 ls [])) : W p l e room_1 s m #[Value.ref b] below meth c H locs cells slots Q (F0 m 683 ls []) := by
  have hx := S.1
  have hb := S.2.1
  obtain ⟨hI1, hI2, hA1, hA2, hd, hK, hT⟩ := w
  refine lv_aload_n hx hb dL_law_683 rfl (lv_at hl 1 rfl) ?_
  refine lw_arg S hX hbl hS hl hL 1 (by omega) (by decide) dL_law_684 dL_law_685 dL_law_686 dL_law_687 dL_law_688 ?_
  refine r_callI S hK hc (c_X5_settles l G a1 hI1 z (xs (i + 1)) hh.1 hh.2.1) (r_cw S k_766 k_763 k_764 k_765 k_2 q_X5_settles ⟨Nat.le_of_ble_eq_true rfl, Nat.le_of_ble_eq_true rfl⟩ rfl rfl) (g_recv hK hc (i := 329) (by omega) cC0 rfl) rfl hl.1 rfl (Nat.le_of_ble_eq_true rfl) dL_law_689 hr hS (lw_A hA1) (fun H locs hc hk1 _ hS => ?_)
  have hm := lw_mk hm hd hk1
  refine lv_aload_n hx hb dL_law_692 rfl (lv_at hl 2 rfl) ?_
  refine lw_arg S hX hbl hS hl hL 1 (by omega) (by decide) dL_law_693 dL_law_694 dL_law_695 dL_law_696 dL_law_697 ?_
  refine r_callI S hK hm (c_X6_settles l G a2 hI2 u (xs (i + 1)) (RL_SI hh)) (r_cw S k_774 k_771 k_772 k_773 k_5 q_X6_settles ⟨Nat.le_of_ble_eq_true rfl, Nat.le_of_ble_eq_true rfl⟩ rfl rfl) (g_recv hK hm (i := 0) (by omega) mC0 rfl) rfl hl.1 rfl (Nat.le_of_ble_eq_true rfl) dL_law_698 hr hS (lw_A hA2) (fun H locs hm hk1 _ hS => ?_)
  have hc := lw_ck hc hd hk1
  exact lv_icmp_eq (tgt := 765) hx hb dL_law_701 (by decide) (fun _ => kk z u H locs hc hm hS hh) (fun q => absurd (R_settles hh (xs (i + 1))) q)
set_option maxHeartbeats 4000000 in
set_option maxRecDepth 100000 in
theorem lw_case_nextReminder (S : CallFix p m c cL_law 4 s #[Value.ref b] BIG RL) (w : lw_W G a1 a2 t1 t2 s) (hX : va_X b L xs s s.heap) (hbl : b < s.heap.size) (hL : L ≤ 2560) (hi : i + 5 ≤ L) (hl : lv_has ls 4 [(0, .ref b), (1, .ref (a1 329)), (2, .ref (a2 0)), (3, .int (nI i))]) (hc : cP G a1 z H) (hm : mP G a2 u H) (hS : va_S (fun q => s.heap.size ≤ q) s.heap H locs) (hh : RLz z u) (hr : cells ≤ room_1.cells ∧ slots ≤ room_1.slots)
    (kk : ∀ (z : CS) (u : Nat → Nat → Int32) (H : Heap) (locs : List Loc), cP G a1 z H → mP G a2 u H → va_S (fun q => s.heap.size ≤ q) s.heap H locs → RLz z u → W p l e room_1 s m #[Value.ref b] below meth c H locs cells slots Q (F0 m 765 ls [])) : W p l e room_1 s m #[Value.ref b] below meth c H locs cells slots Q (F0 m 706 ls []) := by
  have hx := S.1
  have hb := S.2.1
  obtain ⟨hI1, hI2, hA1, hA2, hd, hK, hT⟩ := w
  refine lv_aload_n hx hb dL_law_706 rfl (lv_at hl 1 rfl) ?_
  refine lw_arg S hX hbl hS hl hL 1 (by omega) (by decide) dL_law_707 dL_law_708 dL_law_709 dL_law_710 dL_law_711 ?_
  refine r_callI S hK hc (c_X5_nextReminder l G a1 hI1 z (xs (i + 1)) hh.1 hh.2.1) (r_cw S k_778 k_775 k_776 k_777 k_2 q_X5_nextReminder ⟨Nat.le_of_ble_eq_true rfl, Nat.le_of_ble_eq_true rfl⟩ rfl rfl) (g_recv hK hc (i := 329) (by omega) cC0 rfl) rfl hl.1 rfl (Nat.le_of_ble_eq_true rfl) dL_law_712 hr hS (lw_A hA1) (fun H locs hc hk1 _ hS => ?_)
  have hm := lw_mk hm hd hk1
  refine lv_aload_n hx hb dL_law_715 rfl (lv_at hl 2 rfl) ?_
  refine lw_arg S hX hbl hS hl hL 1 (by omega) (by decide) dL_law_716 dL_law_717 dL_law_718 dL_law_719 dL_law_720 ?_
  refine r_callI S hK hm (c_X6_nextReminder l G a2 hI2 u (xs (i + 1)) (RL_SI hh)) (r_cw S k_790 k_787 k_788 k_789 k_5 q_X6_nextReminder ⟨Nat.le_of_ble_eq_true rfl, Nat.le_of_ble_eq_true rfl⟩ rfl rfl) (g_recv hK hm (i := 0) (by omega) mC0 rfl) rfl hl.1 rfl (Nat.le_of_ble_eq_true rfl) dL_law_721 hr hS (lw_A hA2) (fun H locs hm hk1 _ hS => ?_)
  have hc := lw_ck hc hd hk1
  exact lv_icmp_eq (tgt := 765) hx hb dL_law_724 (by decide) (fun _ => kk z u H locs hc hm hS hh) (fun q => absurd (R_nextReminder hh (xs (i + 1))) q)
set_option maxHeartbeats 4000000 in
set_option maxRecDepth 100000 in
theorem lw_case_worst (S : CallFix p m c cL_law 4 s #[Value.ref b] BIG RL) (w : lw_W G a1 a2 t1 t2 s) (hX : va_X b L xs s s.heap) (hbl : b < s.heap.size) (hL : L ≤ 2560) (hi : i + 5 ≤ L) (hl : lv_has ls 4 [(0, .ref b), (1, .ref (a1 329)), (2, .ref (a2 0)), (3, .int (nI i))]) (hc : cP G a1 z H) (hm : mP G a2 u H) (hS : va_S (fun q => s.heap.size ≤ q) s.heap H locs) (hh : RLz z u) (hr : cells ≤ room_1.cells ∧ slots ≤ room_1.slots)
    (kk : ∀ (z : CS) (u : Nat → Nat → Int32) (H : Heap) (locs : List Loc), cP G a1 z H → mP G a2 u H → va_S (fun q => s.heap.size ≤ q) s.heap H locs → RLz z u → W p l e room_1 s m #[Value.ref b] below meth c H locs cells slots Q (F0 m 765 ls [])) : W p l e room_1 s m #[Value.ref b] below meth c H locs cells slots Q (F0 m 729 ls []) := by
  have hx := S.1
  have hb := S.2.1
  obtain ⟨hI1, hI2, hA1, hA2, hd, hK, hT⟩ := w
  refine lv_aload_n hx hb dL_law_729 rfl (lv_at hl 1 rfl) ?_
  refine r_callI S hK hc (c_X5_worst l G a1 hI1 z hh.1 hh.2.1) (r_cw S k_794 k_791 k_792 k_793 k_2 q_X5_worst ⟨Nat.le_of_ble_eq_true rfl, Nat.le_of_ble_eq_true rfl⟩ rfl rfl) (g_recv hK hc (i := 329) (by omega) cC0 rfl) rfl hl.1 rfl (Nat.le_of_ble_eq_true rfl) dL_law_730 hr hS (lw_A hA1) (fun H locs hc hk1 _ hS => ?_)
  have hm := lw_mk hm hd hk1
  refine lv_aload_n hx hb dL_law_733 rfl (lv_at hl 2 rfl) ?_
  refine r_callI S hK hm (c_X6_worst l G a2 hI2 u (RL_SI hh)) (r_cw S k_798 k_795 k_796 k_797 k_5 q_X6_worst ⟨Nat.le_of_ble_eq_true rfl, Nat.le_of_ble_eq_true rfl⟩ rfl rfl) (g_recv hK hm (i := 0) (by omega) mC0 rfl) rfl hl.1 rfl (Nat.le_of_ble_eq_true rfl) dL_law_734 hr hS (lw_A hA2) (fun H locs hm hk1 _ hS => ?_)
  have hc := lw_ck hc hd hk1
  exact lv_icmp_eq (tgt := 765) hx hb dL_law_737 (by decide) (fun _ => kk z u H locs hc hm hS hh) (fun q => absurd (R_worst hh) q)
set_option maxHeartbeats 4000000 in
set_option maxRecDepth 100000 in
theorem lw_case_count (S : CallFix p m c cL_law 4 s #[Value.ref b] BIG RL) (w : lw_W G a1 a2 t1 t2 s) (hX : va_X b L xs s s.heap) (hbl : b < s.heap.size) (hL : L ≤ 2560) (hi : i + 5 ≤ L) (hl : lv_has ls 4 [(0, .ref b), (1, .ref (a1 329)), (2, .ref (a2 0)), (3, .int (nI i))]) (hc : cP G a1 z H) (hm : mP G a2 u H) (hS : va_S (fun q => s.heap.size ≤ q) s.heap H locs) (hh : RLz z u) (hr : cells ≤ room_1.cells ∧ slots ≤ room_1.slots)
    (kk : ∀ (z : CS) (u : Nat → Nat → Int32) (H : Heap) (locs : List Loc), cP G a1 z H → mP G a2 u H → va_S (fun q => s.heap.size ≤ q) s.heap H locs → RLz z u → W p l e room_1 s m #[Value.ref b] below meth c H locs cells slots Q (F0 m 765 ls [])) : W p l e room_1 s m #[Value.ref b] below meth c H locs cells slots Q (F0 m 742 ls []) := by
  have hx := S.1
  have hb := S.2.1
  obtain ⟨hI1, hI2, hA1, hA2, hd, hK, hT⟩ := w
  refine lv_aload_n hx hb dL_law_742 rfl (lv_at hl 1 rfl) ?_
  refine lw_arg S hX hbl hS hl hL 1 (by omega) (by decide) dL_law_743 dL_law_744 dL_law_745 dL_law_746 dL_law_747 ?_
  refine r_callI S hK hc (c_X5_count l G a1 hI1 z (xs (i + 1)) hh.1 hh.2.1) (r_cw S k_802 k_799 k_800 k_801 k_2 q_X5_count ⟨Nat.le_of_ble_eq_true rfl, Nat.le_of_ble_eq_true rfl⟩ rfl rfl) (g_recv hK hc (i := 329) (by omega) cC0 rfl) rfl hl.1 rfl (Nat.le_of_ble_eq_true rfl) dL_law_748 hr hS (lw_A hA1) (fun H locs hc hk1 _ hS => ?_)
  have hm := lw_mk hm hd hk1
  refine lv_aload_n hx hb dL_law_751 rfl (lv_at hl 2 rfl) ?_
  refine lw_arg S hX hbl hS hl hL 1 (by omega) (by decide) dL_law_752 dL_law_753 dL_law_754 dL_law_755 dL_law_756 ?_
  refine r_callI S hK hm (c_X6_count l G a2 hI2 u (xs (i + 1)) (RL_SI hh)) (r_cw S k_826 k_823 k_824 k_825 k_5 q_X6_count ⟨Nat.le_of_ble_eq_true rfl, Nat.le_of_ble_eq_true rfl⟩ rfl rfl) (g_recv hK hm (i := 0) (by omega) mC0 rfl) rfl hl.1 rfl (Nat.le_of_ble_eq_true rfl) dL_law_757 hr hS (lw_A hA2) (fun H locs hm hk1 _ hS => ?_)
  have hc := lw_ck hc hd hk1
  exact lv_icmp_eq (tgt := 765) hx hb dL_law_760 (by decide) (fun _ => kk z u H locs hc hm hS hh) (fun q => absurd (R_count hh (xs (i + 1))) q)
end LWC
