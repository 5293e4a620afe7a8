set_option maxHeartbeats 4000000 in
set_option maxRecDepth 100000 in
theorem zh_tick {p : Program} {l : Launch} {e : Env} {R : Room} {s : State} {m : MethodId} {args : Array Value} {below : List Frame} {meth : Method} {c : Code} {H : Heap} {locs : List Loc} {cells slots : Nat} {Q : State → Prop} {ls : Array Slot} {A : Nat → Prop} {G : zw_G} {b b0 b1 L i N : Nat} {xs : Nat → Int32} {S : zs_S} {T : zs_T} (F : CallFix p m c code 4 s args zw_WS "TwinLedgersLaw") (hE : zw_E G s) (hX : va_X b L xs s s.heap) (hbl : b < s.heap.size) (hbA : ¬ A b) (hL : L < 2 ^ 31) (hR : 8 ≤ R.frames ∧ 207 ≤ R.locals) (hcs : cells ≤ R.cells ∧ slots ≤ R.slots) (hb : b1 = b0 + 176) (hA : ∀ q, b0 ≤ q → A q) (hi : i + 6 ≤ L) (hN : N < 512) (h : zl_R N S T) (hP : va_P G.1 zw_cl (zw_l b0 176 (zp_p G b0 S)) H) (hP2 : va_P G.1 zw_cl (zw_l b1 26 (zq_p G b1 T)) H) (hS : va_S A s.heap H locs) (hl : lv_has ls 4 (zg_lv i b1 b0 b)) (kk : ∀ (S' : zs_S) (T' : zs_T) (H1 : Heap) (locs1 : List Loc), zl_R (N + 1) S' T' → va_P G.1 zw_cl (zw_l b0 176 (zp_p G b0 S')) H1 → va_P G.1 zw_cl (zw_l b1 26 (zq_p G b1 T')) H1 → va_S A s.heap H1 locs1 → W p l e R s m args below meth c H1 locs1 cells slots Q (F0 m 1066 ls [])) : W p l e R s m args below meth c H locs cells slots Q (F0 m 136 ls []) := by
  obtain ⟨r, S', T', hC, hT, h'⟩ := zf_tick (lc := l) (G := G) (b0 := b0) (b1 := b1) h hN (xs (i + 1))
  refine lv_aload_n F.1 F.2.1 dd_Law_law_136 rfl (lv_at hl 2 rfl) ?_
  refine zg_arg (n := 1) F hX hbl hbA hS hl hL dd_Law_law_137 dd_Law_law_138 dd_Law_law_139 (by decide) dd_Law_law_140 dd_Law_law_141 (by omega) ?_
  refine zg_C F hE hP hP2 hC zk_TL_tick za_TL_tick zb_TL_tick wl_Law_21 rfl (by decide) hR hcs hb (fun q z => hA q z.1) hS hl.1 rfl dd_Law_law_142 (fun H locs hP hP2 hS => ?_)
  refine lv_aload_n F.1 F.2.1 dd_Law_law_145 rfl (lv_at hl 1 rfl) ?_
  refine zg_arg (n := 1) F hX hbl hbA hS hl hL dd_Law_law_146 dd_Law_law_147 dd_Law_law_148 (by decide) dd_Law_law_149 dd_Law_law_150 (by omega) ?_
  refine zg_T F hE hP hP2 hT zk_Mo_tick za_Mo_tick zb_Mo_tick wl_Law_25 rfl (by decide) hR hcs hb (fun q z => hA q (by have := z.1; omega)) hS hl.1 rfl dd_Law_law_151 (fun H locs hP hP2 hS => ?_)
  refine lv_icmp_eq F.1 F.2.1 dd_Law_law_154 (tgt := 1066) rfl (fun _ => ?_) (fun z => absurd rfl z)
  exact kk S' T' H locs h' hP hP2 hS
set_option maxHeartbeats 4000000 in
set_option maxRecDepth 100000 in
theorem zh_update {p : Program} {l : Launch} {e : Env} {R : Room} {s : State} {m : MethodId} {args : Array Value} {below : List Frame} {meth : Method} {c : Code} {H : Heap} {locs : List Loc} {cells slots : Nat} {Q : State → Prop} {ls : Array Slot} {A : Nat → Prop} {G : zw_G} {b b0 b1 L i N : Nat} {xs : Nat → Int32} {S : zs_S} {T : zs_T} (F : CallFix p m c code 4 s args zw_WS "TwinLedgersLaw") (hE : zw_E G s) (hX : va_X b L xs s s.heap) (hbl : b < s.heap.size) (hbA : ¬ A b) (hL : L < 2 ^ 31) (hR : 8 ≤ R.frames ∧ 207 ≤ R.locals) (hcs : cells ≤ R.cells ∧ slots ≤ R.slots) (hb : b1 = b0 + 176) (hA : ∀ q, b0 ≤ q → A q) (hi : i + 6 ≤ L) (hN : N < 512) (h : zl_R N S T) (hP : va_P G.1 zw_cl (zw_l b0 176 (zp_p G b0 S)) H) (hP2 : va_P G.1 zw_cl (zw_l b1 26 (zq_p G b1 T)) H) (hS : va_S A s.heap H locs) (hl : lv_has ls 4 (zg_lv i b1 b0 b)) (kk : ∀ (S' : zs_S) (T' : zs_T) (H1 : Heap) (locs1 : List Loc), zl_R (N + 1) S' T' → va_P G.1 zw_cl (zw_l b0 176 (zp_p G b0 S')) H1 → va_P G.1 zw_cl (zw_l b1 26 (zq_p G b1 T')) H1 → va_S A s.heap H1 locs1 → W p l e R s m args below meth c H1 locs1 cells slots Q (F0 m 1066 ls [])) : W p l e R s m args below meth c H locs cells slots Q (F0 m 159 ls []) := by
  obtain ⟨r, S', T', hC, hT, h'⟩ := zf_update (lc := l) (G := G) (b0 := b0) (b1 := b1) h (xs (i + 1)) (xs (i + 2)) (xs (i + 3)) (zs_fl (xs (i + 4)))
  refine lv_aload_n F.1 F.2.1 dd_Law_law_159 rfl (lv_at hl 2 rfl) ?_
  refine zg_arg (n := 1) F hX hbl hbA hS hl hL dd_Law_law_160 dd_Law_law_161 dd_Law_law_162 (by decide) dd_Law_law_163 dd_Law_law_164 (by omega) ?_
  refine zg_arg (n := 2) F hX hbl hbA hS hl hL dd_Law_law_165 dd_Law_law_166 dd_Law_law_167 (by decide) dd_Law_law_168 dd_Law_law_169 (by omega) ?_
  refine zg_arg (n := 3) F hX hbl hbA hS hl hL dd_Law_law_170 dd_Law_law_171 dd_Law_law_172 (by decide) dd_Law_law_173 dd_Law_law_174 (by omega) ?_
  refine zg_flag (n := 4) F hX hbl hbA hS hl hL dd_Law_law_175 dd_Law_law_176 dd_Law_law_177 (by decide) dd_Law_law_178 dd_Law_law_179 dd_Law_law_180 dd_Law_law_183 dd_Law_law_184 dd_Law_law_187 (by omega) ?_
  refine zg_C F hE hP hP2 hC zk_TL_update za_TL_update zb_TL_update wl_Law_26 rfl (by decide) hR hcs hb (fun q z => hA q z.1) hS hl.1 rfl dd_Law_law_188 (fun H locs hP hP2 hS => ?_)
  refine lv_aload_n F.1 F.2.1 dd_Law_law_191 rfl (lv_at hl 1 rfl) ?_
  refine zg_arg (n := 1) F hX hbl hbA hS hl hL dd_Law_law_192 dd_Law_law_193 dd_Law_law_194 (by decide) dd_Law_law_195 dd_Law_law_196 (by omega) ?_
  refine zg_arg (n := 2) F hX hbl hbA hS hl hL dd_Law_law_197 dd_Law_law_198 dd_Law_law_199 (by decide) dd_Law_law_200 dd_Law_law_201 (by omega) ?_
  refine zg_arg (n := 3) F hX hbl hbA hS hl hL dd_Law_law_202 dd_Law_law_203 dd_Law_law_204 (by decide) dd_Law_law_205 dd_Law_law_206 (by omega) ?_
  refine zg_flag (n := 4) F hX hbl hbA hS hl hL dd_Law_law_207 dd_Law_law_208 dd_Law_law_209 (by decide) dd_Law_law_210 dd_Law_law_211 dd_Law_law_212 dd_Law_law_215 dd_Law_law_216 dd_Law_law_219 (by omega) ?_
  refine zg_T F hE hP hP2 hT zk_Mo_update za_Mo_update zb_Mo_update wl_Law_30 rfl (by decide) hR hcs hb (fun q z => hA q (by have := z.1; omega)) hS hl.1 rfl dd_Law_law_220 (fun H locs hP hP2 hS => ?_)
  refine lv_icmp_eq F.1 F.2.1 dd_Law_law_223 (tgt := 1066) rfl (fun _ => ?_) (fun z => absurd rfl z)
  exact kk S' T' H locs h' hP hP2 hS
set_option maxHeartbeats 4000000 in
set_option maxRecDepth 100000 in
theorem zh_init {p : Program} {l : Launch} {e : Env} {R : Room} {s : State} {m : MethodId} {args : Array Value} {below : List Frame} {meth : Method} {c : Code} {H : Heap} {locs : List Loc} {cells slots : Nat} {Q : State → Prop} {ls : Array Slot} {A : Nat → Prop} {G : zw_G} {b b0 b1 L i N : Nat} {xs : Nat → Int32} {S : zs_S} {T : zs_T} (F : CallFix p m c code 4 s args zw_WS "TwinLedgersLaw") (hE : zw_E G s) (hX : va_X b L xs s s.heap) (hbl : b < s.heap.size) (hbA : ¬ A b) (hL : L < 2 ^ 31) (hR : 8 ≤ R.frames ∧ 207 ≤ R.locals) (hcs : cells ≤ R.cells ∧ slots ≤ R.slots) (hb : b1 = b0 + 176) (hA : ∀ q, b0 ≤ q → A q) (hi : i + 6 ≤ L) (hN : N < 512) (h : zl_R N S T) (hP : va_P G.1 zw_cl (zw_l b0 176 (zp_p G b0 S)) H) (hP2 : va_P G.1 zw_cl (zw_l b1 26 (zq_p G b1 T)) H) (hS : va_S A s.heap H locs) (hl : lv_has ls 4 (zg_lv i b1 b0 b)) (kk : ∀ (S' : zs_S) (T' : zs_T) (H1 : Heap) (locs1 : List Loc), zl_R (N + 1) S' T' → va_P G.1 zw_cl (zw_l b0 176 (zp_p G b0 S')) H1 → va_P G.1 zw_cl (zw_l b1 26 (zq_p G b1 T')) H1 → va_S A s.heap H1 locs1 → W p l e R s m args below meth c H1 locs1 cells slots Q (F0 m 1066 ls [])) : W p l e R s m args below meth c H locs cells slots Q (F0 m 228 ls []) := by
  obtain ⟨r, S', T', hC, hT, h'⟩ := zf_init (lc := l) (G := G) (b0 := b0) (b1 := b1) h (xs (i + 1)) (xs (i + 2)) (zs_fl (xs (i + 3))) (zl_f01 _)
  refine lv_aload_n F.1 F.2.1 dd_Law_law_228 rfl (lv_at hl 2 rfl) ?_
  refine zg_arg (n := 1) F hX hbl hbA hS hl hL dd_Law_law_229 dd_Law_law_230 dd_Law_law_231 (by decide) dd_Law_law_232 dd_Law_law_233 (by omega) ?_
  refine zg_arg (n := 2) F hX hbl hbA hS hl hL dd_Law_law_234 dd_Law_law_235 dd_Law_law_236 (by decide) dd_Law_law_237 dd_Law_law_238 (by omega) ?_
  refine zg_flag (n := 3) F hX hbl hbA hS hl hL dd_Law_law_239 dd_Law_law_240 dd_Law_law_241 (by decide) dd_Law_law_242 dd_Law_law_243 dd_Law_law_244 dd_Law_law_247 dd_Law_law_248 dd_Law_law_251 (by omega) ?_
  refine zg_C F hE hP hP2 hC zk_TL_init za_TL_init zb_TL_init wl_Law_31 rfl (by decide) hR hcs hb (fun q z => hA q z.1) hS hl.1 rfl dd_Law_law_252 (fun H locs hP hP2 hS => ?_)
  refine lv_aload_n F.1 F.2.1 dd_Law_law_255 rfl (lv_at hl 1 rfl) ?_
  refine zg_arg (n := 1) F hX hbl hbA hS hl hL dd_Law_law_256 dd_Law_law_257 dd_Law_law_258 (by decide) dd_Law_law_259 dd_Law_law_260 (by omega) ?_
  refine zg_arg (n := 2) F hX hbl hbA hS hl hL dd_Law_law_261 dd_Law_law_262 dd_Law_law_263 (by decide) dd_Law_law_264 dd_Law_law_265 (by omega) ?_
  refine zg_flag (n := 3) F hX hbl hbA hS hl hL dd_Law_law_266 dd_Law_law_267 dd_Law_law_268 (by decide) dd_Law_law_269 dd_Law_law_270 dd_Law_law_271 dd_Law_law_274 dd_Law_law_275 dd_Law_law_278 (by omega) ?_
  refine zg_T F hE hP hP2 hT zk_Mo_init za_Mo_init zb_Mo_init wl_Law_35 rfl (by decide) hR hcs hb (fun q z => hA q (by have := z.1; omega)) hS hl.1 rfl dd_Law_law_279 (fun H locs hP hP2 hS => ?_)
  refine lv_icmp_eq F.1 F.2.1 dd_Law_law_282 (tgt := 1066) rfl (fun _ => ?_) (fun z => absurd rfl z)
  exact kk S' T' H locs h' hP hP2 hS
set_option maxHeartbeats 4000000 in
set_option maxRecDepth 100000 in
theorem zh_attempt {p : Program} {l : Launch} {e : Env} {R : Room} {s : State} {m : MethodId} {args : Array Value} {below : List Frame} {meth : Method} {c : Code} {H : Heap} {locs : List Loc} {cells slots : Nat} {Q : State → Prop} {ls : Array Slot} {A : Nat → Prop} {G : zw_G} {b b0 b1 L i N : Nat} {xs : Nat → Int32} {S : zs_S} {T : zs_T} (F : CallFix p m c code 4 s args zw_WS "TwinLedgersLaw") (hE : zw_E G s) (hX : va_X b L xs s s.heap) (hbl : b < s.heap.size) (hbA : ¬ A b) (hL : L < 2 ^ 31) (hR : 8 ≤ R.frames ∧ 207 ≤ R.locals) (hcs : cells ≤ R.cells ∧ slots ≤ R.slots) (hb : b1 = b0 + 176) (hA : ∀ q, b0 ≤ q → A q) (hi : i + 6 ≤ L) (hN : N < 512) (h : zl_R N S T) (hP : va_P G.1 zw_cl (zw_l b0 176 (zp_p G b0 S)) H) (hP2 : va_P G.1 zw_cl (zw_l b1 26 (zq_p G b1 T)) H) (hS : va_S A s.heap H locs) (hl : lv_has ls 4 (zg_lv i b1 b0 b)) (kk : ∀ (S' : zs_S) (T' : zs_T) (H1 : Heap) (locs1 : List Loc), zl_R (N + 1) S' T' → va_P G.1 zw_cl (zw_l b0 176 (zp_p G b0 S')) H1 → va_P G.1 zw_cl (zw_l b1 26 (zq_p G b1 T')) H1 → va_S A s.heap H1 locs1 → W p l e R s m args below meth c H1 locs1 cells slots Q (F0 m 1066 ls [])) : W p l e R s m args below meth c H locs cells slots Q (F0 m 287 ls []) := by
  obtain ⟨r, S', T', hC, hT, h'⟩ := zf_attempt (lc := l) (G := G) (b0 := b0) (b1 := b1) h (xs (i + 1)) (xs (i + 2)) (zs_fl (xs (i + 3))) (xs (i + 4)) (zl_f01 _)
  refine lv_aload_n F.1 F.2.1 dd_Law_law_287 rfl (lv_at hl 2 rfl) ?_
  refine zg_arg (n := 1) F hX hbl hbA hS hl hL dd_Law_law_288 dd_Law_law_289 dd_Law_law_290 (by decide) dd_Law_law_291 dd_Law_law_292 (by omega) ?_
  refine zg_arg (n := 2) F hX hbl hbA hS hl hL dd_Law_law_293 dd_Law_law_294 dd_Law_law_295 (by decide) dd_Law_law_296 dd_Law_law_297 (by omega) ?_
  refine zg_flag (n := 3) F hX hbl hbA hS hl hL dd_Law_law_298 dd_Law_law_299 dd_Law_law_300 (by decide) dd_Law_law_301 dd_Law_law_302 dd_Law_law_303 dd_Law_law_306 dd_Law_law_307 dd_Law_law_310 (by omega) ?_
  refine zg_arg (n := 4) F hX hbl hbA hS hl hL dd_Law_law_311 dd_Law_law_312 dd_Law_law_313 (by decide) dd_Law_law_314 dd_Law_law_315 (by omega) ?_
  refine zg_C F hE hP hP2 hC zk_TL_attempt za_TL_attempt zb_TL_attempt wl_Law_36 rfl (by decide) hR hcs hb (fun q z => hA q z.1) hS hl.1 rfl dd_Law_law_316 (fun H locs hP hP2 hS => ?_)
  refine lv_aload_n F.1 F.2.1 dd_Law_law_319 rfl (lv_at hl 1 rfl) ?_
  refine zg_arg (n := 1) F hX hbl hbA hS hl hL dd_Law_law_320 dd_Law_law_321 dd_Law_law_322 (by decide) dd_Law_law_323 dd_Law_law_324 (by omega) ?_
  refine zg_arg (n := 2) F hX hbl hbA hS hl hL dd_Law_law_325 dd_Law_law_326 dd_Law_law_327 (by decide) dd_Law_law_328 dd_Law_law_329 (by omega) ?_
  refine zg_flag (n := 3) F hX hbl hbA hS hl hL dd_Law_law_330 dd_Law_law_331 dd_Law_law_332 (by decide) dd_Law_law_333 dd_Law_law_334 dd_Law_law_335 dd_Law_law_338 dd_Law_law_339 dd_Law_law_342 (by omega) ?_
  refine zg_arg (n := 4) F hX hbl hbA hS hl hL dd_Law_law_343 dd_Law_law_344 dd_Law_law_345 (by decide) dd_Law_law_346 dd_Law_law_347 (by omega) ?_
  refine zg_T F hE hP hP2 hT zk_Mo_attempt za_Mo_attempt zb_Mo_attempt wl_Law_40 rfl (by decide) hR hcs hb (fun q z => hA q (by have := z.1; omega)) hS hl.1 rfl dd_Law_law_348 (fun H locs hP hP2 hS => ?_)
  refine lv_icmp_eq F.1 F.2.1 dd_Law_law_351 (tgt := 1066) rfl (fun _ => ?_) (fun z => absurd rfl z)
  exact kk S' T' H locs h' hP hP2 hS
set_option maxHeartbeats 4000000 in
set_option maxRecDepth 100000 in
theorem zh_open {p : Program} {l : Launch} {e : Env} {R : Room} {s : State} {m : MethodId} {args : Array Value} {below : List Frame} {meth : Method} {c : Code} {H : Heap} {locs : List Loc} {cells slots : Nat} {Q : State → Prop} {ls : Array Slot} {A : Nat → Prop} {G : zw_G} {b b0 b1 L i N : Nat} {xs : Nat → Int32} {S : zs_S} {T : zs_T} (F : CallFix p m c code 4 s args zw_WS "TwinLedgersLaw") (hE : zw_E G s) (hX : va_X b L xs s s.heap) (hbl : b < s.heap.size) (hbA : ¬ A b) (hL : L < 2 ^ 31) (hR : 8 ≤ R.frames ∧ 207 ≤ R.locals) (hcs : cells ≤ R.cells ∧ slots ≤ R.slots) (hb : b1 = b0 + 176) (hA : ∀ q, b0 ≤ q → A q) (hi : i + 6 ≤ L) (hN : N < 512) (h : zl_R N S T) (hP : va_P G.1 zw_cl (zw_l b0 176 (zp_p G b0 S)) H) (hP2 : va_P G.1 zw_cl (zw_l b1 26 (zq_p G b1 T)) H) (hS : va_S A s.heap H locs) (hl : lv_has ls 4 (zg_lv i b1 b0 b)) (kk : ∀ (S' : zs_S) (T' : zs_T) (H1 : Heap) (locs1 : List Loc), zl_R (N + 1) S' T' → va_P G.1 zw_cl (zw_l b0 176 (zp_p G b0 S')) H1 → va_P G.1 zw_cl (zw_l b1 26 (zq_p G b1 T')) H1 → va_S A s.heap H1 locs1 → W p l e R s m args below meth c H1 locs1 cells slots Q (F0 m 1066 ls [])) : W p l e R s m args below meth c H locs cells slots Q (F0 m 356 ls []) := by
  obtain ⟨r, S', T', hC, hT, h'⟩ := zf_open (lc := l) (G := G) (b0 := b0) (b1 := b1) h (xs (i + 1)) (xs (i + 2)) (xs (i + 3)) (xs (i + 4))
  refine lv_aload_n F.1 F.2.1 dd_Law_law_356 rfl (lv_at hl 2 rfl) ?_
  refine zg_arg (n := 1) F hX hbl hbA hS hl hL dd_Law_law_357 dd_Law_law_358 dd_Law_law_359 (by decide) dd_Law_law_360 dd_Law_law_361 (by omega) ?_
  refine zg_arg (n := 2) F hX hbl hbA hS hl hL dd_Law_law_362 dd_Law_law_363 dd_Law_law_364 (by decide) dd_Law_law_365 dd_Law_law_366 (by omega) ?_
  refine zg_arg (n := 3) F hX hbl hbA hS hl hL dd_Law_law_367 dd_Law_law_368 dd_Law_law_369 (by decide) dd_Law_law_370 dd_Law_law_371 (by omega) ?_
  refine zg_arg (n := 4) F hX hbl hbA hS hl hL dd_Law_law_372 dd_Law_law_373 dd_Law_law_374 (by decide) dd_Law_law_375 dd_Law_law_376 (by omega) ?_
  refine zg_C F hE hP hP2 hC zk_TL_open za_TL_open zb_TL_open wl_Law_41 rfl (by decide) hR hcs hb (fun q z => hA q z.1) hS hl.1 rfl dd_Law_law_377 (fun H locs hP hP2 hS => ?_)
  refine lv_aload_n F.1 F.2.1 dd_Law_law_380 rfl (lv_at hl 1 rfl) ?_
  refine zg_arg (n := 1) F hX hbl hbA hS hl hL dd_Law_law_381 dd_Law_law_382 dd_Law_law_383 (by decide) dd_Law_law_384 dd_Law_law_385 (by omega) ?_
  refine zg_arg (n := 2) F hX hbl hbA hS hl hL dd_Law_law_386 dd_Law_law_387 dd_Law_law_388 (by decide) dd_Law_law_389 dd_Law_law_390 (by omega) ?_
  refine zg_arg (n := 3) F hX hbl hbA hS hl hL dd_Law_law_391 dd_Law_law_392 dd_Law_law_393 (by decide) dd_Law_law_394 dd_Law_law_395 (by omega) ?_
  refine zg_arg (n := 4) F hX hbl hbA hS hl hL dd_Law_law_396 dd_Law_law_397 dd_Law_law_398 (by decide) dd_Law_law_399 dd_Law_law_400 (by omega) ?_
  refine zg_T F hE hP hP2 hT zk_Mo_open za_Mo_open zb_Mo_open wl_Law_45 rfl (by decide) hR hcs hb (fun q z => hA q (by have := z.1; omega)) hS hl.1 rfl dd_Law_law_401 (fun H locs hP hP2 hS => ?_)
  refine lv_icmp_eq F.1 F.2.1 dd_Law_law_404 (tgt := 1066) rfl (fun _ => ?_) (fun z => absurd rfl z)
  exact kk S' T' H locs h' hP hP2 hS
set_option maxHeartbeats 4000000 in
set_option maxRecDepth 100000 in
theorem zh_close {p : Program} {l : Launch} {e : Env} {R : Room} {s : State} {m : MethodId} {args : Array Value} {below : List Frame} {meth : Method} {c : Code} {H : Heap} {locs : List Loc} {cells slots : Nat} {Q : State → Prop} {ls : Array Slot} {A : Nat → Prop} {G : zw_G} {b b0 b1 L i N : Nat} {xs : Nat → Int32} {S : zs_S} {T : zs_T} (F : CallFix p m c code 4 s args zw_WS "TwinLedgersLaw") (hE : zw_E G s) (hX : va_X b L xs s s.heap) (hbl : b < s.heap.size) (hbA : ¬ A b) (hL : L < 2 ^ 31) (hR : 8 ≤ R.frames ∧ 207 ≤ R.locals) (hcs : cells ≤ R.cells ∧ slots ≤ R.slots) (hb : b1 = b0 + 176) (hA : ∀ q, b0 ≤ q → A q) (hi : i + 6 ≤ L) (hN : N < 512) (h : zl_R N S T) (hP : va_P G.1 zw_cl (zw_l b0 176 (zp_p G b0 S)) H) (hP2 : va_P G.1 zw_cl (zw_l b1 26 (zq_p G b1 T)) H) (hS : va_S A s.heap H locs) (hl : lv_has ls 4 (zg_lv i b1 b0 b)) (kk : ∀ (S' : zs_S) (T' : zs_T) (H1 : Heap) (locs1 : List Loc), zl_R (N + 1) S' T' → va_P G.1 zw_cl (zw_l b0 176 (zp_p G b0 S')) H1 → va_P G.1 zw_cl (zw_l b1 26 (zq_p G b1 T')) H1 → va_S A s.heap H1 locs1 → W p l e R s m args below meth c H1 locs1 cells slots Q (F0 m 1066 ls [])) : W p l e R s m args below meth c H locs cells slots Q (F0 m 409 ls []) := by
  obtain ⟨r, S', T', hC, hT, h'⟩ := zf_close (lc := l) (G := G) (b0 := b0) (b1 := b1) h (xs (i + 1)) (xs (i + 2))
  refine lv_aload_n F.1 F.2.1 dd_Law_law_409 rfl (lv_at hl 2 rfl) ?_
  refine zg_arg (n := 1) F hX hbl hbA hS hl hL dd_Law_law_410 dd_Law_law_411 dd_Law_law_412 (by decide) dd_Law_law_413 dd_Law_law_414 (by omega) ?_
  refine zg_arg (n := 2) F hX hbl hbA hS hl hL dd_Law_law_415 dd_Law_law_416 dd_Law_law_417 (by decide) dd_Law_law_418 dd_Law_law_419 (by omega) ?_
  refine zg_C F hE hP hP2 hC zk_TL_close za_TL_close zb_TL_close wl_Law_46 rfl (by decide) hR hcs hb (fun q z => hA q z.1) hS hl.1 rfl dd_Law_law_420 (fun H locs hP hP2 hS => ?_)
  refine lv_aload_n F.1 F.2.1 dd_Law_law_423 rfl (lv_at hl 1 rfl) ?_
  refine zg_arg (n := 1) F hX hbl hbA hS hl hL dd_Law_law_424 dd_Law_law_425 dd_Law_law_426 (by decide) dd_Law_law_427 dd_Law_law_428 (by omega) ?_
  refine zg_arg (n := 2) F hX hbl hbA hS hl hL dd_Law_law_429 dd_Law_law_430 dd_Law_law_431 (by decide) dd_Law_law_432 dd_Law_law_433 (by omega) ?_
  refine zg_T F hE hP hP2 hT zk_Mo_close za_Mo_close zb_Mo_close wl_Law_50 rfl (by decide) hR hcs hb (fun q z => hA q (by have := z.1; omega)) hS hl.1 rfl dd_Law_law_434 (fun H locs hP hP2 hS => ?_)
  refine lv_icmp_eq F.1 F.2.1 dd_Law_law_437 (tgt := 1066) rfl (fun _ => ?_) (fun z => absurd rfl z)
  exact kk S' T' H locs h' hP hP2 hS
set_option maxHeartbeats 4000000 in
set_option maxRecDepth 100000 in
theorem zh_send {p : Program} {l : Launch} {e : Env} {R : Room} {s : State} {m : MethodId} {args : Array Value} {below : List Frame} {meth : Method} {c : Code} {H : Heap} {locs : List Loc} {cells slots : Nat} {Q : State → Prop} {ls : Array Slot} {A : Nat → Prop} {G : zw_G} {b b0 b1 L i N : Nat} {xs : Nat → Int32} {S : zs_S} {T : zs_T} (F : CallFix p m c code 4 s args zw_WS "TwinLedgersLaw") (hE : zw_E G s) (hX : va_X b L xs s s.heap) (hbl : b < s.heap.size) (hbA : ¬ A b) (hL : L < 2 ^ 31) (hR : 8 ≤ R.frames ∧ 207 ≤ R.locals) (hcs : cells ≤ R.cells ∧ slots ≤ R.slots) (hb : b1 = b0 + 176) (hA : ∀ q, b0 ≤ q → A q) (hi : i + 6 ≤ L) (hN : N < 512) (h : zl_R N S T) (hP : va_P G.1 zw_cl (zw_l b0 176 (zp_p G b0 S)) H) (hP2 : va_P G.1 zw_cl (zw_l b1 26 (zq_p G b1 T)) H) (hS : va_S A s.heap H locs) (hl : lv_has ls 4 (zg_lv i b1 b0 b)) (kk : ∀ (S' : zs_S) (T' : zs_T) (H1 : Heap) (locs1 : List Loc), zl_R (N + 1) S' T' → va_P G.1 zw_cl (zw_l b0 176 (zp_p G b0 S')) H1 → va_P G.1 zw_cl (zw_l b1 26 (zq_p G b1 T')) H1 → va_S A s.heap H1 locs1 → W p l e R s m args below meth c H1 locs1 cells slots Q (F0 m 1066 ls [])) : W p l e R s m args below meth c H locs cells slots Q (F0 m 442 ls []) := by
  obtain ⟨r, S', T', hC, hT, h'⟩ := zf_send (lc := l) (G := G) (b0 := b0) (b1 := b1) h (xs (i + 1)) (xs (i + 2)) (xs (i + 3)) (xs (i + 4)) (xs (i + 5))
  refine lv_aload_n F.1 F.2.1 dd_Law_law_442 rfl (lv_at hl 2 rfl) ?_
  refine zg_arg (n := 1) F hX hbl hbA hS hl hL dd_Law_law_443 dd_Law_law_444 dd_Law_law_445 (by decide) dd_Law_law_446 dd_Law_law_447 (by omega) ?_
  refine zg_arg (n := 2) F hX hbl hbA hS hl hL dd_Law_law_448 dd_Law_law_449 dd_Law_law_450 (by decide) dd_Law_law_451 dd_Law_law_452 (by omega) ?_
  refine zg_arg (n := 3) F hX hbl hbA hS hl hL dd_Law_law_453 dd_Law_law_454 dd_Law_law_455 (by decide) dd_Law_law_456 dd_Law_law_457 (by omega) ?_
  refine zg_arg (n := 4) F hX hbl hbA hS hl hL dd_Law_law_458 dd_Law_law_459 dd_Law_law_460 (by decide) dd_Law_law_461 dd_Law_law_462 (by omega) ?_
  refine zg_arg (n := 5) F hX hbl hbA hS hl hL dd_Law_law_463 dd_Law_law_464 dd_Law_law_465 (by decide) dd_Law_law_466 dd_Law_law_467 (by omega) ?_
  refine zg_C F hE hP hP2 hC zk_TL_send za_TL_send zb_TL_send wl_Law_51 rfl (by decide) hR hcs hb (fun q z => hA q z.1) hS hl.1 rfl dd_Law_law_468 (fun H locs hP hP2 hS => ?_)
  refine lv_aload_n F.1 F.2.1 dd_Law_law_471 rfl (lv_at hl 1 rfl) ?_
  refine zg_arg (n := 1) F hX hbl hbA hS hl hL dd_Law_law_472 dd_Law_law_473 dd_Law_law_474 (by decide) dd_Law_law_475 dd_Law_law_476 (by omega) ?_
  refine zg_arg (n := 2) F hX hbl hbA hS hl hL dd_Law_law_477 dd_Law_law_478 dd_Law_law_479 (by decide) dd_Law_law_480 dd_Law_law_481 (by omega) ?_
  refine zg_arg (n := 3) F hX hbl hbA hS hl hL dd_Law_law_482 dd_Law_law_483 dd_Law_law_484 (by decide) dd_Law_law_485 dd_Law_law_486 (by omega) ?_
  refine zg_arg (n := 4) F hX hbl hbA hS hl hL dd_Law_law_487 dd_Law_law_488 dd_Law_law_489 (by decide) dd_Law_law_490 dd_Law_law_491 (by omega) ?_
  refine zg_arg (n := 5) F hX hbl hbA hS hl hL dd_Law_law_492 dd_Law_law_493 dd_Law_law_494 (by decide) dd_Law_law_495 dd_Law_law_496 (by omega) ?_
  refine zg_T F hE hP hP2 hT zk_Mo_send za_Mo_send zb_Mo_send wl_Law_55 rfl (by decide) hR hcs hb (fun q z => hA q (by have := z.1; omega)) hS hl.1 rfl dd_Law_law_497 (fun H locs hP hP2 hS => ?_)
  refine lv_icmp_eq F.1 F.2.1 dd_Law_law_500 (tgt := 1066) rfl (fun _ => ?_) (fun z => absurd rfl z)
  exact kk S' T' H locs h' hP hP2 hS
