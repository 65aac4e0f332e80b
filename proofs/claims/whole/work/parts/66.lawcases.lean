section LawCases
variable {p : Program} {l : Launch} {e : Env} {s : State} {m : MethodId} {below : List Frame} {meth : Method} {c : Code} {H : Heap} {locs : List Loc} {Z : State → Prop}
variable {b L i : Nat} {xs : Nat → Int32} {D : va_G} {cI cB : ClassId} {pc : Nat} {ls : Array Slot} {rest : List Value} {Q : Nat → Nat → Nat} {q : Nat → Nat} {X : Nat → St} {M : St}
set_option maxHeartbeats 4000000 in
set_option maxRecDepth 100000 in
theorem cs_write (F : LF p m c s b L xs D cI cB) (hl : lv_has ls 4 (LL b Q q i)) (hi : i + 5 ≤ L) (hv : Inv X M) (B : LB s D cI cB Q X q M H locs) (back : LK p l e s m below meth c b D cI cB Q q ls Z) : W p l e room_1 s m #[Value.ref b] below meth c H locs 42 1166 Z (F0 m 152 ls []) := by
  refine r_aln F.1 hl 1 rfl dL_law_152 rfl ?_
  refine r_arg 1 F B hl hi (by decide) rfl dL_law_153 dL_law_154 dL_law_155 dL_law_156 dL_law_157 ?_
  refine r_arg 2 F B hl hi (by decide) rfl dL_law_158 dL_law_159 dL_law_160 dL_law_161 dL_law_162 ?_
  refine lv_i2l F.1.1.1 F.1.1.2.1 dL_law_163 rfl ?_
  refine r_bp F.1 32 dL_law_164 rfl ?_
  refine lv_lshl F.1.1.1 F.1.1.2.1 dL_law_166 rfl ?_
  refine r_arg 3 F B hl hi (by decide) rfl dL_law_167 dL_law_168 dL_law_169 dL_law_170 dL_law_171 ?_
  refine lv_i2l F.1.1.1 F.1.1.2.1 dL_law_172 rfl ?_
  refine r_ldc2 4294967295 F.1 kL_L_13 dL_law_173 ?_
  refine lv_land F.1.1.1 F.1.1.2.1 dL_law_176 ?_
  refine lv_lor F.1.1.1 F.1.1.2.1 dL_law_177 ?_
  refine r_lx F B (k_X3_write l D cI cB Q X ((xs (i + 1)).toInt) (((iI (xs (i + 2)).toInt).toInt64 <<< ((iI ((32 : Nat) : Int)).toInt64 &&& 63)) ||| ((iI (xs (i + 3)).toInt).toInt64 &&& 4294967295)) (i32r _) hv.gl hv.gb) gw_L_15 ⟨⟨rfl, rfl⟩, Nat.le_of_ble_eq_true rfl, Nat.le_of_ble_eq_true rfl⟩ hl.1 rfl rfl dL_law_178 (fun H locs B => ?_)
  refine r_aln F.1 hl 2 rfl dL_law_181 rfl ?_
  refine r_arg 1 F B hl hi (by decide) rfl dL_law_182 dL_law_183 dL_law_184 dL_law_185 dL_law_186 ?_
  refine r_arg 2 F B hl hi (by decide) rfl dL_law_187 dL_law_188 dL_law_189 dL_law_190 dL_law_191 ?_
  refine lv_i2l F.1.1.1 F.1.1.2.1 dL_law_192 rfl ?_
  refine r_bp F.1 32 dL_law_193 rfl ?_
  refine lv_lshl F.1.1.1 F.1.1.2.1 dL_law_195 rfl ?_
  refine r_arg 3 F B hl hi (by decide) rfl dL_law_196 dL_law_197 dL_law_198 dL_law_199 dL_law_200 ?_
  refine lv_i2l F.1.1.1 F.1.1.2.1 dL_law_201 rfl ?_
  refine r_ldc2 4294967295 F.1 kL_L_13 dL_law_202 ?_
  refine lv_land F.1.1.1 F.1.1.2.1 dL_law_205 ?_
  refine lv_lor F.1.1.1 F.1.1.2.1 dL_law_206 ?_
  refine r_lm F B (k_X4_write l D cI cB q M ((xs (i + 1)).toInt) (((iI (xs (i + 2)).toInt).toInt64 <<< ((iI ((32 : Nat) : Int)).toInt64 &&& 63)) ||| ((iI (xs (i + 3)).toInt).toInt64 &&& 4294967295)) (i32r _) hv.ml hv.mt) gw_L_19 ⟨⟨rfl, rfl⟩, Nat.le_of_ble_eq_true rfl, Nat.le_of_ble_eq_true rfl⟩ hl.1 rfl rfl dL_law_207 (fun H locs B => ?_)
  refine r_leq F dL_law_210 rfl (congrArg iI (inv_write hv _ _).1) ?_
  exact back _ _ _ _ _ rfl (inv_write hv _ _).2 B
set_option maxHeartbeats 4000000 in
set_option maxRecDepth 100000 in
theorem cs_wipe (F : LF p m c s b L xs D cI cB) (hl : lv_has ls 4 (LL b Q q i)) (hi : i + 5 ≤ L) (hv : Inv X M) (B : LB s D cI cB Q X q M H locs) (back : LK p l e s m below meth c b D cI cB Q q ls Z) : W p l e room_1 s m #[Value.ref b] below meth c H locs 42 1166 Z (F0 m 215 ls []) := by
  refine r_aln F.1 hl 1 rfl dL_law_215 rfl ?_
  refine r_lx F B (k_X3_wipe l D cI cB Q X) gw_L_20 ⟨⟨rfl, rfl⟩, Nat.le_of_ble_eq_true rfl, Nat.le_of_ble_eq_true rfl⟩ hl.1 rfl rfl dL_law_216 (fun H locs B => ?_)
  refine r_aln F.1 hl 2 rfl dL_law_219 rfl ?_
  refine r_lm F B (k_X4_wipe l D cI cB q M) gw_L_24 ⟨⟨rfl, rfl⟩, Nat.le_of_ble_eq_true rfl, Nat.le_of_ble_eq_true rfl⟩ hl.1 rfl rfl dL_law_220 (fun H locs B => ?_)
  refine r_leq F dL_law_223 rfl (congrArg (fun n : Nat => iI (n : Int)) (inv_wipe hv).1) ?_
  exact back _ _ _ _ _ rfl (inv_wipe hv).2 B
set_option maxHeartbeats 4000000 in
set_option maxRecDepth 100000 in
theorem cs_fault (F : LF p m c s b L xs D cI cB) (hl : lv_has ls 4 (LL b Q q i)) (hi : i + 5 ≤ L) (hv : Inv X M) (B : LB s D cI cB Q X q M H locs) (back : LK p l e s m below meth c b D cI cB Q q ls Z) : W p l e room_1 s m #[Value.ref b] below meth c H locs 42 1166 Z (F0 m 228 ls []) := by
  refine r_aln F.1 hl 1 rfl dL_law_228 rfl ?_
  refine r_lx F B (k_X3_fault l D cI cB Q X hv.gl hv.gb hv.gn hv.Td) gw_L_25 ⟨⟨rfl, rfl⟩, Nat.le_of_ble_eq_true rfl, Nat.le_of_ble_eq_true rfl⟩ hl.1 rfl rfl dL_law_229 (fun H locs B => ?_)
  refine r_aln F.1 hl 2 rfl dL_law_232 rfl ?_
  refine r_lm F B (k_X4_fault l D cI cB q M hv.ml hv.mt hv.m13 hv.m3) gw_L_28 ⟨⟨rfl, rfl⟩, Nat.le_of_ble_eq_true rfl, Nat.le_of_ble_eq_true rfl⟩ hl.1 rfl rfl dL_law_233 (fun H locs B => ?_)
  refine r_leq F dL_law_236 rfl (congrArg iI (inv_fault hv).1) ?_
  exact back _ _ _ _ _ rfl (inv_fault hv).2 B
set_option maxHeartbeats 4000000 in
set_option maxRecDepth 100000 in
theorem cs_lay (F : LF p m c s b L xs D cI cB) (hl : lv_has ls 4 (LL b Q q i)) (hi : i + 5 ≤ L) (hv : Inv X M) (B : LB s D cI cB Q X q M H locs) (back : LK p l e s m below meth c b D cI cB Q q ls Z) : W p l e room_1 s m #[Value.ref b] below meth c H locs 42 1166 Z (F0 m 241 ls []) := by
  refine r_aln F.1 hl 1 rfl dL_law_241 rfl ?_
  refine r_lx F B (k_X3_lay l D cI cB Q X hv.gl hv.gb hv.gn hv.Td hv.s4.1 hv.s4.2.1 hv.s4.2.2) gw_L_29 ⟨⟨rfl, rfl⟩, Nat.le_of_ble_eq_true rfl, Nat.le_of_ble_eq_true rfl⟩ hl.1 rfl rfl dL_law_242 (fun H locs B => ?_)
  refine r_aln F.1 hl 2 rfl dL_law_245 rfl ?_
  refine r_lm F B (k_X4_lay l D cI cB q M hv.ml hv.mt hv.m13 hv.m3 hv.bk2 hv.m4) gw_L_32 ⟨⟨rfl, rfl⟩, Nat.le_of_ble_eq_true rfl, Nat.le_of_ble_eq_true rfl⟩ hl.1 rfl rfl dL_law_246 (fun H locs B => ?_)
  refine r_leq F dL_law_249 rfl (congrArg iI (inv_lay hv).1) ?_
  exact back _ _ _ _ _ layQ_0 (inv_lay hv).2 B
set_option maxHeartbeats 4000000 in
set_option maxRecDepth 100000 in
theorem cs_half (F : LF p m c s b L xs D cI cB) (hl : lv_has ls 4 (LL b Q q i)) (hi : i + 5 ≤ L) (hv : Inv X M) (B : LB s D cI cB Q X q M H locs) (back : LK p l e s m below meth c b D cI cB Q q ls Z) : W p l e room_1 s m #[Value.ref b] below meth c H locs 42 1166 Z (F0 m 254 ls []) := by
  refine r_aln F.1 hl 1 rfl dL_law_254 rfl ?_
  refine r_arg 1 F B hl hi (by decide) rfl dL_law_255 dL_law_256 dL_law_257 dL_law_258 dL_law_259 ?_
  refine r_arg 2 F B hl hi (by decide) rfl dL_law_260 dL_law_261 dL_law_262 dL_law_263 dL_law_264 ?_
  refine r_arg 3 F B hl hi (by decide) rfl dL_law_265 dL_law_266 dL_law_267 dL_law_268 dL_law_269 ?_
  refine r_lxq F B (k_X3_half l D cI cB Q X ((xs (i + 1)).toInt) ((xs (i + 2)).toInt) ((xs (i + 3)).toInt) (i32r _) (i32r _) (i32r _) hv.T hv.p hv.s4.1 hv.s4.2.1 hv.s4.2.2) gw_L_33 ⟨⟨rfl, rfl⟩, Nat.le_of_ble_eq_true rfl, Nat.le_of_ble_eq_true rfl⟩ hl.1 rfl rfl dL_law_270 ?_
  refine r_aln F.1 hl 2 rfl dL_law_273 rfl ?_
  refine r_arg 1 F B hl hi (by decide) rfl dL_law_274 dL_law_275 dL_law_276 dL_law_277 dL_law_278 ?_
  refine r_arg 2 F B hl hi (by decide) rfl dL_law_279 dL_law_280 dL_law_281 dL_law_282 dL_law_283 ?_
  refine r_arg 3 F B hl hi (by decide) rfl dL_law_284 dL_law_285 dL_law_286 dL_law_287 dL_law_288 ?_
  refine r_lmq F B (k_X4_half l D cI cB q M ((xs (i + 1)).toInt) ((xs (i + 2)).toInt) ((xs (i + 3)).toInt) (i32r _) (i32r _) (i32r _) hv.hp hv.bk2 hv.m4) gw_L_37 ⟨⟨rfl, rfl⟩, Nat.le_of_ble_eq_true rfl, Nat.le_of_ble_eq_true rfl⟩ hl.1 rfl rfl dL_law_289 ?_
  refine r_leq F dL_law_292 rfl (congrArg iI (half_rel hv.rt hv.p5 hv.rx _ _ _)) ?_
  exact back _ _ _ _ _ rfl hv B
set_option maxHeartbeats 4000000 in
set_option maxRecDepth 100000 in
theorem cs_see (F : LF p m c s b L xs D cI cB) (hl : lv_has ls 4 (LL b Q q i)) (hi : i + 5 ≤ L) (hv : Inv X M) (B : LB s D cI cB Q X q M H locs) (back : LK p l e s m below meth c b D cI cB Q q ls Z) : W p l e room_1 s m #[Value.ref b] below meth c H locs 42 1166 Z (F0 m 297 ls []) := by
  refine r_aln F.1 hl 1 rfl dL_law_297 rfl ?_
  refine r_arg 1 F B hl hi (by decide) rfl dL_law_298 dL_law_299 dL_law_300 dL_law_301 dL_law_302 ?_
  refine r_arg 2 F B hl hi (by decide) rfl dL_law_303 dL_law_304 dL_law_305 dL_law_306 dL_law_307 ?_
  refine r_lx F B (k_X3_see l D cI cB Q X ((xs (i + 1)).toInt) ((xs (i + 2)).toInt) (i32r _) (i32r _) hv.T hv.p hv.s4.1 hv.s4.2.1 hv.s4.2.2) gw_L_38 ⟨⟨rfl, rfl⟩, Nat.le_of_ble_eq_true rfl, Nat.le_of_ble_eq_true rfl⟩ hl.1 rfl rfl dL_law_308 (fun H locs B => ?_)
  refine r_aln F.1 hl 2 rfl dL_law_311 rfl ?_
  refine r_arg 1 F B hl hi (by decide) rfl dL_law_312 dL_law_313 dL_law_314 dL_law_315 dL_law_316 ?_
  refine r_arg 2 F B hl hi (by decide) rfl dL_law_317 dL_law_318 dL_law_319 dL_law_320 dL_law_321 ?_
  refine r_lm F B (k_X4_see l D cI cB q M ((xs (i + 1)).toInt) ((xs (i + 2)).toInt) (i32r _) (i32r _) hv.hp hv.bk2 hv.m4) gw_L_42 ⟨⟨rfl, rfl⟩, Nat.le_of_ble_eq_true rfl, Nat.le_of_ble_eq_true rfl⟩ hl.1 rfl rfl dL_law_322 (fun H locs B => ?_)
  refine r_leq F dL_law_325 rfl (congrArg iI (inv_see hv _ _).1) ?_
  exact back _ _ _ _ _ rfl (inv_see hv _ _).2 B
set_option maxHeartbeats 4000000 in
set_option maxRecDepth 100000 in
theorem cs_note (F : LF p m c s b L xs D cI cB) (hl : lv_has ls 4 (LL b Q q i)) (hi : i + 5 ≤ L) (hv : Inv X M) (B : LB s D cI cB Q X q M H locs) (back : LK p l e s m below meth c b D cI cB Q q ls Z) : W p l e room_1 s m #[Value.ref b] below meth c H locs 42 1166 Z (F0 m 330 ls []) := by
  refine r_aln F.1 hl 1 rfl dL_law_330 rfl ?_
  refine r_arg 1 F B hl hi (by decide) rfl dL_law_331 dL_law_332 dL_law_333 dL_law_334 dL_law_335 ?_
  refine r_arg 2 F B hl hi (by decide) rfl dL_law_336 dL_law_337 dL_law_338 dL_law_339 dL_law_340 ?_
  refine r_lx F B (k_X3_note l D cI cB Q X ((xs (i + 1)).toInt) ((xs (i + 2)).toInt) (i32r _) (i32r _) hv.T hv.p hv.s4.1 hv.s4.2.1 hv.s4.2.2) gw_L_43 ⟨⟨rfl, rfl⟩, Nat.le_of_ble_eq_true rfl, Nat.le_of_ble_eq_true rfl⟩ hl.1 rfl rfl dL_law_341 (fun H locs B => ?_)
  refine r_aln F.1 hl 2 rfl dL_law_344 rfl ?_
  refine r_arg 1 F B hl hi (by decide) rfl dL_law_345 dL_law_346 dL_law_347 dL_law_348 dL_law_349 ?_
  refine r_arg 2 F B hl hi (by decide) rfl dL_law_350 dL_law_351 dL_law_352 dL_law_353 dL_law_354 ?_
  refine r_lm F B (k_X4_note l D cI cB q M ((xs (i + 1)).toInt) ((xs (i + 2)).toInt) (i32r _) (i32r _) hv.hp hv.bk2 hv.m4) gw_L_46 ⟨⟨rfl, rfl⟩, Nat.le_of_ble_eq_true rfl, Nat.le_of_ble_eq_true rfl⟩ hl.1 rfl rfl dL_law_355 (fun H locs B => ?_)
  refine r_leq F dL_law_358 rfl (congrArg iI (inv_note hv _ _).1) ?_
  exact back _ _ _ _ _ rfl (inv_note hv _ _).2 B
set_option maxHeartbeats 4000000 in
set_option maxRecDepth 100000 in
theorem cs_deed (F : LF p m c s b L xs D cI cB) (hl : lv_has ls 4 (LL b Q q i)) (hi : i + 5 ≤ L) (hv : Inv X M) (B : LB s D cI cB Q X q M H locs) (back : LK p l e s m below meth c b D cI cB Q q ls Z) : W p l e room_1 s m #[Value.ref b] below meth c H locs 42 1166 Z (F0 m 363 ls []) := by
  refine r_aln F.1 hl 1 rfl dL_law_363 rfl ?_
  refine r_arg 1 F B hl hi (by decide) rfl dL_law_364 dL_law_365 dL_law_366 dL_law_367 dL_law_368 ?_
  refine r_arg 2 F B hl hi (by decide) rfl dL_law_369 dL_law_370 dL_law_371 dL_law_372 dL_law_373 ?_
  refine r_lxq F B (k_X3_deed l D cI cB Q X ((xs (i + 1)).toInt) ((xs (i + 2)).toInt) (i32r _) (i32r _) hv.T hv.p hv.s4.1 hv.s4.2.1 hv.s4.2.2) gw_L_47 ⟨⟨rfl, rfl⟩, Nat.le_of_ble_eq_true rfl, Nat.le_of_ble_eq_true rfl⟩ hl.1 rfl rfl dL_law_374 ?_
  refine r_aln F.1 hl 2 rfl dL_law_377 rfl ?_
  refine r_arg 1 F B hl hi (by decide) rfl dL_law_378 dL_law_379 dL_law_380 dL_law_381 dL_law_382 ?_
  refine r_arg 2 F B hl hi (by decide) rfl dL_law_383 dL_law_384 dL_law_385 dL_law_386 dL_law_387 ?_
  refine r_lmq F B (k_X4_deed l D cI cB q M ((xs (i + 1)).toInt) ((xs (i + 2)).toInt) (i32r _) (i32r _) hv.hp hv.bk2 hv.m4) gw_L_50 ⟨⟨rfl, rfl⟩, Nat.le_of_ble_eq_true rfl, Nat.le_of_ble_eq_true rfl⟩ hl.1 rfl rfl dL_law_388 ?_
  refine r_leq F dL_law_391 rfl (congrArg iI (deed_rel hv.rt hv.rx _ _)) ?_
  exact back _ _ _ _ _ rfl hv B
set_option maxHeartbeats 4000000 in
set_option maxRecDepth 100000 in
theorem cs_shifts (F : LF p m c s b L xs D cI cB) (hl : lv_has ls 4 (LL b Q q i)) (hi : i + 5 ≤ L) (hv : Inv X M) (B : LB s D cI cB Q X q M H locs) (back : LK p l e s m below meth c b D cI cB Q q ls Z) : W p l e room_1 s m #[Value.ref b] below meth c H locs 42 1166 Z (F0 m 396 ls []) := by
  refine r_aln F.1 hl 1 rfl dL_law_396 rfl ?_
  refine r_arg 1 F B hl hi (by decide) rfl dL_law_397 dL_law_398 dL_law_399 dL_law_400 dL_law_401 ?_
  refine r_lx F B (k_X3_shifts l D cI cB Q X ((xs (i + 1)).toInt) (i32r _) hv.T hv.p hv.s4.1 hv.s4.2.1 hv.s4.2.2) gw_L_51 ⟨⟨rfl, rfl⟩, Nat.le_of_ble_eq_true rfl, Nat.le_of_ble_eq_true rfl⟩ hl.1 rfl rfl dL_law_402 (fun H locs B => ?_)
  refine r_aln F.1 hl 2 rfl dL_law_405 rfl ?_
  refine r_arg 1 F B hl hi (by decide) rfl dL_law_406 dL_law_407 dL_law_408 dL_law_409 dL_law_410 ?_
  refine r_lm F B (k_X4_shifts l D cI cB q M ((xs (i + 1)).toInt) (i32r _) hv.hp hv.bk2 hv.m4 hv.s40 hv.m5) gw_L_55 ⟨⟨rfl, rfl⟩, Nat.le_of_ble_eq_true rfl, Nat.le_of_ble_eq_true rfl⟩ hl.1 rfl rfl dL_law_411 (fun H locs B => ?_)
  refine r_leq F dL_law_414 rfl (congrArg iI (inv_shifts hv _).1) ?_
  exact back _ _ _ _ _ rfl (inv_shifts hv _).2 B
set_option maxHeartbeats 4000000 in
set_option maxRecDepth 100000 in
theorem cs_done (F : LF p m c s b L xs D cI cB) (hl : lv_has ls 4 (LL b Q q i)) (hi : i + 5 ≤ L) (hv : Inv X M) (B : LB s D cI cB Q X q M H locs) (back : LK p l e s m below meth c b D cI cB Q q ls Z) : W p l e room_1 s m #[Value.ref b] below meth c H locs 42 1166 Z (F0 m 419 ls []) := by
  refine r_aln F.1 hl 1 rfl dL_law_419 rfl ?_
  refine r_arg 1 F B hl hi (by decide) rfl dL_law_420 dL_law_421 dL_law_422 dL_law_423 dL_law_424 ?_
  refine r_arg 2 F B hl hi (by decide) rfl dL_law_425 dL_law_426 dL_law_427 dL_law_428 dL_law_429 ?_
  refine r_lxq F B (k_X3_done l D cI cB Q X ((xs (i + 1)).toInt) ((xs (i + 2)).toInt) (i32r _) (i32r _) hv.T hv.p hv.s4.1 hv.s4.2.1 hv.s4.2.2) gw_L_56 ⟨⟨rfl, rfl⟩, Nat.le_of_ble_eq_true rfl, Nat.le_of_ble_eq_true rfl⟩ hl.1 rfl rfl dL_law_430 ?_
  refine r_aln F.1 hl 2 rfl dL_law_433 rfl ?_
  refine r_arg 1 F B hl hi (by decide) rfl dL_law_434 dL_law_435 dL_law_436 dL_law_437 dL_law_438 ?_
  refine r_arg 2 F B hl hi (by decide) rfl dL_law_439 dL_law_440 dL_law_441 dL_law_442 dL_law_443 ?_
  refine r_lmq F B (k_X4_done l D cI cB q M ((xs (i + 1)).toInt) ((xs (i + 2)).toInt) (i32r _) (i32r _) hv.hp hv.ht hv.bk2 hv.hst hv.hln hv.m4) gw_L_59 ⟨⟨rfl, rfl⟩, Nat.le_of_ble_eq_true rfl, Nat.le_of_ble_eq_true rfl⟩ hl.1 rfl rfl dL_law_444 ?_
  refine r_leq F dL_law_447 rfl (congrArg iI (c_done_rel hv.rt hv.rx.1 _ _)) ?_
  exact back _ _ _ _ _ rfl hv B
set_option maxHeartbeats 4000000 in
set_option maxRecDepth 100000 in
theorem cs_handed (F : LF p m c s b L xs D cI cB) (hl : lv_has ls 4 (LL b Q q i)) (hi : i + 5 ≤ L) (hv : Inv X M) (B : LB s D cI cB Q X q M H locs) (back : LK p l e s m below meth c b D cI cB Q q ls Z) : W p l e room_1 s m #[Value.ref b] below meth c H locs 42 1166 Z (F0 m 452 ls []) := by
  refine r_aln F.1 hl 1 rfl dL_law_452 rfl ?_
  refine r_arg 1 F B hl hi (by decide) rfl dL_law_453 dL_law_454 dL_law_455 dL_law_456 dL_law_457 ?_
  refine r_arg 2 F B hl hi (by decide) rfl dL_law_458 dL_law_459 dL_law_460 dL_law_461 dL_law_462 ?_
  refine r_lxq F B (k_X3_handed l D cI cB Q X ((xs (i + 1)).toInt) ((xs (i + 2)).toInt) (i32r _) (i32r _) hv.T hv.p) gw_L_60 ⟨⟨rfl, rfl⟩, Nat.le_of_ble_eq_true rfl, Nat.le_of_ble_eq_true rfl⟩ hl.1 rfl rfl dL_law_463 ?_
  refine r_aln F.1 hl 2 rfl dL_law_466 rfl ?_
  refine r_arg 1 F B hl hi (by decide) rfl dL_law_467 dL_law_468 dL_law_469 dL_law_470 dL_law_471 ?_
  refine r_arg 2 F B hl hi (by decide) rfl dL_law_472 dL_law_473 dL_law_474 dL_law_475 dL_law_476 ?_
  refine r_lmq F B (k_X4_handed l D cI cB q M ((xs (i + 1)).toInt) ((xs (i + 2)).toInt) (i32r _) (i32r _) hv.hp hv.ht hv.bk2 hv.hst hv.hln) gw_L_63 ⟨⟨rfl, rfl⟩, Nat.le_of_ble_eq_true rfl, Nat.le_of_ble_eq_true rfl⟩ hl.1 rfl rfl dL_law_477 ?_
  refine r_leq F dL_law_480 rfl (congrArg iI (c_handed_rel hv.rt _ _)) ?_
  exact back _ _ _ _ _ rfl hv B
set_option maxHeartbeats 4000000 in
set_option maxRecDepth 100000 in
theorem cs_best (F : LF p m c s b L xs D cI cB) (hl : lv_has ls 4 (LL b Q q i)) (hi : i + 5 ≤ L) (hv : Inv X M) (B : LB s D cI cB Q X q M H locs) (back : LK p l e s m below meth c b D cI cB Q q ls Z) : W p l e room_1 s m #[Value.ref b] below meth c H locs 42 1166 Z (F0 m 485 ls []) := by
  refine r_aln F.1 hl 1 rfl dL_law_485 rfl ?_
  refine r_arg 1 F B hl hi (by decide) rfl dL_law_486 dL_law_487 dL_law_488 dL_law_489 dL_law_490 ?_
  refine r_lxq F B (k_X3_best l D cI cB Q X ((xs (i + 1)).toInt) (i32r _) hv.T hv.p hv.s4.1 hv.s4.2.1 hv.s4.2.2) gw_L_64 ⟨⟨rfl, rfl⟩, Nat.le_of_ble_eq_true rfl, Nat.le_of_ble_eq_true rfl⟩ hl.1 rfl rfl dL_law_491 ?_
  refine r_aln F.1 hl 2 rfl dL_law_494 rfl ?_
  refine r_arg 1 F B hl hi (by decide) rfl dL_law_495 dL_law_496 dL_law_497 dL_law_498 dL_law_499 ?_
  refine r_lmq F B (k_X4_best l D cI cB q M ((xs (i + 1)).toInt) (i32r _) hv.hp hv.ht hv.bk2 hv.hst hv.hln hv.m4) gw_L_67 ⟨⟨rfl, rfl⟩, Nat.le_of_ble_eq_true rfl, Nat.le_of_ble_eq_true rfl⟩ hl.1 rfl rfl dL_law_500 ?_
  refine r_leq F dL_law_503 rfl (congrArg iI (best_rel hv.rt hv.rx.1 _)) ?_
  exact back _ _ _ _ _ rfl hv B
set_option maxHeartbeats 4000000 in
set_option maxRecDepth 100000 in
theorem cs_knows (F : LF p m c s b L xs D cI cB) (hl : lv_has ls 4 (LL b Q q i)) (hi : i + 5 ≤ L) (hv : Inv X M) (B : LB s D cI cB Q X q M H locs) (back : LK p l e s m below meth c b D cI cB Q q ls Z) : W p l e room_1 s m #[Value.ref b] below meth c H locs 42 1166 Z (F0 m 508 ls []) := by
  refine r_aln F.1 hl 1 rfl dL_law_508 rfl ?_
  refine r_arg 1 F B hl hi (by decide) rfl dL_law_509 dL_law_510 dL_law_511 dL_law_512 dL_law_513 ?_
  refine r_arg 2 F B hl hi (by decide) rfl dL_law_514 dL_law_515 dL_law_516 dL_law_517 dL_law_518 ?_
  refine r_arg 3 F B hl hi (by decide) rfl dL_law_519 dL_law_520 dL_law_521 dL_law_522 dL_law_523 ?_
  refine r_lx F B (k_X3_knows l D cI cB Q X ((xs (i + 1)).toInt) ((xs (i + 2)).toInt) ((xs (i + 3)).toInt) (i32r _) (i32r _) (i32r _) hv.T hv.p hv.s4.1 hv.s4.2.1 hv.s4.2.2 hv.s5.1 hv.s5.2) gw_L_68 ⟨⟨rfl, rfl⟩, Nat.le_of_ble_eq_true rfl, Nat.le_of_ble_eq_true rfl⟩ hl.1 rfl rfl dL_law_524 (fun H locs B => ?_)
  refine r_aln F.1 hl 2 rfl dL_law_527 rfl ?_
  refine r_arg 1 F B hl hi (by decide) rfl dL_law_528 dL_law_529 dL_law_530 dL_law_531 dL_law_532 ?_
  refine r_arg 2 F B hl hi (by decide) rfl dL_law_533 dL_law_534 dL_law_535 dL_law_536 dL_law_537 ?_
  refine r_arg 3 F B hl hi (by decide) rfl dL_law_538 dL_law_539 dL_law_540 dL_law_541 dL_law_542 ?_
  refine r_lm F B (k_X4_knows l D cI cB q M ((xs (i + 1)).toInt) ((xs (i + 2)).toInt) ((xs (i + 3)).toInt) (i32r _) (i32r _) (i32r _) hv.hp hv.bk2 hv.m4 hv.s40 hv.m5) gw_L_71 ⟨⟨rfl, rfl⟩, Nat.le_of_ble_eq_true rfl, Nat.le_of_ble_eq_true rfl⟩ hl.1 rfl rfl dL_law_543 (fun H locs B => ?_)
  refine r_leq F dL_law_546 rfl (congrArg iI (inv_knows hv _ _ _).1) ?_
  exact back _ _ _ _ _ rfl (inv_knows hv _ _ _).2 B
set_option maxHeartbeats 4000000 in
set_option maxRecDepth 100000 in
theorem cs_could (F : LF p m c s b L xs D cI cB) (hl : lv_has ls 4 (LL b Q q i)) (hi : i + 5 ≤ L) (hv : Inv X M) (B : LB s D cI cB Q X q M H locs) (back : LK p l e s m below meth c b D cI cB Q q ls Z) : W p l e room_1 s m #[Value.ref b] below meth c H locs 42 1166 Z (F0 m 551 ls []) := by
  refine r_aln F.1 hl 1 rfl dL_law_551 rfl ?_
  refine r_arg 1 F B hl hi (by decide) rfl dL_law_552 dL_law_553 dL_law_554 dL_law_555 dL_law_556 ?_
  refine r_arg 2 F B hl hi (by decide) rfl dL_law_557 dL_law_558 dL_law_559 dL_law_560 dL_law_561 ?_
  refine r_lx F B (k_X3_could l D cI cB Q X ((xs (i + 1)).toInt) ((xs (i + 2)).toInt) (i32r _) (i32r _) hv.T hv.p hv.s4.1 hv.s4.2.1 hv.s4.2.2 hv.s5.1 hv.s5.2) gw_L_72 ⟨⟨rfl, rfl⟩, Nat.le_of_ble_eq_true rfl, Nat.le_of_ble_eq_true rfl⟩ hl.1 rfl rfl dL_law_562 (fun H locs B => ?_)
  refine r_aln F.1 hl 2 rfl dL_law_565 rfl ?_
  refine r_arg 1 F B hl hi (by decide) rfl dL_law_566 dL_law_567 dL_law_568 dL_law_569 dL_law_570 ?_
  refine r_arg 2 F B hl hi (by decide) rfl dL_law_571 dL_law_572 dL_law_573 dL_law_574 dL_law_575 ?_
  refine r_lm F B (k_X4_could l D cI cB q M ((xs (i + 1)).toInt) ((xs (i + 2)).toInt) (i32r _) (i32r _) hv.hp hv.bk2 hv.m4 hv.s40 hv.m5) gw_L_75 ⟨⟨rfl, rfl⟩, Nat.le_of_ble_eq_true rfl, Nat.le_of_ble_eq_true rfl⟩ hl.1 rfl rfl dL_law_576 (fun H locs B => ?_)
  refine r_leq F dL_law_579 rfl (congrArg iI (inv_could hv _ _).1) ?_
  exact back _ _ _ _ _ rfl (inv_could hv _ _).2 B
set_option maxHeartbeats 4000000 in
set_option maxRecDepth 100000 in
theorem cs_alike (F : LF p m c s b L xs D cI cB) (hl : lv_has ls 4 (LL b Q q i)) (hi : i + 5 ≤ L) (hv : Inv X M) (B : LB s D cI cB Q X q M H locs) (back : LK p l e s m below meth c b D cI cB Q q ls Z) : W p l e room_1 s m #[Value.ref b] below meth c H locs 42 1166 Z (F0 m 584 ls []) := by
  refine r_aln F.1 hl 1 rfl dL_law_584 rfl ?_
  refine r_arg 1 F B hl hi (by decide) rfl dL_law_585 dL_law_586 dL_law_587 dL_law_588 dL_law_589 ?_
  refine r_lx F B (k_X3_alike l D cI cB Q X ((xs (i + 1)).toInt) (i32r _) hv.T hv.p hv.s4.1 hv.s4.2.1 hv.s4.2.2 hv.s5.1 hv.s5.2) gw_L_76 ⟨⟨rfl, rfl⟩, Nat.le_of_ble_eq_true rfl, Nat.le_of_ble_eq_true rfl⟩ hl.1 rfl rfl dL_law_590 (fun H locs B => ?_)
  refine r_aln F.1 hl 2 rfl dL_law_593 rfl ?_
  refine r_arg 1 F B hl hi (by decide) rfl dL_law_594 dL_law_595 dL_law_596 dL_law_597 dL_law_598 ?_
  refine r_lm F B (k_X4_alike l D cI cB q M ((xs (i + 1)).toInt) (i32r _) hv.hp hv.bk2 hv.m4 hv.s40 hv.m5) gw_L_79 ⟨⟨rfl, rfl⟩, Nat.le_of_ble_eq_true rfl, Nat.le_of_ble_eq_true rfl⟩ hl.1 rfl rfl dL_law_599 (fun H locs B => ?_)
  refine r_leq F dL_law_602 rfl (congrArg iI (inv_alike hv _).1) ?_
  exact back _ _ _ _ _ rfl (inv_alike hv _).2 B
set_option maxHeartbeats 4000000 in
set_option maxRecDepth 100000 in
theorem cs_purse (F : LF p m c s b L xs D cI cB) (hl : lv_has ls 4 (LL b Q q i)) (hi : i + 5 ≤ L) (hv : Inv X M) (B : LB s D cI cB Q X q M H locs) (back : LK p l e s m below meth c b D cI cB Q q ls Z) : W p l e room_1 s m #[Value.ref b] below meth c H locs 42 1166 Z (F0 m 607 ls []) := by
  refine r_aln F.1 hl 1 rfl dL_law_607 rfl ?_
  refine r_arg 1 F B hl hi (by decide) rfl dL_law_608 dL_law_609 dL_law_610 dL_law_611 dL_law_612 ?_
  refine r_arg 2 F B hl hi (by decide) rfl dL_law_613 dL_law_614 dL_law_615 dL_law_616 dL_law_617 ?_
  refine r_arg 3 F B hl hi (by decide) rfl dL_law_618 dL_law_619 dL_law_620 dL_law_621 dL_law_622 ?_
  refine r_lxq F B (k_X3_purse l D cI cB Q X ((xs (i + 1)).toInt) ((xs (i + 2)).toInt) ((xs (i + 3)).toInt) (i32r _) (i32r _) (i32r _) hv.T hv.p) gw_L_80 ⟨⟨rfl, rfl⟩, Nat.le_of_ble_eq_true rfl, Nat.le_of_ble_eq_true rfl⟩ hl.1 rfl rfl dL_law_623 ?_
  refine r_aln F.1 hl 2 rfl dL_law_626 rfl ?_
  refine r_arg 1 F B hl hi (by decide) rfl dL_law_627 dL_law_628 dL_law_629 dL_law_630 dL_law_631 ?_
  refine r_arg 2 F B hl hi (by decide) rfl dL_law_632 dL_law_633 dL_law_634 dL_law_635 dL_law_636 ?_
  refine r_arg 3 F B hl hi (by decide) rfl dL_law_637 dL_law_638 dL_law_639 dL_law_640 dL_law_641 ?_
  refine r_lmq F B (k_X4_purse l D cI cB q M ((xs (i + 1)).toInt) ((xs (i + 2)).toInt) ((xs (i + 3)).toInt) (i32r _) (i32r _) (i32r _) hv.bk2) gw_L_83 ⟨⟨rfl, rfl⟩, Nat.le_of_ble_eq_true rfl, Nat.le_of_ble_eq_true rfl⟩ hl.1 rfl rfl dL_law_642 ?_
  refine r_leq F dL_law_645 rfl (congrArg iI (purse_rel hv.rt _ _ _)) ?_
  exact back _ _ _ _ _ rfl hv B
set_option maxHeartbeats 4000000 in
set_option maxRecDepth 100000 in
theorem cs_rests (F : LF p m c s b L xs D cI cB) (hl : lv_has ls 4 (LL b Q q i)) (hi : i + 5 ≤ L) (hv : Inv X M) (B : LB s D cI cB Q X q M H locs) (back : LK p l e s m below meth c b D cI cB Q q ls Z) : W p l e room_1 s m #[Value.ref b] below meth c H locs 42 1166 Z (F0 m 650 ls []) := by
  refine r_aln F.1 hl 1 rfl dL_law_650 rfl ?_
  refine r_arg 1 F B hl hi (by decide) rfl dL_law_651 dL_law_652 dL_law_653 dL_law_654 dL_law_655 ?_
  refine r_lx F B (k_X3_rests l D cI cB Q X ((xs (i + 1)).toInt) (i32r _) hv.T hv.p hv.ow.2.2.2.1 hv.ow.2.2.2.2) gw_L_84 ⟨⟨rfl, rfl⟩, Nat.le_of_ble_eq_true rfl, Nat.le_of_ble_eq_true rfl⟩ hl.1 rfl rfl dL_law_656 (fun H locs B => ?_)
  refine r_aln F.1 hl 2 rfl dL_law_659 rfl ?_
  refine r_arg 1 F B hl hi (by decide) rfl dL_law_660 dL_law_661 dL_law_662 dL_law_663 dL_law_664 ?_
  refine r_lmq F B (k_X4_rests l D cI cB q M ((xs (i + 1)).toInt) (i32r _) hv.bk2) gw_L_87 ⟨⟨rfl, rfl⟩, Nat.le_of_ble_eq_true rfl, Nat.le_of_ble_eq_true rfl⟩ hl.1 rfl rfl dL_law_665 ?_
  refine r_leq F dL_law_668 rfl (congrArg iI (inv_rests hv _).1) ?_
  exact back _ _ _ _ _ rfl (inv_rests hv _).2 B
set_option maxHeartbeats 4000000 in
set_option maxRecDepth 100000 in
theorem cs_camps (F : LF p m c s b L xs D cI cB) (hl : lv_has ls 4 (LL b Q q i)) (hi : i + 5 ≤ L) (hv : Inv X M) (B : LB s D cI cB Q X q M H locs) (back : LK p l e s m below meth c b D cI cB Q q ls Z) : W p l e room_1 s m #[Value.ref b] below meth c H locs 42 1166 Z (F0 m 673 ls []) := by
  refine r_aln F.1 hl 1 rfl dL_law_673 rfl ?_
  refine r_arg 1 F B hl hi (by decide) rfl dL_law_674 dL_law_675 dL_law_676 dL_law_677 dL_law_678 ?_
  refine r_lxq F B (k_X3_camps l D cI cB Q X ((xs (i + 1)).toInt) (i32r _) hv.T hv.p) gw_L_88 ⟨⟨rfl, rfl⟩, Nat.le_of_ble_eq_true rfl, Nat.le_of_ble_eq_true rfl⟩ hl.1 rfl rfl dL_law_679 ?_
  refine r_aln F.1 hl 2 rfl dL_law_682 rfl ?_
  refine r_arg 1 F B hl hi (by decide) rfl dL_law_683 dL_law_684 dL_law_685 dL_law_686 dL_law_687 ?_
  refine r_lmq F B (k_X4_camps l D cI cB q M ((xs (i + 1)).toInt) (i32r _) hv.hp hv.bk2 hv.hpr) gw_L_91 ⟨⟨rfl, rfl⟩, Nat.le_of_ble_eq_true rfl, Nat.le_of_ble_eq_true rfl⟩ hl.1 rfl rfl dL_law_688 ?_
  refine r_leq F dL_law_691 rfl (congrArg iI (camps_rel hv.rt _)) ?_
  exact back _ _ _ _ _ rfl hv B
set_option maxHeartbeats 4000000 in
set_option maxRecDepth 100000 in
theorem cs_seen (F : LF p m c s b L xs D cI cB) (hl : lv_has ls 4 (LL b Q q i)) (hi : i + 5 ≤ L) (hv : Inv X M) (B : LB s D cI cB Q X q M H locs) (back : LK p l e s m below meth c b D cI cB Q q ls Z) : W p l e room_1 s m #[Value.ref b] below meth c H locs 42 1166 Z (F0 m 696 ls []) := by
  refine r_aln F.1 hl 1 rfl dL_law_696 rfl ?_
  refine r_arg 1 F B hl hi (by decide) rfl dL_law_697 dL_law_698 dL_law_699 dL_law_700 dL_law_701 ?_
  refine r_arg 2 F B hl hi (by decide) rfl dL_law_702 dL_law_703 dL_law_704 dL_law_705 dL_law_706 ?_
  refine r_lx F B (k_X3_seen l D cI cB Q X ((xs (i + 1)).toInt) ((xs (i + 2)).toInt) (i32r _) (i32r _) hv.T hv.p hv.s5.1 hv.s5.2 hv.ow.1 hv.ow.2.1) gw_L_92 ⟨⟨rfl, rfl⟩, Nat.le_of_ble_eq_true rfl, Nat.le_of_ble_eq_true rfl⟩ hl.1 rfl rfl dL_law_707 (fun H locs B => ?_)
  refine r_aln F.1 hl 2 rfl dL_law_710 rfl ?_
  refine r_arg 1 F B hl hi (by decide) rfl dL_law_711 dL_law_712 dL_law_713 dL_law_714 dL_law_715 ?_
  refine r_arg 2 F B hl hi (by decide) rfl dL_law_716 dL_law_717 dL_law_718 dL_law_719 dL_law_720 ?_
  refine r_lm F B (k_X4_seen l D cI cB q M ((xs (i + 1)).toInt) ((xs (i + 2)).toInt) (i32r _) (i32r _) hv.l11) gw_L_95 ⟨⟨rfl, rfl⟩, Nat.le_of_ble_eq_true rfl, Nat.le_of_ble_eq_true rfl⟩ hl.1 rfl rfl dL_law_721 (fun H locs B => ?_)
  refine r_leq F dL_law_724 rfl (congrArg iI (inv_seen hv _ _).1) ?_
  exact back _ _ _ _ _ rfl (inv_seen hv _ _).2 B
set_option maxHeartbeats 4000000 in
set_option maxRecDepth 100000 in
theorem cs_forget (F : LF p m c s b L xs D cI cB) (hl : lv_has ls 4 (LL b Q q i)) (hi : i + 5 ≤ L) (hv : Inv X M) (B : LB s D cI cB Q X q M H locs) (back : LK p l e s m below meth c b D cI cB Q q ls Z) : W p l e room_1 s m #[Value.ref b] below meth c H locs 42 1166 Z (F0 m 729 ls []) := by
  refine r_aln F.1 hl 1 rfl dL_law_729 rfl ?_
  refine r_lx F B (k_X3_forget l D cI cB Q X) gw_L_96 ⟨⟨rfl, rfl⟩, Nat.le_of_ble_eq_true rfl, Nat.le_of_ble_eq_true rfl⟩ hl.1 rfl rfl dL_law_730 (fun H locs B => ?_)
  refine r_aln F.1 hl 2 rfl dL_law_733 rfl ?_
  refine r_lm F B (k_X4_forget l D cI cB q M) gw_L_99 ⟨⟨rfl, rfl⟩, Nat.le_of_ble_eq_true rfl, Nat.le_of_ble_eq_true rfl⟩ hl.1 rfl rfl dL_law_734 (fun H locs B => ?_)
  refine r_leq F dL_law_737 rfl (congrArg (fun n : Nat => iI (n : Int)) (inv_forget hv).1) ?_
  exact back _ _ _ _ _ rfl (inv_forget hv).2 B
set_option maxHeartbeats 4000000 in
set_option maxRecDepth 100000 in
theorem cs_fits (F : LF p m c s b L xs D cI cB) (hl : lv_has ls 4 (LL b Q q i)) (hi : i + 5 ≤ L) (hv : Inv X M) (B : LB s D cI cB Q X q M H locs) (back : LK p l e s m below meth c b D cI cB Q q ls Z) : W p l e room_1 s m #[Value.ref b] below meth c H locs 42 1166 Z (F0 m 742 ls []) := by
  refine r_aln F.1 hl 1 rfl dL_law_742 rfl ?_
  refine r_lxq F B (k_X3_fits l D cI cB Q X hv.T hv.p hv.ow.1 hv.ow.2.1) gw_L_100 ⟨⟨rfl, rfl⟩, Nat.le_of_ble_eq_true rfl, Nat.le_of_ble_eq_true rfl⟩ hl.1 rfl rfl dL_law_743 ?_
  refine r_aln F.1 hl 2 rfl dL_law_746 rfl ?_
  refine r_lm F B (k_X4_fits l D cI cB q M hv.hp hv.bk2 hv.l11 hv.m8 hv.m9 hv.m10 hv.m5) gw_L_103 ⟨⟨rfl, rfl⟩, Nat.le_of_ble_eq_true rfl, Nat.le_of_ble_eq_true rfl⟩ hl.1 rfl rfl dL_law_747 (fun H locs B => ?_)
  refine r_leq F dL_law_750 rfl (congrArg (fun n : Nat => iI (n : Int)) (inv_fits hv)) ?_
  exact back _ _ _ _ _ rfl (inv_fin hv) B
set_option maxHeartbeats 4000000 in
set_option maxRecDepth 100000 in
theorem cs_least (F : LF p m c s b L xs D cI cB) (hl : lv_has ls 4 (LL b Q q i)) (hi : i + 5 ≤ L) (hv : Inv X M) (B : LB s D cI cB Q X q M H locs) (back : LK p l e s m below meth c b D cI cB Q q ls Z) : W p l e room_1 s m #[Value.ref b] below meth c H locs 42 1166 Z (F0 m 755 ls []) := by
  refine r_aln F.1 hl 1 rfl dL_law_755 rfl ?_
  refine r_lxq F B (k_X3_least l D cI cB Q X hv.T hv.p hv.ow.1 hv.ow.2.1) gw_L_104 ⟨⟨rfl, rfl⟩, Nat.le_of_ble_eq_true rfl, Nat.le_of_ble_eq_true rfl⟩ hl.1 rfl rfl dL_law_756 ?_
  refine r_aln F.1 hl 2 rfl dL_law_759 rfl ?_
  refine r_lm F B (k_X4_least l D cI cB q M hv.hp hv.bk2 hv.l11 hv.m8 hv.m9 hv.m10 hv.m5) gw_L_107 ⟨⟨rfl, rfl⟩, Nat.le_of_ble_eq_true rfl, Nat.le_of_ble_eq_true rfl⟩ hl.1 rfl rfl dL_law_760 (fun H locs B => ?_)
  refine r_leq F dL_law_763 rfl (congrArg iI (inv_least hv)) ?_
  exact back _ _ _ _ _ rfl (inv_fin hv) B
set_option maxHeartbeats 4000000 in
set_option maxRecDepth 100000 in
theorem cs_month (F : LF p m c s b L xs D cI cB) (hl : lv_has ls 4 (LL b Q q i)) (hi : i + 5 ≤ L) (hv : Inv X M) (B : LB s D cI cB Q X q M H locs) (back : LK p l e s m below meth c b D cI cB Q q ls Z) : W p l e room_1 s m #[Value.ref b] below meth c H locs 42 1166 Z (F0 m 768 ls []) := by
  refine r_aln F.1 hl 1 rfl dL_law_768 rfl ?_
  refine r_arg 1 F B hl hi (by decide) rfl dL_law_769 dL_law_770 dL_law_771 dL_law_772 dL_law_773 ?_
  refine r_arg 2 F B hl hi (by decide) rfl dL_law_774 dL_law_775 dL_law_776 dL_law_777 dL_law_778 ?_
  refine r_arg 3 F B hl hi (by decide) rfl dL_law_779 dL_law_780 dL_law_781 dL_law_782 dL_law_783 ?_
  refine r_arg 4 F B hl hi (by decide) rfl dL_law_784 dL_law_785 dL_law_786 dL_law_787 dL_law_788 ?_
  refine r_lx F B (k_X3_month l D cI cB Q X ((xs (i + 1)).toInt) ((xs (i + 2)).toInt) ((xs (i + 3)).toInt) ((xs (i + 4)).toInt) (i32r _) (i32r _) (i32r _) (i32r _) hv.T hv.p hv.s4.1 hv.s4.2.1 hv.s4.2.2 hv.s5.1 hv.s5.2) gw_L_108 ⟨⟨rfl, rfl⟩, Nat.le_of_ble_eq_true rfl, Nat.le_of_ble_eq_true rfl⟩ hl.1 rfl rfl dL_law_789 (fun H locs B => ?_)
  refine r_aln F.1 hl 2 rfl dL_law_792 rfl ?_
  refine r_arg 1 F B hl hi (by decide) rfl dL_law_793 dL_law_794 dL_law_795 dL_law_796 dL_law_797 ?_
  refine r_arg 2 F B hl hi (by decide) rfl dL_law_798 dL_law_799 dL_law_800 dL_law_801 dL_law_802 ?_
  refine r_arg 3 F B hl hi (by decide) rfl dL_law_803 dL_law_804 dL_law_805 dL_law_806 dL_law_807 ?_
  refine r_arg 4 F B hl hi (by decide) rfl dL_law_808 dL_law_809 dL_law_810 dL_law_811 dL_law_812 ?_
  refine r_lm F B (k_X4_month l D cI cB q M ((xs (i + 1)).toInt) ((xs (i + 2)).toInt) ((xs (i + 3)).toInt) ((xs (i + 4)).toInt) (i32r _) (i32r _) (i32r _) (i32r _) hv.hp hv.bk2 hv.m4 hv.s40 hv.m5) gw_L_112 ⟨⟨rfl, rfl⟩, Nat.le_of_ble_eq_true rfl, Nat.le_of_ble_eq_true rfl⟩ hl.1 rfl rfl dL_law_813 (fun H locs B => ?_)
  refine r_leq F dL_law_816 rfl (congrArg iI (inv_month hv _ _ _ _).1) ?_
  exact back _ _ _ _ _ rfl (inv_month hv _ _ _ _).2 B
set_option maxHeartbeats 4000000 in
set_option maxRecDepth 100000 in
theorem cs_keep (F : LF p m c s b L xs D cI cB) (hl : lv_has ls 4 (LL b Q q i)) (hi : i + 5 ≤ L) (hv : Inv X M) (B : LB s D cI cB Q X q M H locs) (back : LK p l e s m below meth c b D cI cB Q q ls Z) : W p l e room_1 s m #[Value.ref b] below meth c H locs 42 1166 Z (F0 m 821 ls []) := by
  refine r_aln F.1 hl 1 rfl dL_law_821 rfl ?_
  refine r_lx F B (k_X3_keep l D cI cB Q X hv.s4.1 hv.s4.2.1 hv.s4.2.2 hv.s6.2.1 hv.s6.2.2 hv.s7.2.1 hv.s7.2.2 hv.ow.2.2.1) gw_L_113 ⟨⟨rfl, rfl⟩, Nat.le_of_ble_eq_true rfl, Nat.le_of_ble_eq_true rfl⟩ hl.1 rfl rfl dL_law_822 (fun H locs B => ?_)
  refine r_aln F.1 hl 2 rfl dL_law_825 rfl ?_
  refine r_lm F B (k_X4_keep l D cI cB q M hv.l7 hv.m4) gw_L_116 ⟨⟨rfl, rfl⟩, Nat.le_of_ble_eq_true rfl, Nat.le_of_ble_eq_true rfl⟩ hl.1 rfl rfl dL_law_826 (fun H locs B => ?_)
  refine r_leq F dL_law_829 rfl (congrArg iI (inv_keep hv).1) ?_
  exact back _ _ _ _ _ rfl (inv_keep hv).2 B
set_option maxHeartbeats 4000000 in
set_option maxRecDepth 100000 in
theorem cs_back (F : LF p m c s b L xs D cI cB) (hl : lv_has ls 4 (LL b Q q i)) (hi : i + 5 ≤ L) (hv : Inv X M) (B : LB s D cI cB Q X q M H locs) (back : LK p l e s m below meth c b D cI cB Q q ls Z) : W p l e room_1 s m #[Value.ref b] below meth c H locs 42 1166 Z (F0 m 834 ls []) := by
  refine r_aln F.1 hl 1 rfl dL_law_834 rfl ?_
  refine r_lx F B (k_X3_back l D cI cB Q X hv.s4.1 hv.s4.2.1 hv.s4.2.2 hv.s6.2.1 hv.s6.2.2 hv.s7.2.1 hv.s7.2.2 hv.ow.2.2.1) gw_L_117 ⟨⟨rfl, rfl⟩, Nat.le_of_ble_eq_true rfl, Nat.le_of_ble_eq_true rfl⟩ hl.1 rfl rfl dL_law_835 (fun H locs B => ?_)
  refine r_aln F.1 hl 2 rfl dL_law_838 rfl ?_
  refine r_lm F B (k_X4_back l D cI cB q M hv.l7) gw_L_120 ⟨⟨rfl, rfl⟩, Nat.le_of_ble_eq_true rfl, Nat.le_of_ble_eq_true rfl⟩ hl.1 rfl rfl dL_law_839 (fun H locs B => ?_)
  refine r_leq F dL_law_842 rfl (congrArg iI (inv_back hv).1) ?_
  exact back _ _ _ _ _ rfl (inv_back hv).2 B
set_option maxHeartbeats 4000000 in
set_option maxRecDepth 100000 in
theorem cs_count (F : LF p m c s b L xs D cI cB) (hl : lv_has ls 4 (LL b Q q i)) (hi : i + 5 ≤ L) (hv : Inv X M) (B : LB s D cI cB Q X q M H locs) (back : LK p l e s m below meth c b D cI cB Q q ls Z) : W p l e room_1 s m #[Value.ref b] below meth c H locs 42 1166 Z (F0 m 847 ls []) := by
  refine r_aln F.1 hl 1 rfl dL_law_847 rfl ?_
  refine r_arg 1 F B hl hi (by decide) rfl dL_law_848 dL_law_849 dL_law_850 dL_law_851 dL_law_852 ?_
  refine r_lxq F B (k_X3_count l D cI cB Q X ((xs (i + 1)).toInt) (i32r _)) gw_L_121 ⟨⟨rfl, rfl⟩, Nat.le_of_ble_eq_true rfl, Nat.le_of_ble_eq_true rfl⟩ hl.1 rfl rfl dL_law_853 ?_
  refine r_aln F.1 hl 2 rfl dL_law_856 rfl ?_
  refine r_arg 1 F B hl hi (by decide) rfl dL_law_857 dL_law_858 dL_law_859 dL_law_860 dL_law_861 ?_
  refine r_lmq F B (k_X4_count l D cI cB q M ((xs (i + 1)).toInt) (i32r _) hv.hp hv.bk2 hv.m4) gw_L_124 ⟨⟨rfl, rfl⟩, Nat.le_of_ble_eq_true rfl, Nat.le_of_ble_eq_true rfl⟩ hl.1 rfl rfl dL_law_862 ?_
  refine r_leq F dL_law_865 rfl (congrArg iI (inv_count hv _)) ?_
  exact back _ _ _ _ _ rfl hv B
end LawCases
