/-! texts: the walk (written by wip/p28/tools/mk_t.py) -/
set_option maxHeartbeats 8000000 in
theorem texts_0 {p : Program} {l : Launch} {e : Env} {s : State} {m : MethodId} {args : Array Value} {below : List Frame} {meth : Method} {c : Code} {D : va_G} {cs : Nat → ClassId} {Q : State → Prop} {ad : Nat → Nat} (C : CQ p s m args meth c cL_texts 2 D cs) (next : VX p l e (rmC 7 4335 29954) s m args below meth c 2 D (fun q => s.heap.size ≤ q) 4335 29954 Q (gW cs ad tg14 []) 400 [(1, .int (1 : Int32)), (0, .ref (ad 0))] []) : VX p l e (rmC 7 4335 29954) s m args below meth c 2 D (fun q => s.heap.size ≤ q) 4335 29954 Q (gW cs ad tg0 []) 190 [(0, .ref (ad 0))] [] := by
  refine q_aload_n C dL_texts_190 rfl 0 rfl ?_
  refine q_iconst (v := (2 : Int32)) C dL_texts_191 (by decide) ?_
  refine q_bipush (v := (9 : Int32)) C dL_texts_192 (by decide) ?_
  refine o_addFlat C ts1 ⟨Nat.le_of_ble_eq_true rfl, Nat.le_of_ble_eq_true rfl⟩ ⟨Nat.le_of_ble_eq_true rfl, Nat.le_of_ble_eq_true rfl⟩ (Nat.le_of_ble_eq_true rfl) dL_texts_194 ?_
  refine q_if_ne_f C 310 dL_texts_197 (by decide) (by decide) ?_
  refine q_aload_n C dL_texts_200 rfl 0 rfl ?_
  refine q_iconst (v := (2 : Int32)) C dL_texts_201 (by decide) ?_
  refine q_bipush (v := (9 : Int32)) C dL_texts_202 (by decide) ?_
  refine o_addFlat C ts2 ⟨Nat.le_of_ble_eq_true rfl, Nat.le_of_ble_eq_true rfl⟩ ⟨Nat.le_of_ble_eq_true rfl, Nat.le_of_ble_eq_true rfl⟩ (Nat.le_of_ble_eq_true rfl) dL_texts_204 ?_
  refine q_iconst (v := (1 : Int32)) C dL_texts_207 (by decide) ?_
  refine q_icmp_ne_f C 310 dL_texts_208 (by decide) (by decide) ?_
  refine q_aload_n C dL_texts_211 rfl 0 rfl ?_
  refine q_iconst (v := (2 : Int32)) C dL_texts_212 (by decide) ?_
  refine q_bipush (v := (99 : Int32)) C dL_texts_213 (by decide) ?_
  refine o_addHousehold C ts3 ⟨Nat.le_of_ble_eq_true rfl, Nat.le_of_ble_eq_true rfl⟩ ⟨Nat.le_of_ble_eq_true rfl, Nat.le_of_ble_eq_true rfl⟩ (Nat.le_of_ble_eq_true rfl) dL_texts_215 ?_
  refine q_if_ne_f C 310 dL_texts_218 (by decide) (by decide) ?_
  refine q_aload_n C dL_texts_221 rfl 0 rfl ?_
  refine q_ldc2 (v := (207134731313 : Int64)) C qK_152 dL_texts_222 ?_
  refine q_callSI (n := 2) (As := [.ref (ad 0), .long (207134731313 : Int64)]) (maxL := 6) (ret := some .boolean) C (c_types (g := tg3) (207134731313 : Int64) (by decide +kernel)) qG_Ltypes rfl (by decide +kernel) ⟨Nat.le_of_ble_eq_true rfl, Nat.le_of_ble_eq_true rfl⟩ ⟨Nat.le_of_ble_eq_true rfl, Nat.le_of_ble_eq_true rfl⟩ rfl rfl rfl (Nat.le_of_ble_eq_true rfl) dL_texts_225 ?_
  refine q_if_eq_f C 310 dL_texts_228 (by decide) (by decide) ?_
  refine q_aload_n C dL_texts_231 rfl 0 rfl ?_
  refine o_readLists C ts4 ⟨Nat.le_of_ble_eq_true rfl, Nat.le_of_ble_eq_true rfl⟩ ⟨Nat.le_of_ble_eq_true rfl, Nat.le_of_ble_eq_true rfl⟩ (Nat.le_of_ble_eq_true rfl) dL_texts_232 ?_
  refine q_bipush (v := (-2 : Int32)) C dL_texts_235 (by decide) ?_
  refine q_icmp_ne_f C 310 dL_texts_237 (by decide) (by decide) ?_
  refine q_aload_n C dL_texts_240 rfl 0 rfl ?_
  refine o_clearText C ts5 ⟨Nat.le_of_ble_eq_true rfl, Nat.le_of_ble_eq_true rfl⟩ ⟨Nat.le_of_ble_eq_true rfl, Nat.le_of_ble_eq_true rfl⟩ (Nat.le_of_ble_eq_true rfl) dL_texts_241 ?_
  refine q_iconst (v := (5 : Int32)) C dL_texts_244 (by decide) ?_
  refine q_icmp_ne_f C 310 dL_texts_245 (by decide) (by decide) ?_
  refine q_aload_n C dL_texts_248 rfl 0 rfl ?_
  refine q_ldc2 (v := (207134731314 : Int64)) C qK_157 dL_texts_249 ?_
  refine q_callSI (n := 2) (As := [.ref (ad 0), .long (207134731314 : Int64)]) (maxL := 6) (ret := some .boolean) C (c_types (g := tg5) (207134731314 : Int64) (by decide +kernel)) qG_Ltypes rfl (by decide +kernel) ⟨Nat.le_of_ble_eq_true rfl, Nat.le_of_ble_eq_true rfl⟩ ⟨Nat.le_of_ble_eq_true rfl, Nat.le_of_ble_eq_true rfl⟩ rfl rfl rfl (Nat.le_of_ble_eq_true rfl) dL_texts_252 ?_
  refine q_if_eq_f C 310 dL_texts_255 (by decide) (by decide) ?_
  refine q_aload_n C dL_texts_258 rfl 0 rfl ?_
  refine o_readLists C ts6 ⟨Nat.le_of_ble_eq_true rfl, Nat.le_of_ble_eq_true rfl⟩ ⟨Nat.le_of_ble_eq_true rfl, Nat.le_of_ble_eq_true rfl⟩ (Nat.le_of_ble_eq_true rfl) dL_texts_259 ?_
  refine q_iconst (v := (-1 : Int32)) C dL_texts_262 (by decide) ?_
  refine q_icmp_ne_f C 310 dL_texts_263 (by decide) (by decide) ?_
  refine q_aload_n C dL_texts_266 rfl 0 rfl ?_
  refine o_clearText C ts7 ⟨Nat.le_of_ble_eq_true rfl, Nat.le_of_ble_eq_true rfl⟩ ⟨Nat.le_of_ble_eq_true rfl, Nat.le_of_ble_eq_true rfl⟩ (Nat.le_of_ble_eq_true rfl) dL_texts_267 ?_
  refine q_iconst (v := (5 : Int32)) C dL_texts_270 (by decide) ?_
  refine q_icmp_ne_f C 310 dL_texts_271 (by decide) (by decide) ?_
  refine q_aload_n C dL_texts_274 rfl 0 rfl ?_
  refine q_ldc2 (v := (211429698609 : Int64)) C qK_159 dL_texts_275 ?_
  refine q_callSI (n := 2) (As := [.ref (ad 0), .long (211429698609 : Int64)]) (maxL := 6) (ret := some .boolean) C (c_types (g := tg7) (211429698609 : Int64) (by decide +kernel)) qG_Ltypes rfl (by decide +kernel) ⟨Nat.le_of_ble_eq_true rfl, Nat.le_of_ble_eq_true rfl⟩ ⟨Nat.le_of_ble_eq_true rfl, Nat.le_of_ble_eq_true rfl⟩ rfl rfl rfl (Nat.le_of_ble_eq_true rfl) dL_texts_278 ?_
  refine q_if_eq_f C 310 dL_texts_281 (by decide) (by decide) ?_
  refine q_aload_n C dL_texts_284 rfl 0 rfl ?_
  refine o_readLists C ts8 ⟨Nat.le_of_ble_eq_true rfl, Nat.le_of_ble_eq_true rfl⟩ ⟨Nat.le_of_ble_eq_true rfl, Nat.le_of_ble_eq_true rfl⟩ (Nat.le_of_ble_eq_true rfl) dL_texts_285 ?_
  refine q_iconst (v := (-1 : Int32)) C dL_texts_288 (by decide) ?_
  refine q_icmp_ne_f C 310 dL_texts_289 (by decide) (by decide) ?_
  refine q_aload_n C dL_texts_292 rfl 0 rfl ?_
  refine o_clearText C ts9 ⟨Nat.le_of_ble_eq_true rfl, Nat.le_of_ble_eq_true rfl⟩ ⟨Nat.le_of_ble_eq_true rfl, Nat.le_of_ble_eq_true rfl⟩ (Nat.le_of_ble_eq_true rfl) dL_texts_293 ?_
  refine q_iconst (v := (5 : Int32)) C dL_texts_296 (by decide) ?_
  refine q_icmp_ne_f C 310 dL_texts_297 (by decide) (by decide) ?_
  refine q_aload_n C dL_texts_300 rfl 0 rfl ?_
  refine q_bipush (v := (11 : Int32)) C dL_texts_301 (by decide) ?_
  refine o_count C ts10 ⟨Nat.le_of_ble_eq_true rfl, Nat.le_of_ble_eq_true rfl⟩ ⟨Nat.le_of_ble_eq_true rfl, Nat.le_of_ble_eq_true rfl⟩ (Nat.le_of_ble_eq_true rfl) dL_texts_303 ?_
  refine q_iconst (v := (3 : Int32)) C dL_texts_306 (by decide) ?_
  refine q_icmp_eq_t C 312 dL_texts_307 (by decide) (by decide) ?_
  refine q_aload_n C dL_texts_312 rfl 0 rfl ?_
  refine q_ldc2 (v := (3475144128327266362 : Int64)) C qK_161 dL_texts_313 ?_
  refine q_callSI (n := 2) (As := [.ref (ad 0), .long (3475144128327266362 : Int64)]) (maxL := 6) (ret := some .boolean) C (c_types (g := tg9) (3475144128327266362 : Int64) (by decide +kernel)) qG_Ltypes rfl (by decide +kernel) ⟨Nat.le_of_ble_eq_true rfl, Nat.le_of_ble_eq_true rfl⟩ ⟨Nat.le_of_ble_eq_true rfl, Nat.le_of_ble_eq_true rfl⟩ rfl rfl rfl (Nat.le_of_ble_eq_true rfl) dL_texts_316 ?_
  refine q_if_eq_f C 390 dL_texts_319 (by decide) (by decide) ?_
  refine q_aload_n C dL_texts_322 rfl 0 rfl ?_
  refine q_ldc2 (v := (49 : Int64)) C qK_163 dL_texts_323 ?_
  refine q_callSI (n := 2) (As := [.ref (ad 0), .long (49 : Int64)]) (maxL := 6) (ret := some .boolean) C (c_types (g := tg10) (49 : Int64) (by decide +kernel)) qG_Ltypes rfl (by decide +kernel) ⟨Nat.le_of_ble_eq_true rfl, Nat.le_of_ble_eq_true rfl⟩ ⟨Nat.le_of_ble_eq_true rfl, Nat.le_of_ble_eq_true rfl⟩ rfl rfl rfl (Nat.le_of_ble_eq_true rfl) dL_texts_326 ?_
  refine q_if_eq_f C 390 dL_texts_329 (by decide) (by decide) ?_
  refine q_aload_n C dL_texts_332 rfl 0 rfl ?_
  refine o_readLists C ts11 ⟨Nat.le_of_ble_eq_true rfl, Nat.le_of_ble_eq_true rfl⟩ ⟨Nat.le_of_ble_eq_true rfl, Nat.le_of_ble_eq_true rfl⟩ (Nat.le_of_ble_eq_true rfl) dL_texts_333 ?_
  refine q_iconst (v := (2 : Int32)) C dL_texts_336 (by decide) ?_
  refine q_icmp_ne_f C 390 dL_texts_337 (by decide) (by decide) ?_
  refine q_aload_n C dL_texts_340 rfl 0 rfl ?_
  refine q_bipush (v := (11 : Int32)) C dL_texts_341 (by decide) ?_
  refine o_count C ts12 ⟨Nat.le_of_ble_eq_true rfl, Nat.le_of_ble_eq_true rfl⟩ ⟨Nat.le_of_ble_eq_true rfl, Nat.le_of_ble_eq_true rfl⟩ (Nat.le_of_ble_eq_true rfl) dL_texts_343 ?_
  refine q_iconst (v := (4 : Int32)) C dL_texts_346 (by decide) ?_
  refine q_icmp_ne_f C 390 dL_texts_347 (by decide) (by decide) ?_
  refine q_aload_n C dL_texts_350 rfl 0 rfl ?_
  refine q_iconst (v := (0 : Int32)) C dL_texts_351 (by decide) ?_
  refine q_iconst (v := (5 : Int32)) C dL_texts_352 (by decide) ?_
  refine o_household C ts13 ⟨Nat.le_of_ble_eq_true rfl, Nat.le_of_ble_eq_true rfl⟩ ⟨Nat.le_of_ble_eq_true rfl, Nat.le_of_ble_eq_true rfl⟩ (Nat.le_of_ble_eq_true rfl) dL_texts_353 ?_
  refine q_iconst (v := (1 : Int32)) C dL_texts_356 (by decide) ?_
  refine q_icmp_ne_f C 390 dL_texts_357 (by decide) (by decide) ?_
  refine q_aload_n C dL_texts_360 rfl 0 rfl ?_
  refine q_iconst (v := (0 : Int32)) C dL_texts_361 (by decide) ?_
  refine q_iconst (v := (0 : Int32)) C dL_texts_362 (by decide) ?_
  refine o_wished C ts14 ⟨Nat.le_of_ble_eq_true rfl, Nat.le_of_ble_eq_true rfl⟩ ⟨Nat.le_of_ble_eq_true rfl, Nat.le_of_ble_eq_true rfl⟩ (Nat.le_of_ble_eq_true rfl) dL_texts_363 ?_
  refine q_iconst (v := (1 : Int32)) C dL_texts_366 (by decide) ?_
  refine q_icmp_ne_f C 390 dL_texts_367 (by decide) (by decide) ?_
  refine q_aload_n C dL_texts_370 rfl 0 rfl ?_
  refine q_iconst (v := (0 : Int32)) C dL_texts_371 (by decide) ?_
  refine q_iconst (v := (1 : Int32)) C dL_texts_372 (by decide) ?_
  refine o_wished C ts15 ⟨Nat.le_of_ble_eq_true rfl, Nat.le_of_ble_eq_true rfl⟩ ⟨Nat.le_of_ble_eq_true rfl, Nat.le_of_ble_eq_true rfl⟩ (Nat.le_of_ble_eq_true rfl) dL_texts_373 ?_
  refine q_bipush (v := (-5 : Int32)) C dL_texts_376 (by decide) ?_
  refine q_icmp_ne_f C 390 dL_texts_378 (by decide) (by decide) ?_
  refine q_aload_n C dL_texts_381 rfl 0 rfl ?_
  refine o_clearText C ts16 ⟨Nat.le_of_ble_eq_true rfl, Nat.le_of_ble_eq_true rfl⟩ ⟨Nat.le_of_ble_eq_true rfl, Nat.le_of_ble_eq_true rfl⟩ (Nat.le_of_ble_eq_true rfl) dL_texts_382 ?_
  refine q_bipush (v := (9 : Int32)) C dL_texts_385 (by decide) ?_
  refine q_icmp_eq_t C 392 dL_texts_387 (by decide) (by decide) ?_
  refine q_iconst (v := (0 : Int32)) C dL_texts_392 (by decide) ?_
  refine q_istore_n C dL_texts_393 rfl (by decide) rfl ?_
  refine q_iload_n C dL_texts_394 rfl 0 rfl ?_
  refine q_bipush (v := (60 : Int32)) C dL_texts_395 (by decide) ?_
  refine q_icmp_ge_f C 420 dL_texts_397 (by decide) (by decide) ?_
  refine q_aload_n C dL_texts_400 rfl 1 rfl ?_
  refine q_bipush (v := (49 : Int32)) C dL_texts_401 (by decide) ?_
  refine o_type C ts17 ⟨Nat.le_of_ble_eq_true rfl, Nat.le_of_ble_eq_true rfl⟩ ⟨Nat.le_of_ble_eq_true rfl, Nat.le_of_ble_eq_true rfl⟩ (Nat.le_of_ble_eq_true rfl) dL_texts_403 ?_
  refine q_iload_n C dL_texts_406 rfl 0 rfl ?_
  refine q_iconst (v := (1 : Int32)) C dL_texts_407 (by decide) ?_
  refine q_iadd_v (v := (1 : Int32)) C dL_texts_408 (by decide) ?_
  refine q_icmp_eq_t C 414 dL_texts_409 (by decide) (by decide) ?_
  refine q_iinc (v := (1 : Int32)) C dL_texts_414 0 rfl (by decide) (by decide) rfl ?_
  refine q_goto (tgt := 394) C dL_texts_417 (by decide) ?_
  refine q_iload_n C dL_texts_394 rfl 0 rfl ?_
  refine q_bipush (v := (60 : Int32)) C dL_texts_395 (by decide) ?_
  refine q_icmp_ge_f C 420 dL_texts_397 (by decide) (by decide) ?_
  exact next
set_option maxHeartbeats 8000000 in
theorem texts_1 {p : Program} {l : Launch} {e : Env} {s : State} {m : MethodId} {args : Array Value} {below : List Frame} {meth : Method} {c : Code} {D : va_G} {cs : Nat → ClassId} {Q : State → Prop} {ad : Nat → Nat} (C : CQ p s m args meth c cL_texts 2 D cs) (next : VX p l e (rmC 7 4335 29954) s m args below meth c 2 D (fun q => s.heap.size ≤ q) 4335 29954 Q (gW cs ad tg24 []) 414 [(1, .int (10 : Int32)), (0, .ref (ad 0))] []) : VX p l e (rmC 7 4335 29954) s m args below meth c 2 D (fun q => s.heap.size ≤ q) 4335 29954 Q (gW cs ad tg14 []) 400 [(1, .int (1 : Int32)), (0, .ref (ad 0))] [] := by
  refine q_aload_n C dL_texts_400 rfl 1 rfl ?_
  refine q_bipush (v := (49 : Int32)) C dL_texts_401 (by decide) ?_
  refine o_type C ts18 ⟨Nat.le_of_ble_eq_true rfl, Nat.le_of_ble_eq_true rfl⟩ ⟨Nat.le_of_ble_eq_true rfl, Nat.le_of_ble_eq_true rfl⟩ (Nat.le_of_ble_eq_true rfl) dL_texts_403 ?_
  refine q_iload_n C dL_texts_406 rfl 0 rfl ?_
  refine q_iconst (v := (1 : Int32)) C dL_texts_407 (by decide) ?_
  refine q_iadd_v (v := (2 : Int32)) C dL_texts_408 (by decide) ?_
  refine q_icmp_eq_t C 414 dL_texts_409 (by decide) (by decide) ?_
  refine q_iinc (v := (2 : Int32)) C dL_texts_414 0 rfl (by decide) (by decide) rfl ?_
  refine q_goto (tgt := 394) C dL_texts_417 (by decide) ?_
  refine q_iload_n C dL_texts_394 rfl 0 rfl ?_
  refine q_bipush (v := (60 : Int32)) C dL_texts_395 (by decide) ?_
  refine q_icmp_ge_f C 420 dL_texts_397 (by decide) (by decide) ?_
  refine q_aload_n C dL_texts_400 rfl 1 rfl ?_
  refine q_bipush (v := (49 : Int32)) C dL_texts_401 (by decide) ?_
  refine o_type C ts19 ⟨Nat.le_of_ble_eq_true rfl, Nat.le_of_ble_eq_true rfl⟩ ⟨Nat.le_of_ble_eq_true rfl, Nat.le_of_ble_eq_true rfl⟩ (Nat.le_of_ble_eq_true rfl) dL_texts_403 ?_
  refine q_iload_n C dL_texts_406 rfl 0 rfl ?_
  refine q_iconst (v := (1 : Int32)) C dL_texts_407 (by decide) ?_
  refine q_iadd_v (v := (3 : Int32)) C dL_texts_408 (by decide) ?_
  refine q_icmp_eq_t C 414 dL_texts_409 (by decide) (by decide) ?_
  refine q_iinc (v := (3 : Int32)) C dL_texts_414 0 rfl (by decide) (by decide) rfl ?_
  refine q_goto (tgt := 394) C dL_texts_417 (by decide) ?_
  refine q_iload_n C dL_texts_394 rfl 0 rfl ?_
  refine q_bipush (v := (60 : Int32)) C dL_texts_395 (by decide) ?_
  refine q_icmp_ge_f C 420 dL_texts_397 (by decide) (by decide) ?_
  refine q_aload_n C dL_texts_400 rfl 1 rfl ?_
  refine q_bipush (v := (49 : Int32)) C dL_texts_401 (by decide) ?_
  refine o_type C ts20 ⟨Nat.le_of_ble_eq_true rfl, Nat.le_of_ble_eq_true rfl⟩ ⟨Nat.le_of_ble_eq_true rfl, Nat.le_of_ble_eq_true rfl⟩ (Nat.le_of_ble_eq_true rfl) dL_texts_403 ?_
  refine q_iload_n C dL_texts_406 rfl 0 rfl ?_
  refine q_iconst (v := (1 : Int32)) C dL_texts_407 (by decide) ?_
  refine q_iadd_v (v := (4 : Int32)) C dL_texts_408 (by decide) ?_
  refine q_icmp_eq_t C 414 dL_texts_409 (by decide) (by decide) ?_
  refine q_iinc (v := (4 : Int32)) C dL_texts_414 0 rfl (by decide) (by decide) rfl ?_
  refine q_goto (tgt := 394) C dL_texts_417 (by decide) ?_
  refine q_iload_n C dL_texts_394 rfl 0 rfl ?_
  refine q_bipush (v := (60 : Int32)) C dL_texts_395 (by decide) ?_
  refine q_icmp_ge_f C 420 dL_texts_397 (by decide) (by decide) ?_
  refine q_aload_n C dL_texts_400 rfl 1 rfl ?_
  refine q_bipush (v := (49 : Int32)) C dL_texts_401 (by decide) ?_
  refine o_type C ts21 ⟨Nat.le_of_ble_eq_true rfl, Nat.le_of_ble_eq_true rfl⟩ ⟨Nat.le_of_ble_eq_true rfl, Nat.le_of_ble_eq_true rfl⟩ (Nat.le_of_ble_eq_true rfl) dL_texts_403 ?_
  refine q_iload_n C dL_texts_406 rfl 0 rfl ?_
  refine q_iconst (v := (1 : Int32)) C dL_texts_407 (by decide) ?_
  refine q_iadd_v (v := (5 : Int32)) C dL_texts_408 (by decide) ?_
  refine q_icmp_eq_t C 414 dL_texts_409 (by decide) (by decide) ?_
  refine q_iinc (v := (5 : Int32)) C dL_texts_414 0 rfl (by decide) (by decide) rfl ?_
  refine q_goto (tgt := 394) C dL_texts_417 (by decide) ?_
  refine q_iload_n C dL_texts_394 rfl 0 rfl ?_
  refine q_bipush (v := (60 : Int32)) C dL_texts_395 (by decide) ?_
  refine q_icmp_ge_f C 420 dL_texts_397 (by decide) (by decide) ?_
  refine q_aload_n C dL_texts_400 rfl 1 rfl ?_
  refine q_bipush (v := (49 : Int32)) C dL_texts_401 (by decide) ?_
  refine o_type C ts22 ⟨Nat.le_of_ble_eq_true rfl, Nat.le_of_ble_eq_true rfl⟩ ⟨Nat.le_of_ble_eq_true rfl, Nat.le_of_ble_eq_true rfl⟩ (Nat.le_of_ble_eq_true rfl) dL_texts_403 ?_
  refine q_iload_n C dL_texts_406 rfl 0 rfl ?_
  refine q_iconst (v := (1 : Int32)) C dL_texts_407 (by decide) ?_
  refine q_iadd_v (v := (6 : Int32)) C dL_texts_408 (by decide) ?_
  refine q_icmp_eq_t C 414 dL_texts_409 (by decide) (by decide) ?_
  refine q_iinc (v := (6 : Int32)) C dL_texts_414 0 rfl (by decide) (by decide) rfl ?_
  refine q_goto (tgt := 394) C dL_texts_417 (by decide) ?_
  refine q_iload_n C dL_texts_394 rfl 0 rfl ?_
  refine q_bipush (v := (60 : Int32)) C dL_texts_395 (by decide) ?_
  refine q_icmp_ge_f C 420 dL_texts_397 (by decide) (by decide) ?_
  refine q_aload_n C dL_texts_400 rfl 1 rfl ?_
  refine q_bipush (v := (49 : Int32)) C dL_texts_401 (by decide) ?_
  refine o_type C ts23 ⟨Nat.le_of_ble_eq_true rfl, Nat.le_of_ble_eq_true rfl⟩ ⟨Nat.le_of_ble_eq_true rfl, Nat.le_of_ble_eq_true rfl⟩ (Nat.le_of_ble_eq_true rfl) dL_texts_403 ?_
  refine q_iload_n C dL_texts_406 rfl 0 rfl ?_
  refine q_iconst (v := (1 : Int32)) C dL_texts_407 (by decide) ?_
  refine q_iadd_v (v := (7 : Int32)) C dL_texts_408 (by decide) ?_
  refine q_icmp_eq_t C 414 dL_texts_409 (by decide) (by decide) ?_
  refine q_iinc (v := (7 : Int32)) C dL_texts_414 0 rfl (by decide) (by decide) rfl ?_
  refine q_goto (tgt := 394) C dL_texts_417 (by decide) ?_
  refine q_iload_n C dL_texts_394 rfl 0 rfl ?_
  refine q_bipush (v := (60 : Int32)) C dL_texts_395 (by decide) ?_
  refine q_icmp_ge_f C 420 dL_texts_397 (by decide) (by decide) ?_
  refine q_aload_n C dL_texts_400 rfl 1 rfl ?_
  refine q_bipush (v := (49 : Int32)) C dL_texts_401 (by decide) ?_
  refine o_type C ts24 ⟨Nat.le_of_ble_eq_true rfl, Nat.le_of_ble_eq_true rfl⟩ ⟨Nat.le_of_ble_eq_true rfl, Nat.le_of_ble_eq_true rfl⟩ (Nat.le_of_ble_eq_true rfl) dL_texts_403 ?_
  refine q_iload_n C dL_texts_406 rfl 0 rfl ?_
  refine q_iconst (v := (1 : Int32)) C dL_texts_407 (by decide) ?_
  refine q_iadd_v (v := (8 : Int32)) C dL_texts_408 (by decide) ?_
  refine q_icmp_eq_t C 414 dL_texts_409 (by decide) (by decide) ?_
  refine q_iinc (v := (8 : Int32)) C dL_texts_414 0 rfl (by decide) (by decide) rfl ?_
  refine q_goto (tgt := 394) C dL_texts_417 (by decide) ?_
  refine q_iload_n C dL_texts_394 rfl 0 rfl ?_
  refine q_bipush (v := (60 : Int32)) C dL_texts_395 (by decide) ?_
  refine q_icmp_ge_f C 420 dL_texts_397 (by decide) (by decide) ?_
  refine q_aload_n C dL_texts_400 rfl 1 rfl ?_
  refine q_bipush (v := (49 : Int32)) C dL_texts_401 (by decide) ?_
  refine o_type C ts25 ⟨Nat.le_of_ble_eq_true rfl, Nat.le_of_ble_eq_true rfl⟩ ⟨Nat.le_of_ble_eq_true rfl, Nat.le_of_ble_eq_true rfl⟩ (Nat.le_of_ble_eq_true rfl) dL_texts_403 ?_
  refine q_iload_n C dL_texts_406 rfl 0 rfl ?_
  refine q_iconst (v := (1 : Int32)) C dL_texts_407 (by decide) ?_
  refine q_iadd_v (v := (9 : Int32)) C dL_texts_408 (by decide) ?_
  refine q_icmp_eq_t C 414 dL_texts_409 (by decide) (by decide) ?_
  refine q_iinc (v := (9 : Int32)) C dL_texts_414 0 rfl (by decide) (by decide) rfl ?_
  refine q_goto (tgt := 394) C dL_texts_417 (by decide) ?_
  refine q_iload_n C dL_texts_394 rfl 0 rfl ?_
  refine q_bipush (v := (60 : Int32)) C dL_texts_395 (by decide) ?_
  refine q_icmp_ge_f C 420 dL_texts_397 (by decide) (by decide) ?_
  refine q_aload_n C dL_texts_400 rfl 1 rfl ?_
  refine q_bipush (v := (49 : Int32)) C dL_texts_401 (by decide) ?_
  refine o_type C ts26 ⟨Nat.le_of_ble_eq_true rfl, Nat.le_of_ble_eq_true rfl⟩ ⟨Nat.le_of_ble_eq_true rfl, Nat.le_of_ble_eq_true rfl⟩ (Nat.le_of_ble_eq_true rfl) dL_texts_403 ?_
  refine q_iload_n C dL_texts_406 rfl 0 rfl ?_
  refine q_iconst (v := (1 : Int32)) C dL_texts_407 (by decide) ?_
  refine q_iadd_v (v := (10 : Int32)) C dL_texts_408 (by decide) ?_
  refine q_icmp_eq_t C 414 dL_texts_409 (by decide) (by decide) ?_
  refine q_iinc (v := (10 : Int32)) C dL_texts_414 0 rfl (by decide) (by decide) rfl ?_
  refine q_goto (tgt := 394) C dL_texts_417 (by decide) ?_
  refine q_iload_n C dL_texts_394 rfl 0 rfl ?_
  refine q_bipush (v := (60 : Int32)) C dL_texts_395 (by decide) ?_
  refine q_icmp_ge_f C 420 dL_texts_397 (by decide) (by decide) ?_
  refine q_aload_n C dL_texts_400 rfl 1 rfl ?_
  refine q_bipush (v := (49 : Int32)) C dL_texts_401 (by decide) ?_
  refine o_type C ts27 ⟨Nat.le_of_ble_eq_true rfl, Nat.le_of_ble_eq_true rfl⟩ ⟨Nat.le_of_ble_eq_true rfl, Nat.le_of_ble_eq_true rfl⟩ (Nat.le_of_ble_eq_true rfl) dL_texts_403 ?_
  refine q_iload_n C dL_texts_406 rfl 0 rfl ?_
  refine q_iconst (v := (1 : Int32)) C dL_texts_407 (by decide) ?_
  refine q_iadd_v (v := (11 : Int32)) C dL_texts_408 (by decide) ?_
  refine q_icmp_eq_t C 414 dL_texts_409 (by decide) (by decide) ?_
  exact next
set_option maxHeartbeats 8000000 in
theorem texts_2 {p : Program} {l : Launch} {e : Env} {s : State} {m : MethodId} {args : Array Value} {below : List Frame} {meth : Method} {c : Code} {D : va_G} {cs : Nat → ClassId} {Q : State → Prop} {ad : Nat → Nat} (C : CQ p s m args meth c cL_texts 2 D cs) (next : VX p l e (rmC 7 4335 29954) s m args below meth c 2 D (fun q => s.heap.size ≤ q) 4335 29954 Q (gW cs ad tg33 []) 400 [(1, .int (20 : Int32)), (0, .ref (ad 0))] []) : VX p l e (rmC 7 4335 29954) s m args below meth c 2 D (fun q => s.heap.size ≤ q) 4335 29954 Q (gW cs ad tg24 []) 414 [(1, .int (10 : Int32)), (0, .ref (ad 0))] [] := by
  refine q_iinc (v := (11 : Int32)) C dL_texts_414 0 rfl (by decide) (by decide) rfl ?_
  refine q_goto (tgt := 394) C dL_texts_417 (by decide) ?_
  refine q_iload_n C dL_texts_394 rfl 0 rfl ?_
  refine q_bipush (v := (60 : Int32)) C dL_texts_395 (by decide) ?_
  refine q_icmp_ge_f C 420 dL_texts_397 (by decide) (by decide) ?_
  refine q_aload_n C dL_texts_400 rfl 1 rfl ?_
  refine q_bipush (v := (49 : Int32)) C dL_texts_401 (by decide) ?_
  refine o_type C ts28 ⟨Nat.le_of_ble_eq_true rfl, Nat.le_of_ble_eq_true rfl⟩ ⟨Nat.le_of_ble_eq_true rfl, Nat.le_of_ble_eq_true rfl⟩ (Nat.le_of_ble_eq_true rfl) dL_texts_403 ?_
  refine q_iload_n C dL_texts_406 rfl 0 rfl ?_
  refine q_iconst (v := (1 : Int32)) C dL_texts_407 (by decide) ?_
  refine q_iadd_v (v := (12 : Int32)) C dL_texts_408 (by decide) ?_
  refine q_icmp_eq_t C 414 dL_texts_409 (by decide) (by decide) ?_
  refine q_iinc (v := (12 : Int32)) C dL_texts_414 0 rfl (by decide) (by decide) rfl ?_
  refine q_goto (tgt := 394) C dL_texts_417 (by decide) ?_
  refine q_iload_n C dL_texts_394 rfl 0 rfl ?_
  refine q_bipush (v := (60 : Int32)) C dL_texts_395 (by decide) ?_
  refine q_icmp_ge_f C 420 dL_texts_397 (by decide) (by decide) ?_
  refine q_aload_n C dL_texts_400 rfl 1 rfl ?_
  refine q_bipush (v := (49 : Int32)) C dL_texts_401 (by decide) ?_
  refine o_type C ts29 ⟨Nat.le_of_ble_eq_true rfl, Nat.le_of_ble_eq_true rfl⟩ ⟨Nat.le_of_ble_eq_true rfl, Nat.le_of_ble_eq_true rfl⟩ (Nat.le_of_ble_eq_true rfl) dL_texts_403 ?_
  refine q_iload_n C dL_texts_406 rfl 0 rfl ?_
  refine q_iconst (v := (1 : Int32)) C dL_texts_407 (by decide) ?_
  refine q_iadd_v (v := (13 : Int32)) C dL_texts_408 (by decide) ?_
  refine q_icmp_eq_t C 414 dL_texts_409 (by decide) (by decide) ?_
  refine q_iinc (v := (13 : Int32)) C dL_texts_414 0 rfl (by decide) (by decide) rfl ?_
  refine q_goto (tgt := 394) C dL_texts_417 (by decide) ?_
  refine q_iload_n C dL_texts_394 rfl 0 rfl ?_
  refine q_bipush (v := (60 : Int32)) C dL_texts_395 (by decide) ?_
  refine q_icmp_ge_f C 420 dL_texts_397 (by decide) (by decide) ?_
  refine q_aload_n C dL_texts_400 rfl 1 rfl ?_
  refine q_bipush (v := (49 : Int32)) C dL_texts_401 (by decide) ?_
  refine o_type C ts30 ⟨Nat.le_of_ble_eq_true rfl, Nat.le_of_ble_eq_true rfl⟩ ⟨Nat.le_of_ble_eq_true rfl, Nat.le_of_ble_eq_true rfl⟩ (Nat.le_of_ble_eq_true rfl) dL_texts_403 ?_
  refine q_iload_n C dL_texts_406 rfl 0 rfl ?_
  refine q_iconst (v := (1 : Int32)) C dL_texts_407 (by decide) ?_
  refine q_iadd_v (v := (14 : Int32)) C dL_texts_408 (by decide) ?_
  refine q_icmp_eq_t C 414 dL_texts_409 (by decide) (by decide) ?_
  refine q_iinc (v := (14 : Int32)) C dL_texts_414 0 rfl (by decide) (by decide) rfl ?_
  refine q_goto (tgt := 394) C dL_texts_417 (by decide) ?_
  refine q_iload_n C dL_texts_394 rfl 0 rfl ?_
  refine q_bipush (v := (60 : Int32)) C dL_texts_395 (by decide) ?_
  refine q_icmp_ge_f C 420 dL_texts_397 (by decide) (by decide) ?_
  refine q_aload_n C dL_texts_400 rfl 1 rfl ?_
  refine q_bipush (v := (49 : Int32)) C dL_texts_401 (by decide) ?_
  refine o_type C ts31 ⟨Nat.le_of_ble_eq_true rfl, Nat.le_of_ble_eq_true rfl⟩ ⟨Nat.le_of_ble_eq_true rfl, Nat.le_of_ble_eq_true rfl⟩ (Nat.le_of_ble_eq_true rfl) dL_texts_403 ?_
  refine q_iload_n C dL_texts_406 rfl 0 rfl ?_
  refine q_iconst (v := (1 : Int32)) C dL_texts_407 (by decide) ?_
  refine q_iadd_v (v := (15 : Int32)) C dL_texts_408 (by decide) ?_
  refine q_icmp_eq_t C 414 dL_texts_409 (by decide) (by decide) ?_
  refine q_iinc (v := (15 : Int32)) C dL_texts_414 0 rfl (by decide) (by decide) rfl ?_
  refine q_goto (tgt := 394) C dL_texts_417 (by decide) ?_
  refine q_iload_n C dL_texts_394 rfl 0 rfl ?_
  refine q_bipush (v := (60 : Int32)) C dL_texts_395 (by decide) ?_
  refine q_icmp_ge_f C 420 dL_texts_397 (by decide) (by decide) ?_
  refine q_aload_n C dL_texts_400 rfl 1 rfl ?_
  refine q_bipush (v := (49 : Int32)) C dL_texts_401 (by decide) ?_
  refine o_type C ts32 ⟨Nat.le_of_ble_eq_true rfl, Nat.le_of_ble_eq_true rfl⟩ ⟨Nat.le_of_ble_eq_true rfl, Nat.le_of_ble_eq_true rfl⟩ (Nat.le_of_ble_eq_true rfl) dL_texts_403 ?_
  refine q_iload_n C dL_texts_406 rfl 0 rfl ?_
  refine q_iconst (v := (1 : Int32)) C dL_texts_407 (by decide) ?_
  refine q_iadd_v (v := (16 : Int32)) C dL_texts_408 (by decide) ?_
  refine q_icmp_eq_t C 414 dL_texts_409 (by decide) (by decide) ?_
  refine q_iinc (v := (16 : Int32)) C dL_texts_414 0 rfl (by decide) (by decide) rfl ?_
  refine q_goto (tgt := 394) C dL_texts_417 (by decide) ?_
  refine q_iload_n C dL_texts_394 rfl 0 rfl ?_
  refine q_bipush (v := (60 : Int32)) C dL_texts_395 (by decide) ?_
  refine q_icmp_ge_f C 420 dL_texts_397 (by decide) (by decide) ?_
  refine q_aload_n C dL_texts_400 rfl 1 rfl ?_
  refine q_bipush (v := (49 : Int32)) C dL_texts_401 (by decide) ?_
  refine o_type C ts33 ⟨Nat.le_of_ble_eq_true rfl, Nat.le_of_ble_eq_true rfl⟩ ⟨Nat.le_of_ble_eq_true rfl, Nat.le_of_ble_eq_true rfl⟩ (Nat.le_of_ble_eq_true rfl) dL_texts_403 ?_
  refine q_iload_n C dL_texts_406 rfl 0 rfl ?_
  refine q_iconst (v := (1 : Int32)) C dL_texts_407 (by decide) ?_
  refine q_iadd_v (v := (17 : Int32)) C dL_texts_408 (by decide) ?_
  refine q_icmp_eq_t C 414 dL_texts_409 (by decide) (by decide) ?_
  refine q_iinc (v := (17 : Int32)) C dL_texts_414 0 rfl (by decide) (by decide) rfl ?_
  refine q_goto (tgt := 394) C dL_texts_417 (by decide) ?_
  refine q_iload_n C dL_texts_394 rfl 0 rfl ?_
  refine q_bipush (v := (60 : Int32)) C dL_texts_395 (by decide) ?_
  refine q_icmp_ge_f C 420 dL_texts_397 (by decide) (by decide) ?_
  refine q_aload_n C dL_texts_400 rfl 1 rfl ?_
  refine q_bipush (v := (49 : Int32)) C dL_texts_401 (by decide) ?_
  refine o_type C ts34 ⟨Nat.le_of_ble_eq_true rfl, Nat.le_of_ble_eq_true rfl⟩ ⟨Nat.le_of_ble_eq_true rfl, Nat.le_of_ble_eq_true rfl⟩ (Nat.le_of_ble_eq_true rfl) dL_texts_403 ?_
  refine q_iload_n C dL_texts_406 rfl 0 rfl ?_
  refine q_iconst (v := (1 : Int32)) C dL_texts_407 (by decide) ?_
  refine q_iadd_v (v := (18 : Int32)) C dL_texts_408 (by decide) ?_
  refine q_icmp_eq_t C 414 dL_texts_409 (by decide) (by decide) ?_
  refine q_iinc (v := (18 : Int32)) C dL_texts_414 0 rfl (by decide) (by decide) rfl ?_
  refine q_goto (tgt := 394) C dL_texts_417 (by decide) ?_
  refine q_iload_n C dL_texts_394 rfl 0 rfl ?_
  refine q_bipush (v := (60 : Int32)) C dL_texts_395 (by decide) ?_
  refine q_icmp_ge_f C 420 dL_texts_397 (by decide) (by decide) ?_
  refine q_aload_n C dL_texts_400 rfl 1 rfl ?_
  refine q_bipush (v := (49 : Int32)) C dL_texts_401 (by decide) ?_
  refine o_type C ts35 ⟨Nat.le_of_ble_eq_true rfl, Nat.le_of_ble_eq_true rfl⟩ ⟨Nat.le_of_ble_eq_true rfl, Nat.le_of_ble_eq_true rfl⟩ (Nat.le_of_ble_eq_true rfl) dL_texts_403 ?_
  refine q_iload_n C dL_texts_406 rfl 0 rfl ?_
  refine q_iconst (v := (1 : Int32)) C dL_texts_407 (by decide) ?_
  refine q_iadd_v (v := (19 : Int32)) C dL_texts_408 (by decide) ?_
  refine q_icmp_eq_t C 414 dL_texts_409 (by decide) (by decide) ?_
  refine q_iinc (v := (19 : Int32)) C dL_texts_414 0 rfl (by decide) (by decide) rfl ?_
  refine q_goto (tgt := 394) C dL_texts_417 (by decide) ?_
  refine q_iload_n C dL_texts_394 rfl 0 rfl ?_
  refine q_bipush (v := (60 : Int32)) C dL_texts_395 (by decide) ?_
  refine q_icmp_ge_f C 420 dL_texts_397 (by decide) (by decide) ?_
  refine q_aload_n C dL_texts_400 rfl 1 rfl ?_
  refine q_bipush (v := (49 : Int32)) C dL_texts_401 (by decide) ?_
  refine o_type C ts36 ⟨Nat.le_of_ble_eq_true rfl, Nat.le_of_ble_eq_true rfl⟩ ⟨Nat.le_of_ble_eq_true rfl, Nat.le_of_ble_eq_true rfl⟩ (Nat.le_of_ble_eq_true rfl) dL_texts_403 ?_
  refine q_iload_n C dL_texts_406 rfl 0 rfl ?_
  refine q_iconst (v := (1 : Int32)) C dL_texts_407 (by decide) ?_
  refine q_iadd_v (v := (20 : Int32)) C dL_texts_408 (by decide) ?_
  refine q_icmp_eq_t C 414 dL_texts_409 (by decide) (by decide) ?_
  refine q_iinc (v := (20 : Int32)) C dL_texts_414 0 rfl (by decide) (by decide) rfl ?_
  refine q_goto (tgt := 394) C dL_texts_417 (by decide) ?_
  refine q_iload_n C dL_texts_394 rfl 0 rfl ?_
  refine q_bipush (v := (60 : Int32)) C dL_texts_395 (by decide) ?_
  refine q_icmp_ge_f C 420 dL_texts_397 (by decide) (by decide) ?_
  exact next
set_option maxHeartbeats 8000000 in
theorem texts_3 {p : Program} {l : Launch} {e : Env} {s : State} {m : MethodId} {args : Array Value} {below : List Frame} {meth : Method} {c : Code} {D : va_G} {cs : Nat → ClassId} {Q : State → Prop} {ad : Nat → Nat} (C : CQ p s m args meth c cL_texts 2 D cs) (next : VX p l e (rmC 7 4335 29954) s m args below meth c 2 D (fun q => s.heap.size ≤ q) 4335 29954 Q (gW cs ad tg43 []) 414 [(1, .int (29 : Int32)), (0, .ref (ad 0))] []) : VX p l e (rmC 7 4335 29954) s m args below meth c 2 D (fun q => s.heap.size ≤ q) 4335 29954 Q (gW cs ad tg33 []) 400 [(1, .int (20 : Int32)), (0, .ref (ad 0))] [] := by
  refine q_aload_n C dL_texts_400 rfl 1 rfl ?_
  refine q_bipush (v := (49 : Int32)) C dL_texts_401 (by decide) ?_
  refine o_type C ts37 ⟨Nat.le_of_ble_eq_true rfl, Nat.le_of_ble_eq_true rfl⟩ ⟨Nat.le_of_ble_eq_true rfl, Nat.le_of_ble_eq_true rfl⟩ (Nat.le_of_ble_eq_true rfl) dL_texts_403 ?_
  refine q_iload_n C dL_texts_406 rfl 0 rfl ?_
  refine q_iconst (v := (1 : Int32)) C dL_texts_407 (by decide) ?_
  refine q_iadd_v (v := (21 : Int32)) C dL_texts_408 (by decide) ?_
  refine q_icmp_eq_t C 414 dL_texts_409 (by decide) (by decide) ?_
  refine q_iinc (v := (21 : Int32)) C dL_texts_414 0 rfl (by decide) (by decide) rfl ?_
  refine q_goto (tgt := 394) C dL_texts_417 (by decide) ?_
  refine q_iload_n C dL_texts_394 rfl 0 rfl ?_
  refine q_bipush (v := (60 : Int32)) C dL_texts_395 (by decide) ?_
  refine q_icmp_ge_f C 420 dL_texts_397 (by decide) (by decide) ?_
  refine q_aload_n C dL_texts_400 rfl 1 rfl ?_
  refine q_bipush (v := (49 : Int32)) C dL_texts_401 (by decide) ?_
  refine o_type C ts38 ⟨Nat.le_of_ble_eq_true rfl, Nat.le_of_ble_eq_true rfl⟩ ⟨Nat.le_of_ble_eq_true rfl, Nat.le_of_ble_eq_true rfl⟩ (Nat.le_of_ble_eq_true rfl) dL_texts_403 ?_
  refine q_iload_n C dL_texts_406 rfl 0 rfl ?_
  refine q_iconst (v := (1 : Int32)) C dL_texts_407 (by decide) ?_
  refine q_iadd_v (v := (22 : Int32)) C dL_texts_408 (by decide) ?_
  refine q_icmp_eq_t C 414 dL_texts_409 (by decide) (by decide) ?_
  refine q_iinc (v := (22 : Int32)) C dL_texts_414 0 rfl (by decide) (by decide) rfl ?_
  refine q_goto (tgt := 394) C dL_texts_417 (by decide) ?_
  refine q_iload_n C dL_texts_394 rfl 0 rfl ?_
  refine q_bipush (v := (60 : Int32)) C dL_texts_395 (by decide) ?_
  refine q_icmp_ge_f C 420 dL_texts_397 (by decide) (by decide) ?_
  refine q_aload_n C dL_texts_400 rfl 1 rfl ?_
  refine q_bipush (v := (49 : Int32)) C dL_texts_401 (by decide) ?_
  refine o_type C ts39 ⟨Nat.le_of_ble_eq_true rfl, Nat.le_of_ble_eq_true rfl⟩ ⟨Nat.le_of_ble_eq_true rfl, Nat.le_of_ble_eq_true rfl⟩ (Nat.le_of_ble_eq_true rfl) dL_texts_403 ?_
  refine q_iload_n C dL_texts_406 rfl 0 rfl ?_
  refine q_iconst (v := (1 : Int32)) C dL_texts_407 (by decide) ?_
  refine q_iadd_v (v := (23 : Int32)) C dL_texts_408 (by decide) ?_
  refine q_icmp_eq_t C 414 dL_texts_409 (by decide) (by decide) ?_
  refine q_iinc (v := (23 : Int32)) C dL_texts_414 0 rfl (by decide) (by decide) rfl ?_
  refine q_goto (tgt := 394) C dL_texts_417 (by decide) ?_
  refine q_iload_n C dL_texts_394 rfl 0 rfl ?_
  refine q_bipush (v := (60 : Int32)) C dL_texts_395 (by decide) ?_
  refine q_icmp_ge_f C 420 dL_texts_397 (by decide) (by decide) ?_
  refine q_aload_n C dL_texts_400 rfl 1 rfl ?_
  refine q_bipush (v := (49 : Int32)) C dL_texts_401 (by decide) ?_
  refine o_type C ts40 ⟨Nat.le_of_ble_eq_true rfl, Nat.le_of_ble_eq_true rfl⟩ ⟨Nat.le_of_ble_eq_true rfl, Nat.le_of_ble_eq_true rfl⟩ (Nat.le_of_ble_eq_true rfl) dL_texts_403 ?_
  refine q_iload_n C dL_texts_406 rfl 0 rfl ?_
  refine q_iconst (v := (1 : Int32)) C dL_texts_407 (by decide) ?_
  refine q_iadd_v (v := (24 : Int32)) C dL_texts_408 (by decide) ?_
  refine q_icmp_eq_t C 414 dL_texts_409 (by decide) (by decide) ?_
  refine q_iinc (v := (24 : Int32)) C dL_texts_414 0 rfl (by decide) (by decide) rfl ?_
  refine q_goto (tgt := 394) C dL_texts_417 (by decide) ?_
  refine q_iload_n C dL_texts_394 rfl 0 rfl ?_
  refine q_bipush (v := (60 : Int32)) C dL_texts_395 (by decide) ?_
  refine q_icmp_ge_f C 420 dL_texts_397 (by decide) (by decide) ?_
  refine q_aload_n C dL_texts_400 rfl 1 rfl ?_
  refine q_bipush (v := (49 : Int32)) C dL_texts_401 (by decide) ?_
  refine o_type C ts41 ⟨Nat.le_of_ble_eq_true rfl, Nat.le_of_ble_eq_true rfl⟩ ⟨Nat.le_of_ble_eq_true rfl, Nat.le_of_ble_eq_true rfl⟩ (Nat.le_of_ble_eq_true rfl) dL_texts_403 ?_
  refine q_iload_n C dL_texts_406 rfl 0 rfl ?_
  refine q_iconst (v := (1 : Int32)) C dL_texts_407 (by decide) ?_
  refine q_iadd_v (v := (25 : Int32)) C dL_texts_408 (by decide) ?_
  refine q_icmp_eq_t C 414 dL_texts_409 (by decide) (by decide) ?_
  refine q_iinc (v := (25 : Int32)) C dL_texts_414 0 rfl (by decide) (by decide) rfl ?_
  refine q_goto (tgt := 394) C dL_texts_417 (by decide) ?_
  refine q_iload_n C dL_texts_394 rfl 0 rfl ?_
  refine q_bipush (v := (60 : Int32)) C dL_texts_395 (by decide) ?_
  refine q_icmp_ge_f C 420 dL_texts_397 (by decide) (by decide) ?_
  refine q_aload_n C dL_texts_400 rfl 1 rfl ?_
  refine q_bipush (v := (49 : Int32)) C dL_texts_401 (by decide) ?_
  refine o_type C ts42 ⟨Nat.le_of_ble_eq_true rfl, Nat.le_of_ble_eq_true rfl⟩ ⟨Nat.le_of_ble_eq_true rfl, Nat.le_of_ble_eq_true rfl⟩ (Nat.le_of_ble_eq_true rfl) dL_texts_403 ?_
  refine q_iload_n C dL_texts_406 rfl 0 rfl ?_
  refine q_iconst (v := (1 : Int32)) C dL_texts_407 (by decide) ?_
  refine q_iadd_v (v := (26 : Int32)) C dL_texts_408 (by decide) ?_
  refine q_icmp_eq_t C 414 dL_texts_409 (by decide) (by decide) ?_
  refine q_iinc (v := (26 : Int32)) C dL_texts_414 0 rfl (by decide) (by decide) rfl ?_
  refine q_goto (tgt := 394) C dL_texts_417 (by decide) ?_
  refine q_iload_n C dL_texts_394 rfl 0 rfl ?_
  refine q_bipush (v := (60 : Int32)) C dL_texts_395 (by decide) ?_
  refine q_icmp_ge_f C 420 dL_texts_397 (by decide) (by decide) ?_
  refine q_aload_n C dL_texts_400 rfl 1 rfl ?_
  refine q_bipush (v := (49 : Int32)) C dL_texts_401 (by decide) ?_
  refine o_type C ts43 ⟨Nat.le_of_ble_eq_true rfl, Nat.le_of_ble_eq_true rfl⟩ ⟨Nat.le_of_ble_eq_true rfl, Nat.le_of_ble_eq_true rfl⟩ (Nat.le_of_ble_eq_true rfl) dL_texts_403 ?_
  refine q_iload_n C dL_texts_406 rfl 0 rfl ?_
  refine q_iconst (v := (1 : Int32)) C dL_texts_407 (by decide) ?_
  refine q_iadd_v (v := (27 : Int32)) C dL_texts_408 (by decide) ?_
  refine q_icmp_eq_t C 414 dL_texts_409 (by decide) (by decide) ?_
  refine q_iinc (v := (27 : Int32)) C dL_texts_414 0 rfl (by decide) (by decide) rfl ?_
  refine q_goto (tgt := 394) C dL_texts_417 (by decide) ?_
  refine q_iload_n C dL_texts_394 rfl 0 rfl ?_
  refine q_bipush (v := (60 : Int32)) C dL_texts_395 (by decide) ?_
  refine q_icmp_ge_f C 420 dL_texts_397 (by decide) (by decide) ?_
  refine q_aload_n C dL_texts_400 rfl 1 rfl ?_
  refine q_bipush (v := (49 : Int32)) C dL_texts_401 (by decide) ?_
  refine o_type C ts44 ⟨Nat.le_of_ble_eq_true rfl, Nat.le_of_ble_eq_true rfl⟩ ⟨Nat.le_of_ble_eq_true rfl, Nat.le_of_ble_eq_true rfl⟩ (Nat.le_of_ble_eq_true rfl) dL_texts_403 ?_
  refine q_iload_n C dL_texts_406 rfl 0 rfl ?_
  refine q_iconst (v := (1 : Int32)) C dL_texts_407 (by decide) ?_
  refine q_iadd_v (v := (28 : Int32)) C dL_texts_408 (by decide) ?_
  refine q_icmp_eq_t C 414 dL_texts_409 (by decide) (by decide) ?_
  refine q_iinc (v := (28 : Int32)) C dL_texts_414 0 rfl (by decide) (by decide) rfl ?_
  refine q_goto (tgt := 394) C dL_texts_417 (by decide) ?_
  refine q_iload_n C dL_texts_394 rfl 0 rfl ?_
  refine q_bipush (v := (60 : Int32)) C dL_texts_395 (by decide) ?_
  refine q_icmp_ge_f C 420 dL_texts_397 (by decide) (by decide) ?_
  refine q_aload_n C dL_texts_400 rfl 1 rfl ?_
  refine q_bipush (v := (49 : Int32)) C dL_texts_401 (by decide) ?_
  refine o_type C ts45 ⟨Nat.le_of_ble_eq_true rfl, Nat.le_of_ble_eq_true rfl⟩ ⟨Nat.le_of_ble_eq_true rfl, Nat.le_of_ble_eq_true rfl⟩ (Nat.le_of_ble_eq_true rfl) dL_texts_403 ?_
  refine q_iload_n C dL_texts_406 rfl 0 rfl ?_
  refine q_iconst (v := (1 : Int32)) C dL_texts_407 (by decide) ?_
  refine q_iadd_v (v := (29 : Int32)) C dL_texts_408 (by decide) ?_
  refine q_icmp_eq_t C 414 dL_texts_409 (by decide) (by decide) ?_
  refine q_iinc (v := (29 : Int32)) C dL_texts_414 0 rfl (by decide) (by decide) rfl ?_
  refine q_goto (tgt := 394) C dL_texts_417 (by decide) ?_
  refine q_iload_n C dL_texts_394 rfl 0 rfl ?_
  refine q_bipush (v := (60 : Int32)) C dL_texts_395 (by decide) ?_
  refine q_icmp_ge_f C 420 dL_texts_397 (by decide) (by decide) ?_
  refine q_aload_n C dL_texts_400 rfl 1 rfl ?_
  refine q_bipush (v := (49 : Int32)) C dL_texts_401 (by decide) ?_
  refine o_type C ts46 ⟨Nat.le_of_ble_eq_true rfl, Nat.le_of_ble_eq_true rfl⟩ ⟨Nat.le_of_ble_eq_true rfl, Nat.le_of_ble_eq_true rfl⟩ (Nat.le_of_ble_eq_true rfl) dL_texts_403 ?_
  refine q_iload_n C dL_texts_406 rfl 0 rfl ?_
  refine q_iconst (v := (1 : Int32)) C dL_texts_407 (by decide) ?_
  refine q_iadd_v (v := (30 : Int32)) C dL_texts_408 (by decide) ?_
  refine q_icmp_eq_t C 414 dL_texts_409 (by decide) (by decide) ?_
  exact next
