/-! THE LAW'S LOOP (written by wip/p28/tools/mk_l.py) -/
abbrev VL (p : Program) (l : Launch) (e : Env) (s : State) (m : MethodId) (b : Nat) (below : List Frame) (meth : Method) (c : Code) (D : va_G) (Q : State → Prop) (P : va_W → Prop) (pc : Nat) (lv : List (Nat × Value)) (st : List Value) : Prop := VX p l e room_1 s m #[Value.ref b] below meth c 11 D (fun q => s.heap.size ≤ q) 664266 7109451 Q P pc lv st
set_option maxHeartbeats 2000000 in
theorem law_tail {p : Program} {l : Launch} {e : Env} {s : State} {m : MethodId} {below : List Frame} {meth : Method} {c : Code} {D : va_G} {cs : Nat → ClassId} {Q : State → Prop} {ad : Nat → Nat} {aw b : Nat} (C : CQ p s m #[Value.ref b] meth c cL_law 11 D cs) {g g' : Gh} {wv : Nat → Int64} {a i : Nat} {f h und kd x r : Int32} (G : GO g) (ha : a < 64) (hwv : wv a = seenV g.1) (hu : nI (gK g) = und) (hneg : r < 0 → g' = g) (n1 : r < 0 → VL p l e s m b below meth c D Q (gW cs ad g (wC cs aw wv)) 32 [(4, .int (nI (i + 1))), (3, .int (nI a)), (2, .ref aw), (1, .ref (ad 0)), (0, .ref b)] []) (n2 : ¬ r < 0 → VL p l e s m b below meth c D Q (gW cs ad g' (wC cs aw wv)) 32 [(4, .int (nI (i + 1))), (3, .int (nI (a + 1))), (2, .ref aw), (1, .ref (ad 0)), (0, .ref b)] []) : VL p l e s m b below meth c D Q (gW cs ad g' (wC cs aw wv)) 331 [(9, .int f), (8, .int h), (7, .int und), (6, .int kd), (5, .int x), (4, .int (nI i)), (3, .int (nI a)), (2, .ref aw), (1, .ref (ad 0)), (0, .ref b)] [.int r] := by
  by_cases hr : r < 0
  · have e1 : g = g' := (hneg hr).symm
    subst e1
    have hr0 : ¬ ((0 : Int32) ≤ r) := fun q => absurd hr (Int32.not_lt.mpr q)
    refine q_istore C dL_law_331 (by decide) rfl ?_
    refine q_iload C dL_law_333 0 rfl ?_
    refine q_if_ge_f C 362 dL_law_335 (by decide) hr0 ?_
    refine q_aload_n C dL_law_338 rfl 9 rfl ?_
    refine q_bipush (v := (11 : Int32)) C dL_law_339 (by decide) ?_
    refine o_count C f_count_11 ⟨Nat.le_of_ble_eq_true rfl, Nat.le_of_ble_eq_true rfl⟩ ⟨Nat.le_of_ble_eq_true rfl, Nat.le_of_ble_eq_true rfl⟩ (Nat.le_of_ble_eq_true rfl) dL_law_341 ?_
    refine q_iload C dL_law_344 3 rfl ?_
    refine q_icmp_ne_f C 360 dL_law_346 (by decide) hu ?_
    refine q_aload_n C dL_law_349 rfl 9 rfl ?_
    refine q_callSL (n := 1) (As := [.ref (ad 0)]) (maxL := 4) (ret := some .long) C (c_seen G) qG_Lseen rfl (by decide +kernel) ⟨Nat.le_of_ble_eq_true rfl, Nat.le_of_ble_eq_true rfl⟩ ⟨Nat.le_of_ble_eq_true rfl, Nat.le_of_ble_eq_true rfl⟩ rfl rfl rfl (Nat.le_of_ble_eq_true rfl) dL_law_350 ?_
    refine q_aload_n C dL_law_353 rfl 8 rfl ?_
    refine q_iload_n C dL_law_354 rfl 7 rfl ?_
    refine q_lald (v := (seenV g.1)) C ha hwv dL_law_355 ?_
    refine q_lcmp_eq C dL_law_356 ?_
    refine q_if_eq_t C 362 dL_law_357 (by decide) (by decide) ?_
    refine q_iload_n C dL_law_362 rfl 7 rfl ?_
    refine q_iload C dL_law_363 0 rfl ?_
    refine q_if_ge_f C 372 dL_law_365 (by decide) hr0 ?_
    refine q_iconst (v := (0 : Int32)) C dL_law_368 (by decide) ?_
    refine q_goto (tgt := 373) C dL_law_369 (by decide) ?_
    refine q_iadd_v (v := (nI a)) C dL_law_373 (Int32.add_zero _) ?_
    refine q_istore_n C dL_law_374 rfl (by decide) rfl ?_
    refine q_iinc (v := (nI (i + 1))) C dL_law_375 7 rfl (nI_1 i) (by decide) rfl ?_
    refine q_goto (tgt := 32) C dL_law_378 (by decide) ?_
    exact q_weak [0, 1, 8, 9, 10] rfl (n1 hr)
  · have hr0 : (0 : Int32) ≤ r := Int32.not_lt.mp hr
    refine q_istore C dL_law_331 (by decide) rfl ?_
    refine q_iload C dL_law_333 0 rfl ?_
    refine q_if_ge_t C 362 dL_law_335 (by decide) hr0 ?_
    refine q_iload_n C dL_law_362 rfl 7 rfl ?_
    refine q_iload C dL_law_363 0 rfl ?_
    refine q_if_ge_t C 372 dL_law_365 (by decide) hr0 ?_
    refine q_iconst (v := (1 : Int32)) C dL_law_372 (by decide) ?_
    refine q_iadd_v (v := (nI (a + 1))) C dL_law_373 (nI_1 a) ?_
    refine q_istore_n C dL_law_374 rfl (by decide) rfl ?_
    refine q_iinc (v := (nI (i + 1))) C dL_law_375 7 rfl (nI_1 i) (by decide) rfl ?_
    refine q_goto (tgt := 32) C dL_law_378 (by decide) ?_
    exact q_weak [0, 1, 8, 9, 10] rfl (n2 hr)

set_option maxHeartbeats 4000000 in
theorem law_op {p : Program} {l : Launch} {e : Env} {s : State} {m : MethodId} {below : List Frame} {meth : Method} {c : Code} {D : va_G} {cs : Nat → ClassId} {Q : State → Prop} {ad : Nat → Nat} {aw b : Nat} (C : CQ p s m #[Value.ref b] meth c cL_law 11 D cs) (hXL : XL s) {g : Gh} {wv : Nat → Int64} {a i : Nat} {f h und kd x : Int32} (G : GO g) (next : ∀ (r : Int32) (g' : Gh), Act g (r, g') → (kd = 0 → nf g.1 < 12 → (0 : Int32) ≤ r ∧ nf g'.1 = nf g.1 + 1 ∧ nh g'.1 = nh g.1) → (kd = 1 → nh g.1 < 12 → (0 : Int32) ≤ r ∧ nh g'.1 = nh g.1 + 1 ∧ nf g'.1 = nf g.1) → VL p l e s m b below meth c D Q (gW cs ad g' (wC cs aw wv)) 331 [(9, .int f), (8, .int h), (7, .int und), (6, .int kd), (5, .int x), (4, .int (nI i)), (3, .int (nI a)), (2, .ref aw), (1, .ref (ad 0)), (0, .ref b)] [.int r]) : VL p l e s m b below meth c D Q (gW cs ad g (wC cs aw wv)) 115 [(9, .int f), (8, .int h), (7, .int und), (6, .int kd), (5, .int x), (4, .int (nI i)), (3, .int (nI a)), (2, .ref aw), (1, .ref (ad 0)), (0, .ref b)] [] := by
  refine q_iload C dL_law_115 3 rfl ?_
  refine q_if_ne C (tgt := 151) dL_law_117 (by decide) (fun k0 => ?_) (fun k0 => ?_)
  · have p1 := pN_lt (v := x >>> ((10 : Int32) &&& 31)) (m := 4) (by decide)
    have p2 := pN_lt (v := x >>> ((12 : Int32) &&& 31)) (m := 300) (by decide)
    refine q_aload_n C dL_law_120 rfl 8 rfl ?_
    refine q_iconst (v := (1 : Int32)) C dL_law_121 (by decide) ?_
    refine q_iload C dL_law_122 4 rfl ?_
    refine q_bipush (v := (10 : Int32)) C dL_law_124 (by decide) ?_
    refine q_ishr C dL_law_126 ?_
    refine q_iconst (v := (4 : Int32)) C dL_law_127 (by decide) ?_
    refine q_callO (n := 2) (av := [.int (x >>> ((10 : Int32) &&& 31)), .int (4 : Int32)]) (maxL := 2) (ret := some .int) C hXL (c_part (m := 4) rfl (by decide) (by decide)) qG_Lpart rfl (by decide +kernel) ⟨Nat.le_of_ble_eq_true rfl, Nat.le_of_ble_eq_true rfl⟩ ⟨Nat.le_of_ble_eq_true rfl, Nat.le_of_ble_eq_true rfl⟩ rfl rfl (Nat.le_of_ble_eq_true rfl) dL_law_128 ?_
    refine q_iadd_v (v := (nI (1 + pN (x >>> ((10 : Int32) &&& 31)) 4))) C dL_law_131 (nI_add 1 _) ?_
    refine q_iconst (v := (1 : Int32)) C dL_law_132 (by decide) ?_
    refine q_iload C dL_law_133 4 rfl ?_
    refine q_bipush (v := (12 : Int32)) C dL_law_135 (by decide) ?_
    refine q_ishr C dL_law_137 ?_
    refine q_sipush (v := (300 : Int32)) C dL_law_138 (by decide) ?_
    refine q_callO (n := 2) (av := [.int (x >>> ((12 : Int32) &&& 31)), .int (300 : Int32)]) (maxL := 2) (ret := some .int) C hXL (c_part (m := 300) rfl (by decide) (by decide)) qG_Lpart rfl (by decide +kernel) ⟨Nat.le_of_ble_eq_true rfl, Nat.le_of_ble_eq_true rfl⟩ ⟨Nat.le_of_ble_eq_true rfl, Nat.le_of_ble_eq_true rfl⟩ rfl rfl (Nat.le_of_ble_eq_true rfl) dL_law_141 ?_
    refine q_iadd_v (v := (nI (1 + pN (x >>> ((12 : Int32) &&& 31)) 300))) C dL_law_144 (nI_add 1 _) ?_
    refine o_addFlat C (stG_of (t := (tAddFlat g (nI (1 + pN (x >>> ((10 : Int32) &&& 31)) 4)) (nI (1 + pN (x >>> ((12 : Int32) &&& 31)) 300)))) (g' := (tAddFlat g (nI (1 + pN (x >>> ((10 : Int32) &&& 31)) 4)) (nI (1 + pN (x >>> ((12 : Int32) &&& 31)) 300))).2) (r := (tAddFlat g (nI (1 + pN (x >>> ((10 : Int32) &&& 31)) 4)) (nI (1 + pN (x >>> ((12 : Int32) &&& 31)) 300))).1) (fun M G C => st_addFlat G C (nI (1 + pN (x >>> ((10 : Int32) &&& 31)) 4)) (nI (1 + pN (x >>> ((12 : Int32) &&& 31)) 300))) rfl) ⟨Nat.le_of_ble_eq_true rfl, Nat.le_of_ble_eq_true rfl⟩ ⟨Nat.le_of_ble_eq_true rfl, Nat.le_of_ble_eq_true rfl⟩ (Nat.le_of_ble_eq_true rfl) dL_law_145 ?_
    refine q_goto (tgt := 331) C dL_law_148 (by decide) ?_
    exact next (tAddFlat g (nI (1 + pN (x >>> ((10 : Int32) &&& 31)) 4)) (nI (1 + pN (x >>> ((12 : Int32) &&& 31)) 300))).1 (tAddFlat g (nI (1 + pN (x >>> ((10 : Int32) &&& 31)) 4)) (nI (1 + pN (x >>> ((12 : Int32) &&& 31)) 300))).2 (a_addFlat G (nI (1 + pN (x >>> ((10 : Int32) &&& 31)) 4)) (nI (1 + pN (x >>> ((12 : Int32) &&& 31)) 300))) (fun _ q => af_ok G (by omega) (by omega) (by omega) (by omega) q) (fun q => absurd (k0.symm.trans q) (by decide))
  refine q_iload C dL_law_151 3 rfl ?_
  refine q_iconst (v := (1 : Int32)) C dL_law_153 (by decide) ?_
  refine q_icmp_ne C (tgt := 191) dL_law_154 (by decide) (fun k1 => ?_) (fun k1 => ?_)
  · have p1 := pN_lt (v := x >>> ((10 : Int32) &&& 31)) (m := 6) (by decide)
    have p2 := pN_lt (v := x >>> ((12 : Int32) &&& 31)) (m := 900) (by decide)
    refine q_aload_n C dL_law_157 rfl 8 rfl ?_
    refine q_iconst (v := (1 : Int32)) C dL_law_158 (by decide) ?_
    refine q_iload C dL_law_159 4 rfl ?_
    refine q_bipush (v := (10 : Int32)) C dL_law_161 (by decide) ?_
    refine q_ishr C dL_law_163 ?_
    refine q_bipush (v := (6 : Int32)) C dL_law_164 (by decide) ?_
    refine q_callO (n := 2) (av := [.int (x >>> ((10 : Int32) &&& 31)), .int (6 : Int32)]) (maxL := 2) (ret := some .int) C hXL (c_part (m := 6) rfl (by decide) (by decide)) qG_Lpart rfl (by decide +kernel) ⟨Nat.le_of_ble_eq_true rfl, Nat.le_of_ble_eq_true rfl⟩ ⟨Nat.le_of_ble_eq_true rfl, Nat.le_of_ble_eq_true rfl⟩ rfl rfl (Nat.le_of_ble_eq_true rfl) dL_law_166 ?_
    refine q_iadd_v (v := (nI (1 + pN (x >>> ((10 : Int32) &&& 31)) 6))) C dL_law_169 (nI_add 1 _) ?_
    refine q_sipush (v := (400 : Int32)) C dL_law_170 (by decide) ?_
    refine q_iload C dL_law_173 4 rfl ?_
    refine q_bipush (v := (12 : Int32)) C dL_law_175 (by decide) ?_
    refine q_ishr C dL_law_177 ?_
    refine q_sipush (v := (900 : Int32)) C dL_law_178 (by decide) ?_
    refine q_callO (n := 2) (av := [.int (x >>> ((12 : Int32) &&& 31)), .int (900 : Int32)]) (maxL := 2) (ret := some .int) C hXL (c_part (m := 900) rfl (by decide) (by decide)) qG_Lpart rfl (by decide +kernel) ⟨Nat.le_of_ble_eq_true rfl, Nat.le_of_ble_eq_true rfl⟩ ⟨Nat.le_of_ble_eq_true rfl, Nat.le_of_ble_eq_true rfl⟩ rfl rfl (Nat.le_of_ble_eq_true rfl) dL_law_181 ?_
    refine q_iadd_v (v := (nI (400 + pN (x >>> ((12 : Int32) &&& 31)) 900))) C dL_law_184 (nI_add 400 _) ?_
    refine o_addHousehold C (stG_of (t := (tAddHouse g (nI (1 + pN (x >>> ((10 : Int32) &&& 31)) 6)) (nI (400 + pN (x >>> ((12 : Int32) &&& 31)) 900)))) (g' := (tAddHouse g (nI (1 + pN (x >>> ((10 : Int32) &&& 31)) 6)) (nI (400 + pN (x >>> ((12 : Int32) &&& 31)) 900))).2) (r := (tAddHouse g (nI (1 + pN (x >>> ((10 : Int32) &&& 31)) 6)) (nI (400 + pN (x >>> ((12 : Int32) &&& 31)) 900))).1) (fun M G C => st_addHousehold G C (nI (1 + pN (x >>> ((10 : Int32) &&& 31)) 6)) (nI (400 + pN (x >>> ((12 : Int32) &&& 31)) 900))) rfl) ⟨Nat.le_of_ble_eq_true rfl, Nat.le_of_ble_eq_true rfl⟩ ⟨Nat.le_of_ble_eq_true rfl, Nat.le_of_ble_eq_true rfl⟩ (Nat.le_of_ble_eq_true rfl) dL_law_185 ?_
    refine q_goto (tgt := 331) C dL_law_188 (by decide) ?_
    exact next (tAddHouse g (nI (1 + pN (x >>> ((10 : Int32) &&& 31)) 6)) (nI (400 + pN (x >>> ((12 : Int32) &&& 31)) 900))).1 (tAddHouse g (nI (1 + pN (x >>> ((10 : Int32) &&& 31)) 6)) (nI (400 + pN (x >>> ((12 : Int32) &&& 31)) 900))).2 (a_addHouse G (nI (1 + pN (x >>> ((10 : Int32) &&& 31)) 6)) (nI (400 + pN (x >>> ((12 : Int32) &&& 31)) 900))) (fun q => absurd q k0) (fun _ q => ah_ok G (by omega) (by omega) (by omega) (by omega) q)
  refine q_iload C dL_law_191 3 rfl ?_
  refine q_iconst (v := (5 : Int32)) C dL_law_193 (by decide) ?_
  refine q_icmp_ge C (tgt := 208) dL_law_194 (by decide) (fun _ => ?_) (fun _ => ?_)
  rotate_left
  · refine q_aload_n C dL_law_197 rfl 8 rfl ?_
    refine q_iload C dL_law_198 1 rfl ?_
    refine q_iload C dL_law_200 0 rfl ?_
    refine o_wish C (stG_of (t := (tWish g h f)) (g' := (tWish g h f).2) (r := (tWish g h f).1) (fun M G C => st_wish G C h f) rfl) ⟨Nat.le_of_ble_eq_true rfl, Nat.le_of_ble_eq_true rfl⟩ ⟨Nat.le_of_ble_eq_true rfl, Nat.le_of_ble_eq_true rfl⟩ (Nat.le_of_ble_eq_true rfl) dL_law_202 ?_
    refine q_goto (tgt := 331) C dL_law_205 (by decide) ?_
    exact next (tWish g h f).1 (tWish g h f).2 (a_wish G h f) (fun q => absurd q k0) (fun q => absurd q k1)
  refine q_iload C dL_law_208 3 rfl ?_
  refine q_iconst (v := (5 : Int32)) C dL_law_210 (by decide) ?_
  refine q_icmp_ne C (tgt := 235) dL_law_211 (by decide) (fun _ => ?_) (fun _ => ?_)
  · refine q_aload_n C dL_law_214 rfl 8 rfl ?_
    refine q_iload C dL_law_215 1 rfl ?_
    refine q_iconst (v := (1 : Int32)) C dL_law_217 (by decide) ?_
    refine q_iload C dL_law_218 4 rfl ?_
    refine q_bipush (v := (7 : Int32)) C dL_law_220 (by decide) ?_
    refine q_ishr C dL_law_222 ?_
    refine q_bipush (v := (99 : Int32)) C dL_law_223 (by decide) ?_
    refine q_callO (n := 2) (av := [.int (x >>> ((7 : Int32) &&& 31)), .int (99 : Int32)]) (maxL := 2) (ret := some .int) C hXL (c_part (m := 99) rfl (by decide) (by decide)) qG_Lpart rfl (by decide +kernel) ⟨Nat.le_of_ble_eq_true rfl, Nat.le_of_ble_eq_true rfl⟩ ⟨Nat.le_of_ble_eq_true rfl, Nat.le_of_ble_eq_true rfl⟩ rfl rfl (Nat.le_of_ble_eq_true rfl) dL_law_225 ?_
    refine q_iadd_v (v := ((1 : Int32) + nI (pN (x >>> ((7 : Int32) &&& 31)) 99))) C dL_law_228 rfl ?_
    refine o_draw C (stG_of (t := (tDraw g h ((1 : Int32) + nI (pN (x >>> ((7 : Int32) &&& 31)) 99)))) (g' := (tDraw g h ((1 : Int32) + nI (pN (x >>> ((7 : Int32) &&& 31)) 99))).2) (r := (tDraw g h ((1 : Int32) + nI (pN (x >>> ((7 : Int32) &&& 31)) 99))).1) (fun M G C => st_draw G C h ((1 : Int32) + nI (pN (x >>> ((7 : Int32) &&& 31)) 99))) rfl) ⟨Nat.le_of_ble_eq_true rfl, Nat.le_of_ble_eq_true rfl⟩ ⟨Nat.le_of_ble_eq_true rfl, Nat.le_of_ble_eq_true rfl⟩ (Nat.le_of_ble_eq_true rfl) dL_law_229 ?_
    refine q_goto (tgt := 331) C dL_law_232 (by decide) ?_
    exact next (tDraw g h ((1 : Int32) + nI (pN (x >>> ((7 : Int32) &&& 31)) 99))).1 (tDraw g h ((1 : Int32) + nI (pN (x >>> ((7 : Int32) &&& 31)) 99))).2 (a_draw G h ((1 : Int32) + nI (pN (x >>> ((7 : Int32) &&& 31)) 99))) (fun q => absurd q k0) (fun q => absurd q k1)
  refine q_iload C dL_law_235 3 rfl ?_
  refine q_bipush (v := (8 : Int32)) C dL_law_237 (by decide) ?_
  refine q_icmp_ge C (tgt := 249) dL_law_239 (by decide) (fun _ => ?_) (fun _ => ?_)
  rotate_left
  · refine q_aload_n C dL_law_242 rfl 8 rfl ?_
    refine o_round C (stG_of (t := (tRound g)) (g' := (tRound g).2) (r := (tRound g).1) (fun M G C => st_round G C) rfl) ⟨Nat.le_of_ble_eq_true rfl, Nat.le_of_ble_eq_true rfl⟩ ⟨Nat.le_of_ble_eq_true rfl, Nat.le_of_ble_eq_true rfl⟩ (Nat.le_of_ble_eq_true rfl) dL_law_243 ?_
    refine q_goto (tgt := 331) C dL_law_246 (by decide) ?_
    exact next (tRound g).1 (tRound g).2 (a_round G) (fun q => absurd q k0) (fun q => absurd q k1)
  refine q_iload C dL_law_249 3 rfl ?_
  refine q_bipush (v := (8 : Int32)) C dL_law_251 (by decide) ?_
  refine q_icmp_ne C (tgt := 274) dL_law_253 (by decide) (fun _ => ?_) (fun _ => ?_)
  · refine q_aload_n C dL_law_256 rfl 8 rfl ?_
    refine q_iload C dL_law_257 1 rfl ?_
    refine q_iload C dL_law_259 4 rfl ?_
    refine q_bipush (v := (7 : Int32)) C dL_law_261 (by decide) ?_
    refine q_ishr C dL_law_263 ?_
    refine q_iconst (v := (3 : Int32)) C dL_law_264 (by decide) ?_
    refine q_callO (n := 2) (av := [.int (x >>> ((7 : Int32) &&& 31)), .int (3 : Int32)]) (maxL := 2) (ret := some .int) C hXL (c_part (m := 3) rfl (by decide) (by decide)) qG_Lpart rfl (by decide +kernel) ⟨Nat.le_of_ble_eq_true rfl, Nat.le_of_ble_eq_true rfl⟩ ⟨Nat.le_of_ble_eq_true rfl, Nat.le_of_ble_eq_true rfl⟩ rfl rfl (Nat.le_of_ble_eq_true rfl) dL_law_265 ?_
    refine o_appeal C (stG_of (t := (tAppeal g h (nI (pN (x >>> ((7 : Int32) &&& 31)) 3)))) (g' := (tAppeal g h (nI (pN (x >>> ((7 : Int32) &&& 31)) 3))).2) (r := (tAppeal g h (nI (pN (x >>> ((7 : Int32) &&& 31)) 3))).1) (fun M G C => st_appeal G C h (nI (pN (x >>> ((7 : Int32) &&& 31)) 3))) rfl) ⟨Nat.le_of_ble_eq_true rfl, Nat.le_of_ble_eq_true rfl⟩ ⟨Nat.le_of_ble_eq_true rfl, Nat.le_of_ble_eq_true rfl⟩ (Nat.le_of_ble_eq_true rfl) dL_law_268 ?_
    refine q_goto (tgt := 331) C dL_law_271 (by decide) ?_
    exact next (tAppeal g h (nI (pN (x >>> ((7 : Int32) &&& 31)) 3))).1 (tAppeal g h (nI (pN (x >>> ((7 : Int32) &&& 31)) 3))).2 (a_appeal G h (nI (pN (x >>> ((7 : Int32) &&& 31)) 3))) (fun q => absurd q k0) (fun q => absurd q k1)
  refine q_iload C dL_law_274 3 rfl ?_
  refine q_bipush (v := (9 : Int32)) C dL_law_276 (by decide) ?_
  refine q_icmp_ne C (tgt := 288) dL_law_278 (by decide) (fun _ => ?_) (fun _ => ?_)
  · refine q_aload_n C dL_law_281 rfl 8 rfl ?_
    refine o_swap C (stG_of (t := (tSwap g)) (g' := (tSwap g).2) (r := (tSwap g).1) (fun M G C => st_swap G C) rfl) ⟨Nat.le_of_ble_eq_true rfl, Nat.le_of_ble_eq_true rfl⟩ ⟨Nat.le_of_ble_eq_true rfl, Nat.le_of_ble_eq_true rfl⟩ (Nat.le_of_ble_eq_true rfl) dL_law_282 ?_
    refine q_goto (tgt := 331) C dL_law_285 (by decide) ?_
    exact next (tSwap g).1 (tSwap g).2 (a_swap G) (fun q => absurd q k0) (fun q => absurd q k1)
  refine q_iload C dL_law_288 4 rfl ?_
  refine q_bipush (v := (10 : Int32)) C dL_law_290 (by decide) ?_
  refine q_ishr C dL_law_292 ?_
  refine q_iconst (v := (2 : Int32)) C dL_law_293 (by decide) ?_
  refine q_callO (n := 2) (av := [.int (x >>> ((10 : Int32) &&& 31)), .int (2 : Int32)]) (maxL := 2) (ret := some .int) C hXL (c_part (m := 2) rfl (by decide) (by decide)) qG_Lpart rfl (by decide +kernel) ⟨Nat.le_of_ble_eq_true rfl, Nat.le_of_ble_eq_true rfl⟩ ⟨Nat.le_of_ble_eq_true rfl, Nat.le_of_ble_eq_true rfl⟩ rfl rfl (Nat.le_of_ble_eq_true rfl) dL_law_294 ?_
  refine q_if_ne C (tgt := 309) dL_law_297 (by decide) (fun _ => ?_) (fun _ => ?_)
  · refine q_aload_n C dL_law_300 rfl 8 rfl ?_
    refine q_iload C dL_law_301 1 rfl ?_
    refine o_decline C (stG_of (t := (tDecline g h)) (g' := (tDecline g h).2) (r := (tDecline g h).1) (fun M G C => st_decline G C h) rfl) ⟨Nat.le_of_ble_eq_true rfl, Nat.le_of_ble_eq_true rfl⟩ ⟨Nat.le_of_ble_eq_true rfl, Nat.le_of_ble_eq_true rfl⟩ (Nat.le_of_ble_eq_true rfl) dL_law_303 ?_
    refine q_goto (tgt := 331) C dL_law_306 (by decide) ?_
    exact next (tDecline g h).1 (tDecline g h).2 (a_decline G h) (fun q => absurd q k0) (fun q => absurd q k1)
  refine q_aload_n C dL_law_309 rfl 8 rfl ?_
  refine q_iload C dL_law_310 1 rfl ?_
  refine q_iconst (v := (1 : Int32)) C dL_law_312 (by decide) ?_
  refine q_sipush (v := (300 : Int32)) C dL_law_313 (by decide) ?_
  refine q_iload C dL_law_316 4 rfl ?_
  refine q_bipush (v := (10 : Int32)) C dL_law_318 (by decide) ?_
  refine q_ishr C dL_law_320 ?_
  refine q_sipush (v := (900 : Int32)) C dL_law_321 (by decide) ?_
  refine q_callO (n := 2) (av := [.int (x >>> ((10 : Int32) &&& 31)), .int (900 : Int32)]) (maxL := 2) (ret := some .int) C hXL (c_part (m := 900) rfl (by decide) (by decide)) qG_Lpart rfl (by decide +kernel) ⟨Nat.le_of_ble_eq_true rfl, Nat.le_of_ble_eq_true rfl⟩ ⟨Nat.le_of_ble_eq_true rfl, Nat.le_of_ble_eq_true rfl⟩ rfl rfl (Nat.le_of_ble_eq_true rfl) dL_law_324 ?_
  refine q_iadd_v (v := ((300 : Int32) + nI (pN (x >>> ((10 : Int32) &&& 31)) 900))) C dL_law_327 rfl ?_
  refine o_change C (stG_of (t := (tChange g h (1 : Int32) ((300 : Int32) + nI (pN (x >>> ((10 : Int32) &&& 31)) 900)))) (g' := (tChange g h (1 : Int32) ((300 : Int32) + nI (pN (x >>> ((10 : Int32) &&& 31)) 900))).2) (r := (tChange g h (1 : Int32) ((300 : Int32) + nI (pN (x >>> ((10 : Int32) &&& 31)) 900))).1) (fun M G C => st_change G C h (1 : Int32) ((300 : Int32) + nI (pN (x >>> ((10 : Int32) &&& 31)) 900)) (Or.inr rfl)) rfl) ⟨Nat.le_of_ble_eq_true rfl, Nat.le_of_ble_eq_true rfl⟩ ⟨Nat.le_of_ble_eq_true rfl, Nat.le_of_ble_eq_true rfl⟩ (Nat.le_of_ble_eq_true rfl) dL_law_328 ?_
  exact next (tChange g h (1 : Int32) ((300 : Int32) + nI (pN (x >>> ((10 : Int32) &&& 31)) 900))).1 (tChange g h (1 : Int32) ((300 : Int32) + nI (pN (x >>> ((10 : Int32) &&& 31)) 900))).2 (a_change G h (1 : Int32) ((300 : Int32) + nI (pN (x >>> ((10 : Int32) &&& 31)) 900))) (fun q => absurd q k0) (fun q => absurd q k1)

set_option maxHeartbeats 2000000 in
theorem law_75 {p : Program} {l : Launch} {e : Env} {s : State} {m : MethodId} {below : List Frame} {meth : Method} {c : Code} {D : va_G} {cs : Nat → ClassId} {Q : State → Prop} {ad : Nat → Nat} {aw b : Nat} (C : CQ p s m #[Value.ref b] meth c cL_law 11 D cs) (hXL : XL s) {g : Gh} {wv : Nat → Int64} {a i : Nat} {kd x : Int32} (G : GO g) (ha : a < 64) (next : ∀ f h : Int32, VL p l e s m b below meth c D Q (gW cs ad g (wC cs aw (vp_updL wv a (seenV g.1)))) 115 [(9, .int f), (8, .int h), (7, .int (nI (gK g))), (6, .int kd), (5, .int x), (4, .int (nI i)), (3, .int (nI a)), (2, .ref aw), (1, .ref (ad 0)), (0, .ref b)] []) : VL p l e s m b below meth c D Q (gW cs ad g (wC cs aw wv)) 75 [(5, .int x), (4, .int (nI i)), (3, .int (nI a)), (2, .ref aw), (1, .ref (ad 0)), (0, .ref b)] [.int kd] := by
  refine q_istore C dL_law_75 (by decide) rfl ?_
  refine q_aload_n C dL_law_77 rfl 4 rfl ?_
  refine q_iload_n C dL_law_78 rfl 3 rfl ?_
  refine q_aload_n C dL_law_79 rfl 5 rfl ?_
  refine q_callSL (n := 1) (As := [.ref (ad 0)]) (maxL := 4) (ret := some .long) C (c_seen G) qG_Lseen rfl (by decide +kernel) ⟨Nat.le_of_ble_eq_true rfl, Nat.le_of_ble_eq_true rfl⟩ ⟨Nat.le_of_ble_eq_true rfl, Nat.le_of_ble_eq_true rfl⟩ rfl rfl rfl (Nat.le_of_ble_eq_true rfl) dL_law_80 ?_
  refine q_last C ha dL_law_83 ?_
  refine q_aload_n C dL_law_84 rfl 5 rfl ?_
  refine q_bipush (v := (11 : Int32)) C dL_law_85 (by decide) ?_
  refine o_count C f_count_11 ⟨Nat.le_of_ble_eq_true rfl, Nat.le_of_ble_eq_true rfl⟩ ⟨Nat.le_of_ble_eq_true rfl, Nat.le_of_ble_eq_true rfl⟩ (Nat.le_of_ble_eq_true rfl) dL_law_87 ?_
  refine q_istore C dL_law_90 (by decide) rfl ?_
  refine q_iload C dL_law_92 2 rfl ?_
  refine q_iconst (v := (4 : Int32)) C dL_law_94 (by decide) ?_
  refine q_ishr C dL_law_95 ?_
  refine q_bipush (v := (6 : Int32)) C dL_law_96 (by decide) ?_
  refine q_callO (n := 2) (av := [.int (x >>> ((4 : Int32) &&& 31)), .int (6 : Int32)]) (maxL := 2) (ret := some .int) C hXL (c_part (m := 6) rfl (by decide) (by decide)) qG_Lpart rfl (by decide +kernel) ⟨Nat.le_of_ble_eq_true rfl, Nat.le_of_ble_eq_true rfl⟩ ⟨Nat.le_of_ble_eq_true rfl, Nat.le_of_ble_eq_true rfl⟩ rfl rfl (Nat.le_of_ble_eq_true rfl) dL_law_98 ?_
  refine q_istore C dL_law_101 (by decide) rfl ?_
  refine q_iload C dL_law_103 3 rfl ?_
  refine q_bipush (v := (7 : Int32)) C dL_law_105 (by decide) ?_
  refine q_ishr C dL_law_107 ?_
  refine q_bipush (v := (6 : Int32)) C dL_law_108 (by decide) ?_
  refine q_callO (n := 2) (av := [.int (x >>> ((7 : Int32) &&& 31)), .int (6 : Int32)]) (maxL := 2) (ret := some .int) C hXL (c_part (m := 6) rfl (by decide) (by decide)) qG_Lpart rfl (by decide +kernel) ⟨Nat.le_of_ble_eq_true rfl, Nat.le_of_ble_eq_true rfl⟩ ⟨Nat.le_of_ble_eq_true rfl, Nat.le_of_ble_eq_true rfl⟩ rfl rfl (Nat.le_of_ble_eq_true rfl) dL_law_110 ?_
  refine q_istore C dL_law_113 (by decide) rfl ?_
  exact next _ _
set_option maxHeartbeats 4000000 in
theorem law_turn {p : Program} {l : Launch} {e : Env} {s : State} {m : MethodId} {below : List Frame} {meth : Method} {c : Code} {D : va_G} {cs : Nat → ClassId} {Q : State → Prop} {ad : Nat → Nat} {aw b : Nat} {L : Nat} {xs : Nat → Int32} (C : CQ p s m #[Value.ref b] meth c cL_law 11 D cs) (hXL : XL s) (hX : va_X b L xs s s.heap) (hbl : b < s.heap.size) (hL : L ≤ 260) {g : Gh} {wv : Nat → Int64} {a i : Nat} (G : GO g) (hI : LI i a g wv) (hi : i < 40) (next : ∀ (a' : Nat) (g' : Gh) (wv' : Nat → Int64), LI (i + 1) a' g' wv' → VL p l e s m b below meth c D Q (gW cs ad g' (wC cs aw wv')) 32 [(4, .int (nI (i + 1))), (3, .int (nI a')), (2, .ref aw), (1, .ref (ad 0)), (0, .ref b)] []) : VL p l e s m b below meth c D Q (gW cs ad g (wC cs aw wv)) 32 [(4, .int (nI i)), (3, .int (nI a)), (2, .ref aw), (1, .ref (ad 0)), (0, .ref b)] [] := by
  obtain ⟨x, hx⟩ := c_drawn (b := b) (xs := xs) hL (show i < 1000 by omega)
  have hi40 : ¬ ((40 : Int32) ≤ nI i) := fun q => absurd ((nIle (a := 40) (b := i) (by omega) (by omega)).mp q) (by omega)
  have fin : ∀ kd : Int32, (i < 4 → kd = 0) → (4 ≤ i → i < 8 → kd = 1) → VL p l e s m b below meth c D Q (gW cs ad g (wC cs aw wv)) 75 [(5, .int x), (4, .int (nI i)), (3, .int (nI a)), (2, .ref aw), (1, .ref (ad 0)), (0, .ref b)] [.int kd] := by
    intro kd hk0 hk1
    have hb0 := G.1.1.h0l
    have hb1 := G.1.1.h1l
    have ha : a < 64 := by
      have := hI.1
      omega
    refine law_75 C hXL G ha (fun f h => ?_)
    refine law_op C hXL G (fun r g' hact c0 c1 => ?_)
    refine law_tail C G ha pk_uLs rfl (fun hr => ?_) (fun hr => ?_) (fun hr => ?_)
    · rcases hact with ⟨-, q⟩ | ⟨q, -⟩
      · exact q
      · exact absurd hr (Int32.not_lt.mpr q)
    · refine next a g _ (LI_n hI hi ?_)
      by_cases d4 : i < 4
      · obtain ⟨b1, b2, b3⟩ := hI.2.2.2.1 (by omega)
        exact absurd hr (Int32.not_lt.mpr (c0 (hk0 d4) (by omega)).1)
      · by_cases d8 : i < 8
        · obtain ⟨b1, b2, b3⟩ := hI.2.2.2.2.1 (by omega) (by omega)
          exact absurd hr (Int32.not_lt.mpr (c1 (hk1 (by omega) d8) (by omega)).1)
        · omega
    · rcases hact with ⟨q, -⟩ | ⟨-, q, qf, qh⟩
      · exact absurd q hr
      · have q : g' = setS (psh g) g'.1 := q
        rw [q]
        refine next (a + 1) _ _ (LI_p hI hi qf qh (fun d4 => ?_) (fun e4 d8 => ?_))
        · obtain ⟨b1, b2, b3⟩ := hI.2.2.2.1 (by omega)
          exact (c0 (hk0 d4) (by omega)).2
        · obtain ⟨b1, b2, b3⟩ := hI.2.2.2.2.1 (by omega) (by omega)
          exact (c1 (hk1 e4 d8) (by omega)).2
  by_cases d4 : i < 4
  · have hi4 : ¬ ((4 : Int32) ≤ nI i) := fun q => absurd ((nIle (a := 4) (b := i) (by omega) (by omega)).mp q) (by omega)
    refine q_iload C dL_law_32 0 rfl ?_
    refine q_bipush (v := (40 : Int32)) C dL_law_34 (by decide) ?_
    refine q_icmp_ge_f C 381 dL_law_36 (by decide) hi40 ?_
    refine q_aload_n C dL_law_39 rfl 4 rfl ?_
    refine q_iload C dL_law_40 0 rfl ?_
    refine q_drawn C hXL hX hbl hx ⟨Nat.le_of_ble_eq_true rfl, Nat.le_of_ble_eq_true rfl⟩ ⟨Nat.le_of_ble_eq_true rfl, Nat.le_of_ble_eq_true rfl⟩ (Nat.le_of_ble_eq_true rfl) dL_law_42 ?_
    refine q_istore C dL_law_45 (by decide) rfl ?_
    refine q_iload C dL_law_47 1 rfl ?_
    refine q_iconst (v := (4 : Int32)) C dL_law_49 (by decide) ?_
    refine q_icmp_ge_f C 57 dL_law_50 (by decide) hi4 ?_
    refine q_iconst (v := (0 : Int32)) C dL_law_53 (by decide) ?_
    refine q_goto (tgt := 75) C dL_law_54 (by decide) ?_
    exact fin _ (fun _ => rfl) (fun q => absurd q (by omega))
  · have hi4 : (4 : Int32) ≤ nI i := (nIle (a := 4) (b := i) (by omega) (by omega)).mpr (by omega)
    by_cases d8 : i < 8
    · have hi8 : ¬ ((8 : Int32) ≤ nI i) := fun q => absurd ((nIle (a := 8) (b := i) (by omega) (by omega)).mp q) (by omega)
      refine q_iload C dL_law_32 0 rfl ?_
      refine q_bipush (v := (40 : Int32)) C dL_law_34 (by decide) ?_
      refine q_icmp_ge_f C 381 dL_law_36 (by decide) hi40 ?_
      refine q_aload_n C dL_law_39 rfl 4 rfl ?_
      refine q_iload C dL_law_40 0 rfl ?_
      refine q_drawn C hXL hX hbl hx ⟨Nat.le_of_ble_eq_true rfl, Nat.le_of_ble_eq_true rfl⟩ ⟨Nat.le_of_ble_eq_true rfl, Nat.le_of_ble_eq_true rfl⟩ (Nat.le_of_ble_eq_true rfl) dL_law_42 ?_
      refine q_istore C dL_law_45 (by decide) rfl ?_
      refine q_iload C dL_law_47 1 rfl ?_
      refine q_iconst (v := (4 : Int32)) C dL_law_49 (by decide) ?_
      refine q_icmp_ge_t C 57 dL_law_50 (by decide) hi4 ?_
      refine q_iload C dL_law_57 1 rfl ?_
      refine q_bipush (v := (8 : Int32)) C dL_law_59 (by decide) ?_
      refine q_icmp_ge_f C 68 dL_law_61 (by decide) hi8 ?_
      refine q_iconst (v := (1 : Int32)) C dL_law_64 (by decide) ?_
      refine q_goto (tgt := 75) C dL_law_65 (by decide) ?_
      exact fin _ (fun q => absurd q (by omega)) (fun _ _ => rfl)
    · have hi8 : (8 : Int32) ≤ nI i := (nIle (a := 8) (b := i) (by omega) (by omega)).mpr (by omega)
      refine q_iload C dL_law_32 0 rfl ?_
      refine q_bipush (v := (40 : Int32)) C dL_law_34 (by decide) ?_
      refine q_icmp_ge_f C 381 dL_law_36 (by decide) hi40 ?_
      refine q_aload_n C dL_law_39 rfl 4 rfl ?_
      refine q_iload C dL_law_40 0 rfl ?_
      refine q_drawn C hXL hX hbl hx ⟨Nat.le_of_ble_eq_true rfl, Nat.le_of_ble_eq_true rfl⟩ ⟨Nat.le_of_ble_eq_true rfl, Nat.le_of_ble_eq_true rfl⟩ (Nat.le_of_ble_eq_true rfl) dL_law_42 ?_
      refine q_istore C dL_law_45 (by decide) rfl ?_
      refine q_iload C dL_law_47 1 rfl ?_
      refine q_iconst (v := (4 : Int32)) C dL_law_49 (by decide) ?_
      refine q_icmp_ge_t C 57 dL_law_50 (by decide) hi4 ?_
      refine q_iload C dL_law_57 1 rfl ?_
      refine q_bipush (v := (8 : Int32)) C dL_law_59 (by decide) ?_
      refine q_icmp_ge_t C 68 dL_law_61 (by decide) hi8 ?_
      refine q_iload C dL_law_68 0 rfl ?_
      refine q_bipush (v := (11 : Int32)) C dL_law_70 (by decide) ?_
      refine q_callO (n := 2) (av := [.int x, .int (11 : Int32)]) (maxL := 2) (ret := some .int) C hXL (c_part (m := 11) rfl (by decide) (by decide)) qG_Lpart rfl (by decide +kernel) ⟨Nat.le_of_ble_eq_true rfl, Nat.le_of_ble_eq_true rfl⟩ ⟨Nat.le_of_ble_eq_true rfl, Nat.le_of_ble_eq_true rfl⟩ rfl rfl (Nat.le_of_ble_eq_true rfl) dL_law_72 ?_
      exact fin _ (fun q => absurd q (by omega)) (fun _ q => absurd q (by omega))

theorem law_loop {p : Program} {l : Launch} {e : Env} {s : State} {m : MethodId} {below : List Frame} {meth : Method} {c : Code} {D : va_G} {cs : Nat → ClassId} {Q : State → Prop} {ad : Nat → Nat} {aw b : Nat} {L : Nat} {xs : Nat → Int32} (C : CQ p s m #[Value.ref b] meth c cL_law 11 D cs) (hXL : XL s) (hX : va_X b L xs s s.heap) (hbl : b < s.heap.size) (hL : L ≤ 260) (hend : ∀ (a : Nat) (g : Gh) (wv : Nat → Int64), LI 40 a g wv → VL p l e s m b below meth c D Q (gW cs ad g (wC cs aw wv)) 381 [(4, .int (nI 40)), (3, .int (nI a)), (2, .ref aw), (1, .ref (ad 0)), (0, .ref b)] []) : ∀ (d i a : Nat) (g : Gh) (wv : Nat → Int64), i + d = 40 → LI i a g wv → VL p l e s m b below meth c D Q (gW cs ad g (wC cs aw wv)) 32 [(4, .int (nI i)), (3, .int (nI a)), (2, .ref aw), (1, .ref (ad 0)), (0, .ref b)] [] := by
  intro d
  induction d with
  | zero =>
    intro i a g wv hd hI
    have e1 : i = 40 := by omega
    subst e1
    refine q_iload C dL_law_32 0 rfl ?_
    refine q_bipush (v := (40 : Int32)) C dL_law_34 (by decide) ?_
    refine q_icmp_ge_t C 381 dL_law_36 (by decide) (by decide) ?_
    exact hend a g wv hI
  | succ d ih =>
    intro i a g wv hd hI
    refine q_go (fun G => ?_)
    exact law_turn C hXL hX hbl hL G hI (by omega) (fun a' g' wv' h => ih (i + 1) a' g' wv' (by omega) h)
