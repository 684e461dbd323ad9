/-! homes: the walk (written by wip/p28/tools/mk_h.py) -/
set_option maxHeartbeats 8000000 in
theorem homes_0 {p : Program} {l : Launch} {e : Env} {s : State} {m : MethodId} {args : Array Value} {below : List Frame} {meth : Method} {c : Code} {D : va_G} {cs : Nat → ClassId} {Q : State → Prop} {ad : Nat → Nat} (C : CQ p s m args meth c cL_homes 3 D cs) (next : VX p l e (rmC 8 510 3524) s m args below meth c 3 D (fun q => s.heap.size ≤ q) 255 1762 Q (gW cs ad hg10 []) 243 [(0, .ref (ad 0))] []) : VX p l e (rmC 8 510 3524) s m args below meth c 3 D (fun q => s.heap.size ≤ q) 255 1762 Q (gW cs ad hg0 []) 8 [(0, .ref (ad 0))] [] := by
  refine q_aload_n C dL_homes_8 rfl 0 rfl ?_
  refine o_undo C hs1 ⟨Nat.le_of_ble_eq_true rfl, Nat.le_of_ble_eq_true rfl⟩ ⟨Nat.le_of_ble_eq_true rfl, Nat.le_of_ble_eq_true rfl⟩ (Nat.le_of_ble_eq_true rfl) dL_homes_9 ?_
  refine q_bipush (v := (-5 : Int32)) C dL_homes_12 (by decide) ?_
  refine q_icmp_ne_f C 161 dL_homes_14 (by decide) (by decide) ?_
  refine q_aload_n C dL_homes_17 rfl 0 rfl ?_
  refine o_restore C hs2 ⟨Nat.le_of_ble_eq_true rfl, Nat.le_of_ble_eq_true rfl⟩ ⟨Nat.le_of_ble_eq_true rfl, Nat.le_of_ble_eq_true rfl⟩ (Nat.le_of_ble_eq_true rfl) dL_homes_18 ?_
  refine q_bipush (v := (-5 : Int32)) C dL_homes_21 (by decide) ?_
  refine q_icmp_ne_f C 161 dL_homes_23 (by decide) (by decide) ?_
  refine q_aload_n C dL_homes_26 rfl 0 rfl ?_
  refine o_round C hs3 ⟨Nat.le_of_ble_eq_true rfl, Nat.le_of_ble_eq_true rfl⟩ ⟨Nat.le_of_ble_eq_true rfl, Nat.le_of_ble_eq_true rfl⟩ (Nat.le_of_ble_eq_true rfl) dL_homes_27 ?_
  refine q_bipush (v := (-4 : Int32)) C dL_homes_30 (by decide) ?_
  refine q_icmp_ne_f C 161 dL_homes_32 (by decide) (by decide) ?_
  refine q_aload_n C dL_homes_35 rfl 0 rfl ?_
  refine o_swap C hs4 ⟨Nat.le_of_ble_eq_true rfl, Nat.le_of_ble_eq_true rfl⟩ ⟨Nat.le_of_ble_eq_true rfl, Nat.le_of_ble_eq_true rfl⟩ (Nat.le_of_ble_eq_true rfl) dL_homes_36 ?_
  refine q_bipush (v := (-5 : Int32)) C dL_homes_39 (by decide) ?_
  refine q_icmp_ne_f C 161 dL_homes_41 (by decide) (by decide) ?_
  refine q_aload_n C dL_homes_44 rfl 0 rfl ?_
  refine o_most C hs5 ⟨Nat.le_of_ble_eq_true rfl, Nat.le_of_ble_eq_true rfl⟩ ⟨Nat.le_of_ble_eq_true rfl, Nat.le_of_ble_eq_true rfl⟩ (Nat.le_of_ble_eq_true rfl) dL_homes_45 ?_
  refine q_if_ne_f C 161 dL_homes_48 (by decide) (by decide) ?_
  refine q_aload_n C dL_homes_51 rfl 0 rfl ?_
  refine q_iconst (v := (2 : Int32)) C dL_homes_52 (by decide) ?_
  refine q_bipush (v := (100 : Int32)) C dL_homes_53 (by decide) ?_
  refine o_addFlat C hs6 ⟨Nat.le_of_ble_eq_true rfl, Nat.le_of_ble_eq_true rfl⟩ ⟨Nat.le_of_ble_eq_true rfl, Nat.le_of_ble_eq_true rfl⟩ (Nat.le_of_ble_eq_true rfl) dL_homes_55 ?_
  refine q_if_ne_f C 161 dL_homes_58 (by decide) (by decide) ?_
  refine q_aload_n C dL_homes_61 rfl 0 rfl ?_
  refine q_iconst (v := (3 : Int32)) C dL_homes_62 (by decide) ?_
  refine q_sipush (v := (200 : Int32)) C dL_homes_63 (by decide) ?_
  refine o_addFlat C hs7 ⟨Nat.le_of_ble_eq_true rfl, Nat.le_of_ble_eq_true rfl⟩ ⟨Nat.le_of_ble_eq_true rfl, Nat.le_of_ble_eq_true rfl⟩ (Nat.le_of_ble_eq_true rfl) dL_homes_66 ?_
  refine q_iconst (v := (1 : Int32)) C dL_homes_69 (by decide) ?_
  refine q_icmp_ne_f C 161 dL_homes_70 (by decide) (by decide) ?_
  refine q_aload_n C dL_homes_73 rfl 0 rfl ?_
  refine q_iconst (v := (1 : Int32)) C dL_homes_74 (by decide) ?_
  refine q_bipush (v := (50 : Int32)) C dL_homes_75 (by decide) ?_
  refine o_addFlat C hs8 ⟨Nat.le_of_ble_eq_true rfl, Nat.le_of_ble_eq_true rfl⟩ ⟨Nat.le_of_ble_eq_true rfl, Nat.le_of_ble_eq_true rfl⟩ (Nat.le_of_ble_eq_true rfl) dL_homes_77 ?_
  refine q_iconst (v := (2 : Int32)) C dL_homes_80 (by decide) ?_
  refine q_icmp_ne_f C 161 dL_homes_81 (by decide) (by decide) ?_
  refine q_aload_n C dL_homes_84 rfl 0 rfl ?_
  refine q_iconst (v := (2 : Int32)) C dL_homes_85 (by decide) ?_
  refine q_sipush (v := (900 : Int32)) C dL_homes_86 (by decide) ?_
  refine o_addHousehold C hs9 ⟨Nat.le_of_ble_eq_true rfl, Nat.le_of_ble_eq_true rfl⟩ ⟨Nat.le_of_ble_eq_true rfl, Nat.le_of_ble_eq_true rfl⟩ (Nat.le_of_ble_eq_true rfl) dL_homes_89 ?_
  refine q_if_ne_f C 161 dL_homes_92 (by decide) (by decide) ?_
  refine q_aload_n C dL_homes_95 rfl 0 rfl ?_
  refine q_iconst (v := (3 : Int32)) C dL_homes_96 (by decide) ?_
  refine q_sipush (v := (900 : Int32)) C dL_homes_97 (by decide) ?_
  refine o_addHousehold C hs10 ⟨Nat.le_of_ble_eq_true rfl, Nat.le_of_ble_eq_true rfl⟩ ⟨Nat.le_of_ble_eq_true rfl, Nat.le_of_ble_eq_true rfl⟩ (Nat.le_of_ble_eq_true rfl) dL_homes_100 ?_
  refine q_iconst (v := (1 : Int32)) C dL_homes_103 (by decide) ?_
  refine q_icmp_ne_f C 161 dL_homes_104 (by decide) (by decide) ?_
  refine q_aload_n C dL_homes_107 rfl 0 rfl ?_
  refine q_iconst (v := (2 : Int32)) C dL_homes_108 (by decide) ?_
  refine q_sipush (v := (500 : Int32)) C dL_homes_109 (by decide) ?_
  refine o_addHousehold C hs11 ⟨Nat.le_of_ble_eq_true rfl, Nat.le_of_ble_eq_true rfl⟩ ⟨Nat.le_of_ble_eq_true rfl, Nat.le_of_ble_eq_true rfl⟩ (Nat.le_of_ble_eq_true rfl) dL_homes_112 ?_
  refine q_iconst (v := (2 : Int32)) C dL_homes_115 (by decide) ?_
  refine q_icmp_ne_f C 161 dL_homes_116 (by decide) (by decide) ?_
  refine q_aload_n C dL_homes_119 rfl 0 rfl ?_
  refine q_iconst (v := (0 : Int32)) C dL_homes_120 (by decide) ?_
  refine q_iconst (v := (4 : Int32)) C dL_homes_121 (by decide) ?_
  refine o_flat C hs12 ⟨Nat.le_of_ble_eq_true rfl, Nat.le_of_ble_eq_true rfl⟩ ⟨Nat.le_of_ble_eq_true rfl, Nat.le_of_ble_eq_true rfl⟩ (Nat.le_of_ble_eq_true rfl) dL_homes_122 ?_
  refine q_bipush (v := (7 : Int32)) C dL_homes_125 (by decide) ?_
  refine q_icmp_ne_f C 161 dL_homes_127 (by decide) (by decide) ?_
  refine q_aload_n C dL_homes_130 rfl 0 rfl ?_
  refine q_iconst (v := (1 : Int32)) C dL_homes_131 (by decide) ?_
  refine q_iconst (v := (4 : Int32)) C dL_homes_132 (by decide) ?_
  refine o_flat C hs13 ⟨Nat.le_of_ble_eq_true rfl, Nat.le_of_ble_eq_true rfl⟩ ⟨Nat.le_of_ble_eq_true rfl, Nat.le_of_ble_eq_true rfl⟩ (Nat.le_of_ble_eq_true rfl) dL_homes_133 ?_
  refine q_iconst (v := (3 : Int32)) C dL_homes_136 (by decide) ?_
  refine q_icmp_ne_f C 161 dL_homes_137 (by decide) (by decide) ?_
  refine q_aload_n C dL_homes_140 rfl 0 rfl ?_
  refine q_iconst (v := (2 : Int32)) C dL_homes_141 (by decide) ?_
  refine q_iconst (v := (4 : Int32)) C dL_homes_142 (by decide) ?_
  refine o_flat C hs14 ⟨Nat.le_of_ble_eq_true rfl, Nat.le_of_ble_eq_true rfl⟩ ⟨Nat.le_of_ble_eq_true rfl, Nat.le_of_ble_eq_true rfl⟩ (Nat.le_of_ble_eq_true rfl) dL_homes_143 ?_
  refine q_iconst (v := (5 : Int32)) C dL_homes_146 (by decide) ?_
  refine q_icmp_ne_f C 161 dL_homes_147 (by decide) (by decide) ?_
  refine q_aload_n C dL_homes_150 rfl 0 rfl ?_
  refine q_iconst (v := (0 : Int32)) C dL_homes_151 (by decide) ?_
  refine q_iconst (v := (2 : Int32)) C dL_homes_152 (by decide) ?_
  refine o_flat C hs15 ⟨Nat.le_of_ble_eq_true rfl, Nat.le_of_ble_eq_true rfl⟩ ⟨Nat.le_of_ble_eq_true rfl, Nat.le_of_ble_eq_true rfl⟩ (Nat.le_of_ble_eq_true rfl) dL_homes_153 ?_
  refine q_bipush (v := (-5 : Int32)) C dL_homes_156 (by decide) ?_
  refine q_icmp_eq_t C 163 dL_homes_158 (by decide) (by decide) ?_
  refine q_aload_n C dL_homes_163 rfl 0 rfl ?_
  refine q_ldc2 (v := (3475143028832416058 : Int64)) C qK_99 dL_homes_164 ?_
  refine q_callSI (n := 2) (As := [.ref (ad 0), .long (3475143028832416058 : Int64)]) (maxL := 6) (ret := some .boolean) C (c_types (g := hg6) (3475143028832416058 : Int64) (by decide +kernel)) qG_Ltypes rfl (by decide +kernel) ⟨Nat.le_of_ble_eq_true rfl, Nat.le_of_ble_eq_true rfl⟩ ⟨Nat.le_of_ble_eq_true rfl, Nat.le_of_ble_eq_true rfl⟩ rfl rfl rfl (Nat.le_of_ble_eq_true rfl) dL_homes_167 ?_
  refine q_if_eq_f C 359 dL_homes_170 (by decide) (by decide) ?_
  refine q_aload_n C dL_homes_173 rfl 0 rfl ?_
  refine q_ldc2 (v := (3543260037637615660 : Int64)) C qK_105 dL_homes_174 ?_
  refine q_callSI (n := 2) (As := [.ref (ad 0), .long (3543260037637615660 : Int64)]) (maxL := 6) (ret := some .boolean) C (c_types (g := hg7) (3543260037637615660 : Int64) (by decide +kernel)) qG_Ltypes rfl (by decide +kernel) ⟨Nat.le_of_ble_eq_true rfl, Nat.le_of_ble_eq_true rfl⟩ ⟨Nat.le_of_ble_eq_true rfl, Nat.le_of_ble_eq_true rfl⟩ rfl rfl rfl (Nat.le_of_ble_eq_true rfl) dL_homes_177 ?_
  refine q_if_eq_f C 359 dL_homes_180 (by decide) (by decide) ?_
  refine q_aload_n C dL_homes_183 rfl 0 rfl ?_
  refine q_ldc2 (v := (50 : Int64)) C qK_107 dL_homes_184 ?_
  refine q_callSI (n := 2) (As := [.ref (ad 0), .long (50 : Int64)]) (maxL := 6) (ret := some .boolean) C (c_types (g := hg8) (50 : Int64) (by decide +kernel)) qG_Ltypes rfl (by decide +kernel) ⟨Nat.le_of_ble_eq_true rfl, Nat.le_of_ble_eq_true rfl⟩ ⟨Nat.le_of_ble_eq_true rfl, Nat.le_of_ble_eq_true rfl⟩ rfl rfl rfl (Nat.le_of_ble_eq_true rfl) dL_homes_187 ?_
  refine q_if_eq_f C 359 dL_homes_190 (by decide) (by decide) ?_
  refine q_aload_n C dL_homes_193 rfl 0 rfl ?_
  refine o_readLists C hs16 ⟨Nat.le_of_ble_eq_true rfl, Nat.le_of_ble_eq_true rfl⟩ ⟨Nat.le_of_ble_eq_true rfl, Nat.le_of_ble_eq_true rfl⟩ (Nat.le_of_ble_eq_true rfl) dL_homes_194 ?_
  refine q_iconst (v := (3 : Int32)) C dL_homes_197 (by decide) ?_
  refine q_icmp_ne_f C 359 dL_homes_198 (by decide) (by decide) ?_
  refine q_aload_n C dL_homes_201 rfl 0 rfl ?_
  refine q_bipush (v := (12 : Int32)) C dL_homes_202 (by decide) ?_
  refine o_count C hs17 ⟨Nat.le_of_ble_eq_true rfl, Nat.le_of_ble_eq_true rfl⟩ ⟨Nat.le_of_ble_eq_true rfl, Nat.le_of_ble_eq_true rfl⟩ (Nat.le_of_ble_eq_true rfl) dL_homes_204 ?_
  refine q_bipush (v := (17 : Int32)) C dL_homes_207 (by decide) ?_
  refine q_icmp_ne_f C 359 dL_homes_209 (by decide) (by decide) ?_
  refine q_aload_n C dL_homes_212 rfl 0 rfl ?_
  refine q_bipush (v := (11 : Int32)) C dL_homes_213 (by decide) ?_
  refine o_count C hs18 ⟨Nat.le_of_ble_eq_true rfl, Nat.le_of_ble_eq_true rfl⟩ ⟨Nat.le_of_ble_eq_true rfl, Nat.le_of_ble_eq_true rfl⟩ (Nat.le_of_ble_eq_true rfl) dL_homes_215 ?_
  refine q_iconst (v := (4 : Int32)) C dL_homes_218 (by decide) ?_
  refine q_icmp_ne_f C 359 dL_homes_219 (by decide) (by decide) ?_
  refine q_aload_n C dL_homes_222 rfl 0 rfl ?_
  refine q_iconst (v := (0 : Int32)) C dL_homes_223 (by decide) ?_
  refine q_iconst (v := (3 : Int32)) C dL_homes_224 (by decide) ?_
  refine o_flat C hs19 ⟨Nat.le_of_ble_eq_true rfl, Nat.le_of_ble_eq_true rfl⟩ ⟨Nat.le_of_ble_eq_true rfl, Nat.le_of_ble_eq_true rfl⟩ (Nat.le_of_ble_eq_true rfl) dL_homes_225 ?_
  refine q_bipush (v := (7 : Int32)) C dL_homes_228 (by decide) ?_
  refine q_icmp_ne_f C 359 dL_homes_230 (by decide) (by decide) ?_
  refine q_aload_n C dL_homes_233 rfl 0 rfl ?_
  refine q_iconst (v := (1 : Int32)) C dL_homes_234 (by decide) ?_
  refine q_iconst (v := (3 : Int32)) C dL_homes_235 (by decide) ?_
  refine o_flat C hs20 ⟨Nat.le_of_ble_eq_true rfl, Nat.le_of_ble_eq_true rfl⟩ ⟨Nat.le_of_ble_eq_true rfl, Nat.le_of_ble_eq_true rfl⟩ (Nat.le_of_ble_eq_true rfl) dL_homes_236 ?_
  refine q_iconst (v := (3 : Int32)) C dL_homes_239 (by decide) ?_
  refine q_icmp_ne_f C 359 dL_homes_240 (by decide) (by decide) ?_
  exact next
set_option maxHeartbeats 8000000 in
theorem homes_1 {p : Program} {l : Launch} {e : Env} {s : State} {m : MethodId} {args : Array Value} {below : List Frame} {meth : Method} {c : Code} {D : va_G} {cs : Nat → ClassId} {Q : State → Prop} {ad : Nat → Nat} (C : CQ p s m args meth c cL_homes 3 D cs) (next : VX p l e (rmC 8 510 3524) s m args below meth c 3 D (fun q => s.heap.size ≤ q) 255 1762 Q (gW cs ad hg16 []) 455 [(0, .ref (ad 0))] []) : VX p l e (rmC 8 510 3524) s m args below meth c 3 D (fun q => s.heap.size ≤ q) 255 1762 Q (gW cs ad hg10 []) 243 [(0, .ref (ad 0))] [] := by
  refine q_aload_n C dL_homes_243 rfl 0 rfl ?_
  refine q_iconst (v := (0 : Int32)) C dL_homes_244 (by decide) ?_
  refine q_bipush (v := (7 : Int32)) C dL_homes_245 (by decide) ?_
  refine o_household C hs21 ⟨Nat.le_of_ble_eq_true rfl, Nat.le_of_ble_eq_true rfl⟩ ⟨Nat.le_of_ble_eq_true rfl, Nat.le_of_ble_eq_true rfl⟩ (Nat.le_of_ble_eq_true rfl) dL_homes_247 ?_
  refine q_bipush (v := (-5 : Int32)) C dL_homes_250 (by decide) ?_
  refine q_icmp_ne_f C 359 dL_homes_252 (by decide) (by decide) ?_
  refine q_aload_n C dL_homes_255 rfl 0 rfl ?_
  refine q_iconst (v := (0 : Int32)) C dL_homes_256 (by decide) ?_
  refine q_iconst (v := (2 : Int32)) C dL_homes_257 (by decide) ?_
  refine o_household C hs22 ⟨Nat.le_of_ble_eq_true rfl, Nat.le_of_ble_eq_true rfl⟩ ⟨Nat.le_of_ble_eq_true rfl, Nat.le_of_ble_eq_true rfl⟩ (Nat.le_of_ble_eq_true rfl) dL_homes_258 ?_
  refine q_bipush (v := (-5 : Int32)) C dL_homes_261 (by decide) ?_
  refine q_icmp_ne_f C 359 dL_homes_263 (by decide) (by decide) ?_
  refine q_aload_n C dL_homes_266 rfl 0 rfl ?_
  refine q_iconst (v := (0 : Int32)) C dL_homes_267 (by decide) ?_
  refine q_bipush (v := (50 : Int32)) C dL_homes_268 (by decide) ?_
  refine o_draw C hs23 ⟨Nat.le_of_ble_eq_true rfl, Nat.le_of_ble_eq_true rfl⟩ ⟨Nat.le_of_ble_eq_true rfl, Nat.le_of_ble_eq_true rfl⟩ (Nat.le_of_ble_eq_true rfl) dL_homes_270 ?_
  refine q_iconst (v := (1 : Int32)) C dL_homes_273 (by decide) ?_
  refine q_icmp_ne_f C 359 dL_homes_274 (by decide) (by decide) ?_
  refine q_aload_n C dL_homes_277 rfl 0 rfl ?_
  refine q_iconst (v := (1 : Int32)) C dL_homes_278 (by decide) ?_
  refine q_bipush (v := (20 : Int32)) C dL_homes_279 (by decide) ?_
  refine o_draw C hs24 ⟨Nat.le_of_ble_eq_true rfl, Nat.le_of_ble_eq_true rfl⟩ ⟨Nat.le_of_ble_eq_true rfl, Nat.le_of_ble_eq_true rfl⟩ (Nat.le_of_ble_eq_true rfl) dL_homes_281 ?_
  refine q_iconst (v := (2 : Int32)) C dL_homes_284 (by decide) ?_
  refine q_icmp_ne_f C 359 dL_homes_285 (by decide) (by decide) ?_
  refine q_aload_n C dL_homes_288 rfl 0 rfl ?_
  refine q_iconst (v := (2 : Int32)) C dL_homes_289 (by decide) ?_
  refine q_bipush (v := (50 : Int32)) C dL_homes_290 (by decide) ?_
  refine o_draw C hs25 ⟨Nat.le_of_ble_eq_true rfl, Nat.le_of_ble_eq_true rfl⟩ ⟨Nat.le_of_ble_eq_true rfl, Nat.le_of_ble_eq_true rfl⟩ (Nat.le_of_ble_eq_true rfl) dL_homes_292 ?_
  refine q_bipush (v := (-4 : Int32)) C dL_homes_295 (by decide) ?_
  refine q_icmp_ne_f C 359 dL_homes_297 (by decide) (by decide) ?_
  refine q_aload_n C dL_homes_300 rfl 0 rfl ?_
  refine q_iconst (v := (2 : Int32)) C dL_homes_301 (by decide) ?_
  refine q_bipush (v := (10 : Int32)) C dL_homes_302 (by decide) ?_
  refine o_draw C hs26 ⟨Nat.le_of_ble_eq_true rfl, Nat.le_of_ble_eq_true rfl⟩ ⟨Nat.le_of_ble_eq_true rfl, Nat.le_of_ble_eq_true rfl⟩ (Nat.le_of_ble_eq_true rfl) dL_homes_304 ?_
  refine q_iconst (v := (3 : Int32)) C dL_homes_307 (by decide) ?_
  refine q_icmp_ne_f C 359 dL_homes_308 (by decide) (by decide) ?_
  refine q_aload_n C dL_homes_311 rfl 0 rfl ?_
  refine q_iconst (v := (2 : Int32)) C dL_homes_312 (by decide) ?_
  refine q_bipush (v := (10 : Int32)) C dL_homes_313 (by decide) ?_
  refine o_draw C hs27 ⟨Nat.le_of_ble_eq_true rfl, Nat.le_of_ble_eq_true rfl⟩ ⟨Nat.le_of_ble_eq_true rfl, Nat.le_of_ble_eq_true rfl⟩ (Nat.le_of_ble_eq_true rfl) dL_homes_315 ?_
  refine q_bipush (v := (-5 : Int32)) C dL_homes_318 (by decide) ?_
  refine q_icmp_ne_f C 359 dL_homes_320 (by decide) (by decide) ?_
  refine q_aload_n C dL_homes_323 rfl 0 rfl ?_
  refine q_iconst (v := (0 : Int32)) C dL_homes_324 (by decide) ?_
  refine o_ordered C hs28 ⟨Nat.le_of_ble_eq_true rfl, Nat.le_of_ble_eq_true rfl⟩ ⟨Nat.le_of_ble_eq_true rfl, Nat.le_of_ble_eq_true rfl⟩ (Nat.le_of_ble_eq_true rfl) dL_homes_325 ?_
  refine q_iconst (v := (2 : Int32)) C dL_homes_328 (by decide) ?_
  refine q_icmp_ne_f C 359 dL_homes_329 (by decide) (by decide) ?_
  refine q_aload_n C dL_homes_332 rfl 0 rfl ?_
  refine q_iconst (v := (1 : Int32)) C dL_homes_333 (by decide) ?_
  refine o_ordered C hs29 ⟨Nat.le_of_ble_eq_true rfl, Nat.le_of_ble_eq_true rfl⟩ ⟨Nat.le_of_ble_eq_true rfl, Nat.le_of_ble_eq_true rfl⟩ (Nat.le_of_ble_eq_true rfl) dL_homes_334 ?_
  refine q_iconst (v := (1 : Int32)) C dL_homes_337 (by decide) ?_
  refine q_icmp_ne_f C 359 dL_homes_338 (by decide) (by decide) ?_
  refine q_aload_n C dL_homes_341 rfl 0 rfl ?_
  refine q_iconst (v := (2 : Int32)) C dL_homes_342 (by decide) ?_
  refine o_ordered C hs30 ⟨Nat.le_of_ble_eq_true rfl, Nat.le_of_ble_eq_true rfl⟩ ⟨Nat.le_of_ble_eq_true rfl, Nat.le_of_ble_eq_true rfl⟩ (Nat.le_of_ble_eq_true rfl) dL_homes_343 ?_
  refine q_if_ne_f C 359 dL_homes_346 (by decide) (by decide) ?_
  refine q_aload_n C dL_homes_349 rfl 0 rfl ?_
  refine q_iconst (v := (3 : Int32)) C dL_homes_350 (by decide) ?_
  refine o_ordered C hs31 ⟨Nat.le_of_ble_eq_true rfl, Nat.le_of_ble_eq_true rfl⟩ ⟨Nat.le_of_ble_eq_true rfl, Nat.le_of_ble_eq_true rfl⟩ (Nat.le_of_ble_eq_true rfl) dL_homes_351 ?_
  refine q_bipush (v := (-5 : Int32)) C dL_homes_354 (by decide) ?_
  refine q_icmp_eq_t C 361 dL_homes_356 (by decide) (by decide) ?_
  refine q_aload_n C dL_homes_361 rfl 0 rfl ?_
  refine q_iconst (v := (2 : Int32)) C dL_homes_362 (by decide) ?_
  refine q_bipush (v := (-5 : Int32)) C dL_homes_363 (by decide) ?_
  refine o_wouldGet C hs32 ⟨Nat.le_of_ble_eq_true rfl, Nat.le_of_ble_eq_true rfl⟩ ⟨Nat.le_of_ble_eq_true rfl, Nat.le_of_ble_eq_true rfl⟩ (Nat.le_of_ble_eq_true rfl) dL_homes_365 ?_
  refine q_if_ne_f C 559 dL_homes_368 (by decide) (by decide) ?_
  refine q_aload_n C dL_homes_371 rfl 0 rfl ?_
  refine q_iconst (v := (1 : Int32)) C dL_homes_372 (by decide) ?_
  refine q_bipush (v := (-5 : Int32)) C dL_homes_373 (by decide) ?_
  refine o_wouldGet C hs33 ⟨Nat.le_of_ble_eq_true rfl, Nat.le_of_ble_eq_true rfl⟩ ⟨Nat.le_of_ble_eq_true rfl, Nat.le_of_ble_eq_true rfl⟩ (Nat.le_of_ble_eq_true rfl) dL_homes_375 ?_
  refine q_iconst (v := (1 : Int32)) C dL_homes_378 (by decide) ?_
  refine q_icmp_ne_f C 559 dL_homes_379 (by decide) (by decide) ?_
  refine q_aload_n C dL_homes_382 rfl 0 rfl ?_
  refine q_iconst (v := (0 : Int32)) C dL_homes_383 (by decide) ?_
  refine q_bipush (v := (-5 : Int32)) C dL_homes_384 (by decide) ?_
  refine o_wouldGet C hs34 ⟨Nat.le_of_ble_eq_true rfl, Nat.le_of_ble_eq_true rfl⟩ ⟨Nat.le_of_ble_eq_true rfl, Nat.le_of_ble_eq_true rfl⟩ (Nat.le_of_ble_eq_true rfl) dL_homes_386 ?_
  refine q_bipush (v := (-5 : Int32)) C dL_homes_389 (by decide) ?_
  refine q_icmp_ne_f C 559 dL_homes_391 (by decide) (by decide) ?_
  refine q_aload_n C dL_homes_394 rfl 0 rfl ?_
  refine q_iconst (v := (0 : Int32)) C dL_homes_395 (by decide) ?_
  refine q_iconst (v := (2 : Int32)) C dL_homes_396 (by decide) ?_
  refine o_wouldGet C hs35 ⟨Nat.le_of_ble_eq_true rfl, Nat.le_of_ble_eq_true rfl⟩ ⟨Nat.le_of_ble_eq_true rfl, Nat.le_of_ble_eq_true rfl⟩ (Nat.le_of_ble_eq_true rfl) dL_homes_397 ?_
  refine q_if_ne_f C 559 dL_homes_400 (by decide) (by decide) ?_
  refine q_aload_n C dL_homes_403 rfl 0 rfl ?_
  refine q_iconst (v := (0 : Int32)) C dL_homes_404 (by decide) ?_
  refine q_iconst (v := (1 : Int32)) C dL_homes_405 (by decide) ?_
  refine o_wouldGet C hs36 ⟨Nat.le_of_ble_eq_true rfl, Nat.le_of_ble_eq_true rfl⟩ ⟨Nat.le_of_ble_eq_true rfl, Nat.le_of_ble_eq_true rfl⟩ (Nat.le_of_ble_eq_true rfl) dL_homes_406 ?_
  refine q_iconst (v := (1 : Int32)) C dL_homes_409 (by decide) ?_
  refine q_icmp_ne_f C 559 dL_homes_410 (by decide) (by decide) ?_
  refine q_aload_n C dL_homes_413 rfl 0 rfl ?_
  refine o_most C hs37 ⟨Nat.le_of_ble_eq_true rfl, Nat.le_of_ble_eq_true rfl⟩ ⟨Nat.le_of_ble_eq_true rfl, Nat.le_of_ble_eq_true rfl⟩ (Nat.le_of_ble_eq_true rfl) dL_homes_414 ?_
  refine q_iconst (v := (3 : Int32)) C dL_homes_417 (by decide) ?_
  refine q_icmp_ne_f C 559 dL_homes_418 (by decide) (by decide) ?_
  refine q_aload_n C dL_homes_421 rfl 0 rfl ?_
  refine q_iconst (v := (1 : Int32)) C dL_homes_422 (by decide) ?_
  refine q_iconst (v := (0 : Int32)) C dL_homes_423 (by decide) ?_
  refine o_appeal C hs38 ⟨Nat.le_of_ble_eq_true rfl, Nat.le_of_ble_eq_true rfl⟩ ⟨Nat.le_of_ble_eq_true rfl, Nat.le_of_ble_eq_true rfl⟩ (Nat.le_of_ble_eq_true rfl) dL_homes_424 ?_
  refine q_if_ne_f C 559 dL_homes_427 (by decide) (by decide) ?_
  refine q_aload_n C dL_homes_430 rfl 0 rfl ?_
  refine o_undo C hs39 ⟨Nat.le_of_ble_eq_true rfl, Nat.le_of_ble_eq_true rfl⟩ ⟨Nat.le_of_ble_eq_true rfl, Nat.le_of_ble_eq_true rfl⟩ (Nat.le_of_ble_eq_true rfl) dL_homes_431 ?_
  refine q_iconst (v := (3 : Int32)) C dL_homes_434 (by decide) ?_
  refine q_icmp_ne_f C 559 dL_homes_435 (by decide) (by decide) ?_
  refine q_aload_n C dL_homes_438 rfl 0 rfl ?_
  refine o_round C hs40 ⟨Nat.le_of_ble_eq_true rfl, Nat.le_of_ble_eq_true rfl⟩ ⟨Nat.le_of_ble_eq_true rfl, Nat.le_of_ble_eq_true rfl⟩ (Nat.le_of_ble_eq_true rfl) dL_homes_439 ?_
  refine q_iconst (v := (2 : Int32)) C dL_homes_442 (by decide) ?_
  refine q_icmp_ne_f C 559 dL_homes_443 (by decide) (by decide) ?_
  refine q_aload_n C dL_homes_446 rfl 0 rfl ?_
  refine q_iconst (v := (2 : Int32)) C dL_homes_447 (by decide) ?_
  refine o_count C hs41 ⟨Nat.le_of_ble_eq_true rfl, Nat.le_of_ble_eq_true rfl⟩ ⟨Nat.le_of_ble_eq_true rfl, Nat.le_of_ble_eq_true rfl⟩ (Nat.le_of_ble_eq_true rfl) dL_homes_448 ?_
  refine q_iconst (v := (2 : Int32)) C dL_homes_451 (by decide) ?_
  refine q_icmp_ne_f C 559 dL_homes_452 (by decide) (by decide) ?_
  exact next
set_option maxHeartbeats 8000000 in
theorem homes_2 {p : Program} {l : Launch} {e : Env} {s : State} {m : MethodId} {args : Array Value} {below : List Frame} {meth : Method} {c : Code} {D : va_G} {cs : Nat → ClassId} {Q : State → Prop} {ad : Nat → Nat} (C : CQ p s m args meth c cL_homes 3 D cs) (next : VX p l e (rmC 8 510 3524) s m args below meth c 3 D (fun q => s.heap.size ≤ q) 255 1762 Q (gW cs ad hg20 []) 662 [(0, .ref (ad 0))] []) : VX p l e (rmC 8 510 3524) s m args below meth c 3 D (fun q => s.heap.size ≤ q) 255 1762 Q (gW cs ad hg16 []) 455 [(0, .ref (ad 0))] [] := by
  refine q_aload_n C dL_homes_455 rfl 0 rfl ?_
  refine q_iconst (v := (3 : Int32)) C dL_homes_456 (by decide) ?_
  refine o_count C hs42 ⟨Nat.le_of_ble_eq_true rfl, Nat.le_of_ble_eq_true rfl⟩ ⟨Nat.le_of_ble_eq_true rfl, Nat.le_of_ble_eq_true rfl⟩ (Nat.le_of_ble_eq_true rfl) dL_homes_457 ?_
  refine q_iconst (v := (1 : Int32)) C dL_homes_460 (by decide) ?_
  refine q_icmp_ne_f C 559 dL_homes_461 (by decide) (by decide) ?_
  refine q_aload_n C dL_homes_464 rfl 0 rfl ?_
  refine q_iconst (v := (0 : Int32)) C dL_homes_465 (by decide) ?_
  refine q_bipush (v := (9 : Int32)) C dL_homes_466 (by decide) ?_
  refine o_household C hs43 ⟨Nat.le_of_ble_eq_true rfl, Nat.le_of_ble_eq_true rfl⟩ ⟨Nat.le_of_ble_eq_true rfl, Nat.le_of_ble_eq_true rfl⟩ (Nat.le_of_ble_eq_true rfl) dL_homes_468 ?_
  refine q_iconst (v := (1 : Int32)) C dL_homes_471 (by decide) ?_
  refine q_icmp_ne_f C 559 dL_homes_472 (by decide) (by decide) ?_
  refine q_aload_n C dL_homes_475 rfl 0 rfl ?_
  refine q_iconst (v := (2 : Int32)) C dL_homes_476 (by decide) ?_
  refine q_bipush (v := (9 : Int32)) C dL_homes_477 (by decide) ?_
  refine o_household C hs44 ⟨Nat.le_of_ble_eq_true rfl, Nat.le_of_ble_eq_true rfl⟩ ⟨Nat.le_of_ble_eq_true rfl, Nat.le_of_ble_eq_true rfl⟩ (Nat.le_of_ble_eq_true rfl) dL_homes_479 ?_
  refine q_if_ne_f C 559 dL_homes_482 (by decide) (by decide) ?_
  refine q_aload_n C dL_homes_485 rfl 0 rfl ?_
  refine q_iconst (v := (0 : Int32)) C dL_homes_486 (by decide) ?_
  refine q_iconst (v := (2 : Int32)) C dL_homes_487 (by decide) ?_
  refine o_flat C hs45 ⟨Nat.le_of_ble_eq_true rfl, Nat.le_of_ble_eq_true rfl⟩ ⟨Nat.le_of_ble_eq_true rfl, Nat.le_of_ble_eq_true rfl⟩ (Nat.le_of_ble_eq_true rfl) dL_homes_488 ?_
  refine q_iconst (v := (2 : Int32)) C dL_homes_491 (by decide) ?_
  refine q_icmp_ne_f C 559 dL_homes_492 (by decide) (by decide) ?_
  refine q_aload_n C dL_homes_495 rfl 0 rfl ?_
  refine q_iconst (v := (1 : Int32)) C dL_homes_496 (by decide) ?_
  refine q_iconst (v := (2 : Int32)) C dL_homes_497 (by decide) ?_
  refine o_flat C hs46 ⟨Nat.le_of_ble_eq_true rfl, Nat.le_of_ble_eq_true rfl⟩ ⟨Nat.le_of_ble_eq_true rfl, Nat.le_of_ble_eq_true rfl⟩ (Nat.le_of_ble_eq_true rfl) dL_homes_498 ?_
  refine q_iconst (v := (1 : Int32)) C dL_homes_501 (by decide) ?_
  refine q_icmp_ne_f C 559 dL_homes_502 (by decide) (by decide) ?_
  refine q_aload_n C dL_homes_505 rfl 0 rfl ?_
  refine q_iconst (v := (0 : Int32)) C dL_homes_506 (by decide) ?_
  refine q_iconst (v := (2 : Int32)) C dL_homes_507 (by decide) ?_
  refine o_envies C hs47 ⟨Nat.le_of_ble_eq_true rfl, Nat.le_of_ble_eq_true rfl⟩ ⟨Nat.le_of_ble_eq_true rfl, Nat.le_of_ble_eq_true rfl⟩ (Nat.le_of_ble_eq_true rfl) dL_homes_508 ?_
  refine q_iconst (v := (1 : Int32)) C dL_homes_511 (by decide) ?_
  refine q_icmp_ne_f C 559 dL_homes_512 (by decide) (by decide) ?_
  refine q_aload_n C dL_homes_515 rfl 0 rfl ?_
  refine q_iconst (v := (0 : Int32)) C dL_homes_516 (by decide) ?_
  refine q_iconst (v := (1 : Int32)) C dL_homes_517 (by decide) ?_
  refine o_envies C hs48 ⟨Nat.le_of_ble_eq_true rfl, Nat.le_of_ble_eq_true rfl⟩ ⟨Nat.le_of_ble_eq_true rfl, Nat.le_of_ble_eq_true rfl⟩ (Nat.le_of_ble_eq_true rfl) dL_homes_518 ?_
  refine q_iconst (v := (1 : Int32)) C dL_homes_521 (by decide) ?_
  refine q_icmp_ne_f C 559 dL_homes_522 (by decide) (by decide) ?_
  refine q_aload_n C dL_homes_525 rfl 0 rfl ?_
  refine q_iconst (v := (1 : Int32)) C dL_homes_526 (by decide) ?_
  refine q_iconst (v := (2 : Int32)) C dL_homes_527 (by decide) ?_
  refine o_envies C hs49 ⟨Nat.le_of_ble_eq_true rfl, Nat.le_of_ble_eq_true rfl⟩ ⟨Nat.le_of_ble_eq_true rfl, Nat.le_of_ble_eq_true rfl⟩ (Nat.le_of_ble_eq_true rfl) dL_homes_528 ?_
  refine q_if_ne_f C 559 dL_homes_531 (by decide) (by decide) ?_
  refine q_aload_n C dL_homes_534 rfl 0 rfl ?_
  refine q_iconst (v := (5 : Int32)) C dL_homes_535 (by decide) ?_
  refine o_count C hs50 ⟨Nat.le_of_ble_eq_true rfl, Nat.le_of_ble_eq_true rfl⟩ ⟨Nat.le_of_ble_eq_true rfl, Nat.le_of_ble_eq_true rfl⟩ (Nat.le_of_ble_eq_true rfl) dL_homes_536 ?_
  refine q_iconst (v := (2 : Int32)) C dL_homes_539 (by decide) ?_
  refine q_icmp_ne_f C 559 dL_homes_540 (by decide) (by decide) ?_
  refine q_aload_n C dL_homes_543 rfl 0 rfl ?_
  refine q_bipush (v := (6 : Int32)) C dL_homes_544 (by decide) ?_
  refine o_count C hs51 ⟨Nat.le_of_ble_eq_true rfl, Nat.le_of_ble_eq_true rfl⟩ ⟨Nat.le_of_ble_eq_true rfl, Nat.le_of_ble_eq_true rfl⟩ (Nat.le_of_ble_eq_true rfl) dL_homes_546 ?_
  refine q_if_ne_f C 559 dL_homes_549 (by decide) (by decide) ?_
  refine q_aload_n C dL_homes_552 rfl 0 rfl ?_
  refine q_go (fun G => ?_)
  refine q_callSI (n := 1) (As := [.ref (ad 0)]) (maxL := 4) (ret := some .boolean) C (c_refused (g := hg16) G (by decide +kernel) (by decide +kernel) (by decide +kernel)) qG_Lrefused rfl (by decide +kernel) ⟨Nat.le_of_ble_eq_true rfl, Nat.le_of_ble_eq_true rfl⟩ ⟨Nat.le_of_ble_eq_true rfl, Nat.le_of_ble_eq_true rfl⟩ rfl rfl rfl (Nat.le_of_ble_eq_true rfl) dL_homes_553 ?_
  refine q_if_ne_t C 561 dL_homes_556 (by decide) (by decide) ?_
  refine q_aload_n C dL_homes_561 rfl 0 rfl ?_
  refine q_iconst (v := (0 : Int32)) C dL_homes_562 (by decide) ?_
  refine q_iconst (v := (0 : Int32)) C dL_homes_563 (by decide) ?_
  refine o_appeal C hs52 ⟨Nat.le_of_ble_eq_true rfl, Nat.le_of_ble_eq_true rfl⟩ ⟨Nat.le_of_ble_eq_true rfl, Nat.le_of_ble_eq_true rfl⟩ (Nat.le_of_ble_eq_true rfl) dL_homes_564 ?_
  refine q_bipush (v := (101 : Int32)) C dL_homes_567 (by decide) ?_
  refine q_icmp_ne_f C 767 dL_homes_569 (by decide) (by decide) ?_
  refine q_aload_n C dL_homes_572 rfl 0 rfl ?_
  refine q_iconst (v := (0 : Int32)) C dL_homes_573 (by decide) ?_
  refine q_bipush (v := (7 : Int32)) C dL_homes_574 (by decide) ?_
  refine o_household C hs53 ⟨Nat.le_of_ble_eq_true rfl, Nat.le_of_ble_eq_true rfl⟩ ⟨Nat.le_of_ble_eq_true rfl, Nat.le_of_ble_eq_true rfl⟩ (Nat.le_of_ble_eq_true rfl) dL_homes_576 ?_
  refine q_if_ne_f C 767 dL_homes_579 (by decide) (by decide) ?_
  refine q_aload_n C dL_homes_582 rfl 0 rfl ?_
  refine q_iconst (v := (0 : Int32)) C dL_homes_583 (by decide) ?_
  refine q_iconst (v := (2 : Int32)) C dL_homes_584 (by decide) ?_
  refine o_envies C hs54 ⟨Nat.le_of_ble_eq_true rfl, Nat.le_of_ble_eq_true rfl⟩ ⟨Nat.le_of_ble_eq_true rfl, Nat.le_of_ble_eq_true rfl⟩ (Nat.le_of_ble_eq_true rfl) dL_homes_585 ?_
  refine q_iconst (v := (2 : Int32)) C dL_homes_588 (by decide) ?_
  refine q_icmp_ne_f C 767 dL_homes_589 (by decide) (by decide) ?_
  refine q_aload_n C dL_homes_592 rfl 0 rfl ?_
  refine q_bipush (v := (6 : Int32)) C dL_homes_593 (by decide) ?_
  refine o_count C hs55 ⟨Nat.le_of_ble_eq_true rfl, Nat.le_of_ble_eq_true rfl⟩ ⟨Nat.le_of_ble_eq_true rfl, Nat.le_of_ble_eq_true rfl⟩ (Nat.le_of_ble_eq_true rfl) dL_homes_595 ?_
  refine q_iconst (v := (2 : Int32)) C dL_homes_598 (by decide) ?_
  refine q_icmp_ne_f C 767 dL_homes_599 (by decide) (by decide) ?_
  refine q_aload_n C dL_homes_602 rfl 0 rfl ?_
  refine q_iconst (v := (0 : Int32)) C dL_homes_603 (by decide) ?_
  refine q_iconst (v := (2 : Int32)) C dL_homes_604 (by decide) ?_
  refine o_appeal C hs56 ⟨Nat.le_of_ble_eq_true rfl, Nat.le_of_ble_eq_true rfl⟩ ⟨Nat.le_of_ble_eq_true rfl, Nat.le_of_ble_eq_true rfl⟩ (Nat.le_of_ble_eq_true rfl) dL_homes_605 ?_
  refine q_bipush (v := (104 : Int32)) C dL_homes_608 (by decide) ?_
  refine q_icmp_ne_f C 767 dL_homes_610 (by decide) (by decide) ?_
  refine q_aload_n C dL_homes_613 rfl 0 rfl ?_
  refine q_iconst (v := (0 : Int32)) C dL_homes_614 (by decide) ?_
  refine q_iconst (v := (1 : Int32)) C dL_homes_615 (by decide) ?_
  refine o_appeal C hs57 ⟨Nat.le_of_ble_eq_true rfl, Nat.le_of_ble_eq_true rfl⟩ ⟨Nat.le_of_ble_eq_true rfl, Nat.le_of_ble_eq_true rfl⟩ (Nat.le_of_ble_eq_true rfl) dL_homes_616 ?_
  refine q_bipush (v := (-3 : Int32)) C dL_homes_619 (by decide) ?_
  refine q_icmp_ne_f C 767 dL_homes_621 (by decide) (by decide) ?_
  refine q_aload_n C dL_homes_624 rfl 0 rfl ?_
  refine q_iconst (v := (2 : Int32)) C dL_homes_625 (by decide) ?_
  refine q_iconst (v := (1 : Int32)) C dL_homes_626 (by decide) ?_
  refine o_appeal C hs58 ⟨Nat.le_of_ble_eq_true rfl, Nat.le_of_ble_eq_true rfl⟩ ⟨Nat.le_of_ble_eq_true rfl, Nat.le_of_ble_eq_true rfl⟩ (Nat.le_of_ble_eq_true rfl) dL_homes_627 ?_
  refine q_if_ne_f C 767 dL_homes_630 (by decide) (by decide) ?_
  refine q_aload_n C dL_homes_633 rfl 0 rfl ?_
  refine q_iconst (v := (1 : Int32)) C dL_homes_634 (by decide) ?_
  refine q_iconst (v := (0 : Int32)) C dL_homes_635 (by decide) ?_
  refine o_appeal C hs59 ⟨Nat.le_of_ble_eq_true rfl, Nat.le_of_ble_eq_true rfl⟩ ⟨Nat.le_of_ble_eq_true rfl, Nat.le_of_ble_eq_true rfl⟩ (Nat.le_of_ble_eq_true rfl) dL_homes_636 ?_
  refine q_if_ne_f C 767 dL_homes_639 (by decide) (by decide) ?_
  refine q_aload_n C dL_homes_642 rfl 0 rfl ?_
  refine q_bipush (v := (8 : Int32)) C dL_homes_643 (by decide) ?_
  refine o_count C hs60 ⟨Nat.le_of_ble_eq_true rfl, Nat.le_of_ble_eq_true rfl⟩ ⟨Nat.le_of_ble_eq_true rfl, Nat.le_of_ble_eq_true rfl⟩ (Nat.le_of_ble_eq_true rfl) dL_homes_645 ?_
  refine q_iconst (v := (4 : Int32)) C dL_homes_648 (by decide) ?_
  refine q_icmp_ne_f C 767 dL_homes_649 (by decide) (by decide) ?_
  refine q_aload_n C dL_homes_652 rfl 0 rfl ?_
  refine q_bipush (v := (9 : Int32)) C dL_homes_653 (by decide) ?_
  refine o_count C hs61 ⟨Nat.le_of_ble_eq_true rfl, Nat.le_of_ble_eq_true rfl⟩ ⟨Nat.le_of_ble_eq_true rfl, Nat.le_of_ble_eq_true rfl⟩ (Nat.le_of_ble_eq_true rfl) dL_homes_655 ?_
  refine q_iconst (v := (2 : Int32)) C dL_homes_658 (by decide) ?_
  refine q_icmp_ne_f C 767 dL_homes_659 (by decide) (by decide) ?_
  exact next
set_option maxHeartbeats 8000000 in
theorem homes_3 {p : Program} {l : Launch} {e : Env} {s : State} {m : MethodId} {args : Array Value} {below : List Frame} {meth : Method} {c : Code} {D : va_G} {cs : Nat → ClassId} {Q : State → Prop} {ad : Nat → Nat} (C : CQ p s m args meth c cL_homes 3 D cs) (next : VX p l e (rmC 8 510 3524) s m args below meth c 3 D (fun q => s.heap.size ≤ q) 255 1762 Q (gW cs ad hg26 []) 881 [(0, .ref (ad 0))] []) : VX p l e (rmC 8 510 3524) s m args below meth c 3 D (fun q => s.heap.size ≤ q) 255 1762 Q (gW cs ad hg20 []) 662 [(0, .ref (ad 0))] [] := by
  refine q_aload_n C dL_homes_662 rfl 0 rfl ?_
  refine q_iconst (v := (1 : Int32)) C dL_homes_663 (by decide) ?_
  refine q_bipush (v := (6 : Int32)) C dL_homes_664 (by decide) ?_
  refine o_household C hs62 ⟨Nat.le_of_ble_eq_true rfl, Nat.le_of_ble_eq_true rfl⟩ ⟨Nat.le_of_ble_eq_true rfl, Nat.le_of_ble_eq_true rfl⟩ (Nat.le_of_ble_eq_true rfl) dL_homes_666 ?_
  refine q_iconst (v := (1 : Int32)) C dL_homes_669 (by decide) ?_
  refine q_icmp_ne_f C 767 dL_homes_670 (by decide) (by decide) ?_
  refine q_aload_n C dL_homes_673 rfl 0 rfl ?_
  refine o_round C hs63 ⟨Nat.le_of_ble_eq_true rfl, Nat.le_of_ble_eq_true rfl⟩ ⟨Nat.le_of_ble_eq_true rfl, Nat.le_of_ble_eq_true rfl⟩ (Nat.le_of_ble_eq_true rfl) dL_homes_674 ?_
  refine q_if_ne_f C 767 dL_homes_677 (by decide) (by decide) ?_
  refine q_aload_n C dL_homes_680 rfl 0 rfl ?_
  refine q_iconst (v := (0 : Int32)) C dL_homes_681 (by decide) ?_
  refine q_bipush (v := (9 : Int32)) C dL_homes_682 (by decide) ?_
  refine o_household C hs64 ⟨Nat.le_of_ble_eq_true rfl, Nat.le_of_ble_eq_true rfl⟩ ⟨Nat.le_of_ble_eq_true rfl, Nat.le_of_ble_eq_true rfl⟩ (Nat.le_of_ble_eq_true rfl) dL_homes_684 ?_
  refine q_iconst (v := (2 : Int32)) C dL_homes_687 (by decide) ?_
  refine q_icmp_ne_f C 767 dL_homes_688 (by decide) (by decide) ?_
  refine q_aload_n C dL_homes_691 rfl 0 rfl ?_
  refine q_iconst (v := (3 : Int32)) C dL_homes_692 (by decide) ?_
  refine o_count C hs65 ⟨Nat.le_of_ble_eq_true rfl, Nat.le_of_ble_eq_true rfl⟩ ⟨Nat.le_of_ble_eq_true rfl, Nat.le_of_ble_eq_true rfl⟩ (Nat.le_of_ble_eq_true rfl) dL_homes_693 ?_
  refine q_iconst (v := (2 : Int32)) C dL_homes_696 (by decide) ?_
  refine q_icmp_ne_f C 767 dL_homes_697 (by decide) (by decide) ?_
  refine q_aload_n C dL_homes_700 rfl 0 rfl ?_
  refine q_iconst (v := (1 : Int32)) C dL_homes_701 (by decide) ?_
  refine o_decline C hs66 ⟨Nat.le_of_ble_eq_true rfl, Nat.le_of_ble_eq_true rfl⟩ ⟨Nat.le_of_ble_eq_true rfl, Nat.le_of_ble_eq_true rfl⟩ (Nat.le_of_ble_eq_true rfl) dL_homes_702 ?_
  refine q_iconst (v := (1 : Int32)) C dL_homes_705 (by decide) ?_
  refine q_icmp_ne_f C 767 dL_homes_706 (by decide) (by decide) ?_
  refine q_aload_n C dL_homes_709 rfl 0 rfl ?_
  refine q_iconst (v := (1 : Int32)) C dL_homes_710 (by decide) ?_
  refine q_iconst (v := (3 : Int32)) C dL_homes_711 (by decide) ?_
  refine o_household C hs67 ⟨Nat.le_of_ble_eq_true rfl, Nat.le_of_ble_eq_true rfl⟩ ⟨Nat.le_of_ble_eq_true rfl, Nat.le_of_ble_eq_true rfl⟩ (Nat.le_of_ble_eq_true rfl) dL_homes_712 ?_
  refine q_if_ne_f C 767 dL_homes_715 (by decide) (by decide) ?_
  refine q_aload_n C dL_homes_718 rfl 0 rfl ?_
  refine q_iconst (v := (1 : Int32)) C dL_homes_719 (by decide) ?_
  refine q_iconst (v := (5 : Int32)) C dL_homes_720 (by decide) ?_
  refine o_household C hs68 ⟨Nat.le_of_ble_eq_true rfl, Nat.le_of_ble_eq_true rfl⟩ ⟨Nat.le_of_ble_eq_true rfl, Nat.le_of_ble_eq_true rfl⟩ (Nat.le_of_ble_eq_true rfl) dL_homes_721 ?_
  refine q_iconst (v := (1 : Int32)) C dL_homes_724 (by decide) ?_
  refine q_icmp_ne_f C 767 dL_homes_725 (by decide) (by decide) ?_
  refine q_aload_n C dL_homes_728 rfl 0 rfl ?_
  refine q_bipush (v := (10 : Int32)) C dL_homes_729 (by decide) ?_
  refine o_count C hs69 ⟨Nat.le_of_ble_eq_true rfl, Nat.le_of_ble_eq_true rfl⟩ ⟨Nat.le_of_ble_eq_true rfl, Nat.le_of_ble_eq_true rfl⟩ (Nat.le_of_ble_eq_true rfl) dL_homes_731 ?_
  refine q_iconst (v := (1 : Int32)) C dL_homes_734 (by decide) ?_
  refine q_icmp_ne_f C 767 dL_homes_735 (by decide) (by decide) ?_
  refine q_aload_n C dL_homes_738 rfl 0 rfl ?_
  refine o_round C hs70 ⟨Nat.le_of_ble_eq_true rfl, Nat.le_of_ble_eq_true rfl⟩ ⟨Nat.le_of_ble_eq_true rfl, Nat.le_of_ble_eq_true rfl⟩ (Nat.le_of_ble_eq_true rfl) dL_homes_739 ?_
  refine q_iconst (v := (1 : Int32)) C dL_homes_742 (by decide) ?_
  refine q_icmp_ne_f C 767 dL_homes_743 (by decide) (by decide) ?_
  refine q_aload_n C dL_homes_746 rfl 0 rfl ?_
  refine q_iconst (v := (0 : Int32)) C dL_homes_747 (by decide) ?_
  refine q_iconst (v := (4 : Int32)) C dL_homes_748 (by decide) ?_
  refine o_household C hs71 ⟨Nat.le_of_ble_eq_true rfl, Nat.le_of_ble_eq_true rfl⟩ ⟨Nat.le_of_ble_eq_true rfl, Nat.le_of_ble_eq_true rfl⟩ (Nat.le_of_ble_eq_true rfl) dL_homes_749 ?_
  refine q_iconst (v := (1 : Int32)) C dL_homes_752 (by decide) ?_
  refine q_icmp_ne_f C 767 dL_homes_753 (by decide) (by decide) ?_
  refine q_aload_n C dL_homes_756 rfl 0 rfl ?_
  refine q_iconst (v := (1 : Int32)) C dL_homes_757 (by decide) ?_
  refine q_bipush (v := (9 : Int32)) C dL_homes_758 (by decide) ?_
  refine o_household C hs72 ⟨Nat.le_of_ble_eq_true rfl, Nat.le_of_ble_eq_true rfl⟩ ⟨Nat.le_of_ble_eq_true rfl, Nat.le_of_ble_eq_true rfl⟩ (Nat.le_of_ble_eq_true rfl) dL_homes_760 ?_
  refine q_iconst (v := (1 : Int32)) C dL_homes_763 (by decide) ?_
  refine q_icmp_eq_t C 769 dL_homes_764 (by decide) (by decide) ?_
  refine q_aload_n C dL_homes_769 rfl 0 rfl ?_
  refine q_iconst (v := (0 : Int32)) C dL_homes_770 (by decide) ?_
  refine q_bipush (v := (8 : Int32)) C dL_homes_771 (by decide) ?_
  refine o_household C hs73 ⟨Nat.le_of_ble_eq_true rfl, Nat.le_of_ble_eq_true rfl⟩ ⟨Nat.le_of_ble_eq_true rfl, Nat.le_of_ble_eq_true rfl⟩ (Nat.le_of_ble_eq_true rfl) dL_homes_773 ?_
  refine q_iconst (v := (2 : Int32)) C dL_homes_776 (by decide) ?_
  refine q_icmp_ne_f C 991 dL_homes_777 (by decide) (by decide) ?_
  refine q_aload_n C dL_homes_780 rfl 0 rfl ?_
  refine q_iconst (v := (2 : Int32)) C dL_homes_781 (by decide) ?_
  refine q_bipush (v := (8 : Int32)) C dL_homes_782 (by decide) ?_
  refine o_household C hs74 ⟨Nat.le_of_ble_eq_true rfl, Nat.le_of_ble_eq_true rfl⟩ ⟨Nat.le_of_ble_eq_true rfl, Nat.le_of_ble_eq_true rfl⟩ (Nat.le_of_ble_eq_true rfl) dL_homes_784 ?_
  refine q_bipush (v := (-5 : Int32)) C dL_homes_787 (by decide) ?_
  refine q_icmp_ne_f C 991 dL_homes_789 (by decide) (by decide) ?_
  refine q_aload_n C dL_homes_792 rfl 0 rfl ?_
  refine o_swap C hs75 ⟨Nat.le_of_ble_eq_true rfl, Nat.le_of_ble_eq_true rfl⟩ ⟨Nat.le_of_ble_eq_true rfl, Nat.le_of_ble_eq_true rfl⟩ (Nat.le_of_ble_eq_true rfl) dL_homes_793 ?_
  refine q_bipush (v := (-5 : Int32)) C dL_homes_796 (by decide) ?_
  refine q_icmp_ne_f C 991 dL_homes_798 (by decide) (by decide) ?_
  refine q_aload_n C dL_homes_801 rfl 0 rfl ?_
  refine q_iconst (v := (2 : Int32)) C dL_homes_802 (by decide) ?_
  refine q_iconst (v := (0 : Int32)) C dL_homes_803 (by decide) ?_
  refine o_unwish C hs76 ⟨Nat.le_of_ble_eq_true rfl, Nat.le_of_ble_eq_true rfl⟩ ⟨Nat.le_of_ble_eq_true rfl, Nat.le_of_ble_eq_true rfl⟩ (Nat.le_of_ble_eq_true rfl) dL_homes_804 ?_
  refine q_if_ne_f C 991 dL_homes_807 (by decide) (by decide) ?_
  refine q_aload_n C dL_homes_810 rfl 0 rfl ?_
  refine q_iconst (v := (2 : Int32)) C dL_homes_811 (by decide) ?_
  refine q_iconst (v := (0 : Int32)) C dL_homes_812 (by decide) ?_
  refine o_unwish C hs77 ⟨Nat.le_of_ble_eq_true rfl, Nat.le_of_ble_eq_true rfl⟩ ⟨Nat.le_of_ble_eq_true rfl, Nat.le_of_ble_eq_true rfl⟩ (Nat.le_of_ble_eq_true rfl) dL_homes_813 ?_
  refine q_bipush (v := (-5 : Int32)) C dL_homes_816 (by decide) ?_
  refine q_icmp_ne_f C 991 dL_homes_818 (by decide) (by decide) ?_
  refine q_aload_n C dL_homes_821 rfl 0 rfl ?_
  refine q_iconst (v := (2 : Int32)) C dL_homes_822 (by decide) ?_
  refine q_bipush (v := (8 : Int32)) C dL_homes_823 (by decide) ?_
  refine o_household C hs78 ⟨Nat.le_of_ble_eq_true rfl, Nat.le_of_ble_eq_true rfl⟩ ⟨Nat.le_of_ble_eq_true rfl, Nat.le_of_ble_eq_true rfl⟩ (Nat.le_of_ble_eq_true rfl) dL_homes_825 ?_
  refine q_bipush (v := (-5 : Int32)) C dL_homes_828 (by decide) ?_
  refine q_icmp_ne_f C 991 dL_homes_830 (by decide) (by decide) ?_
  refine q_aload_n C dL_homes_833 rfl 0 rfl ?_
  refine q_iconst (v := (2 : Int32)) C dL_homes_834 (by decide) ?_
  refine q_iconst (v := (1 : Int32)) C dL_homes_835 (by decide) ?_
  refine o_wish C hs79 ⟨Nat.le_of_ble_eq_true rfl, Nat.le_of_ble_eq_true rfl⟩ ⟨Nat.le_of_ble_eq_true rfl, Nat.le_of_ble_eq_true rfl⟩ (Nat.le_of_ble_eq_true rfl) dL_homes_836 ?_
  refine q_iconst (v := (2 : Int32)) C dL_homes_839 (by decide) ?_
  refine q_icmp_ne_f C 991 dL_homes_840 (by decide) (by decide) ?_
  refine q_aload_n C dL_homes_843 rfl 0 rfl ?_
  refine q_iconst (v := (2 : Int32)) C dL_homes_844 (by decide) ?_
  refine q_iconst (v := (1 : Int32)) C dL_homes_845 (by decide) ?_
  refine o_wish C hs80 ⟨Nat.le_of_ble_eq_true rfl, Nat.le_of_ble_eq_true rfl⟩ ⟨Nat.le_of_ble_eq_true rfl, Nat.le_of_ble_eq_true rfl⟩ (Nat.le_of_ble_eq_true rfl) dL_homes_846 ?_
  refine q_bipush (v := (-4 : Int32)) C dL_homes_849 (by decide) ?_
  refine q_icmp_ne_f C 991 dL_homes_851 (by decide) (by decide) ?_
  refine q_aload_n C dL_homes_854 rfl 0 rfl ?_
  refine q_iconst (v := (2 : Int32)) C dL_homes_855 (by decide) ?_
  refine q_bipush (v := (8 : Int32)) C dL_homes_856 (by decide) ?_
  refine o_household C hs81 ⟨Nat.le_of_ble_eq_true rfl, Nat.le_of_ble_eq_true rfl⟩ ⟨Nat.le_of_ble_eq_true rfl, Nat.le_of_ble_eq_true rfl⟩ (Nat.le_of_ble_eq_true rfl) dL_homes_858 ?_
  refine q_bipush (v := (-5 : Int32)) C dL_homes_861 (by decide) ?_
  refine q_icmp_ne_f C 991 dL_homes_863 (by decide) (by decide) ?_
  refine q_aload_n C dL_homes_866 rfl 0 rfl ?_
  refine q_iconst (v := (2 : Int32)) C dL_homes_867 (by decide) ?_
  refine q_iconst (v := (1 : Int32)) C dL_homes_868 (by decide) ?_
  refine q_sipush (v := (700 : Int32)) C dL_homes_869 (by decide) ?_
  refine o_change C hs82 ⟨Nat.le_of_ble_eq_true rfl, Nat.le_of_ble_eq_true rfl⟩ ⟨Nat.le_of_ble_eq_true rfl, Nat.le_of_ble_eq_true rfl⟩ (Nat.le_of_ble_eq_true rfl) dL_homes_872 ?_
  refine q_sipush (v := (500 : Int32)) C dL_homes_875 (by decide) ?_
  refine q_icmp_ne_f C 991 dL_homes_878 (by decide) (by decide) ?_
  exact next
