/-! refusesAny (written by wip/p28/tools/mk_r1.py) -/
set_option maxHeartbeats 8000000 in
theorem c_refusesAny0 {g : Gh} (G : GO g) (hn : 1 ≤ nf g.1) (hh : 1 ≤ nh g.1) (h1 : 1 ≤ fP g.1 0 1) : CmI yL_refusesAny wq_refusesAny 6 (fun ad => [.ref (ad 0), .int 0]) g 1 g := by
  refine q_metI (cc := cL_refusesAny) (maxL := 4) (ret := .boolean) rfl (by decide) rfl (fun _ => Nat.le_of_ble_eq_true rfl) (fun p l e s m args below meth c D cs ad C hr hI => ?_)
  have b1 := G.1.1.h1l
  have b0 := G.1.1.h0l
  have h0 : inb 0 (nh g.1) = true := inb_0 hh b1
  have g0 : inb 0 (nf g.1) = true := inb_0 hn b0
  have hb : inb (-1 : Int32) (nh g.1) = false := inb_m1
  have hf : inb (-1 : Int32) (nf g.1) = false := inb_m1
  have h5 : ¬ (-1 : Int32) = (-5 : Int32) := by decide
  have i0 := m30 G hh
  have i1 := m31 G hh h1
  have w6 : fP g.1 0 7 ≤ 6 := (Inv.ls G.1.1 (show 0 < nh g.1 by omega)).1.2
  show VX p l e (rmk 6) s m args below meth c 4 D (AD ad) 0 0 _ (gW cs ad g []) 0 [(0, .ref (ad 0)), (1, .int (0 : Int32))] []
  refine q_iload_n C dL_refusesAny_0 rfl 1 rfl ?_
  refine q_if_ne_f C 8 dL_refusesAny_1 (by decide) (by decide) ?_
  refine q_iconst (v := (-1 : Int32)) C dL_refusesAny_4 (by decide) ?_
  refine q_goto (tgt := 13) C dL_refusesAny_5 (by decide) ?_
  refine q_istore_n C dL_refusesAny_13 rfl (by decide) rfl ?_
  refine q_iload_n C dL_refusesAny_14 rfl 2 rfl ?_
  refine q_if_ne_f C 22 dL_refusesAny_15 (by decide) (by decide) ?_
  refine q_iconst (v := (-1 : Int32)) C dL_refusesAny_18 (by decide) ?_
  refine q_goto (tgt := 27) C dL_refusesAny_19 (by decide) ?_
  refine q_istore_n C dL_refusesAny_27 rfl (by decide) rfl ?_
  refine q_aload_n C dL_refusesAny_28 rfl 2 rfl ?_
  refine q_iload_n C dL_refusesAny_29 rfl 3 rfl ?_
  refine q_if_ne_f C 37 dL_refusesAny_30 (by decide) (by decide) ?_
  refine q_iconst (v := (0 : Int32)) C dL_refusesAny_33 (by decide) ?_
  refine q_goto (tgt := 39) C dL_refusesAny_34 (by decide) ?_
  refine q_iconst (v := (5 : Int32)) C dL_refusesAny_39 (by decide) ?_
  refine o_addFlat C (f_addFlat1 (by decide)) ⟨Nat.le_of_ble_eq_true rfl, Nat.le_of_ble_eq_true rfl⟩ ⟨Nat.le_of_ble_eq_true rfl, Nat.le_of_ble_eq_true rfl⟩ (Nat.le_of_ble_eq_true rfl) dL_refusesAny_40 ?_
  refine q_bipush (v := (-2 : Int32)) C dL_refusesAny_43 (by decide) ?_
  refine q_icmp_ne_f C 238 dL_refusesAny_45 (by decide) (by decide) ?_
  refine q_aload_n C dL_refusesAny_48 rfl 2 rfl ?_
  refine q_iconst (v := (3 : Int32)) C dL_refusesAny_49 (by decide) ?_
  refine q_iload_n C dL_refusesAny_50 rfl 3 rfl ?_
  refine q_if_ne_f C 58 dL_refusesAny_51 (by decide) (by decide) ?_
  refine q_iconst (v := (0 : Int32)) C dL_refusesAny_54 (by decide) ?_
  refine q_goto (tgt := 61) C dL_refusesAny_55 (by decide) ?_
  refine o_addFlat C (f_addFlat2 (by decide)) ⟨Nat.le_of_ble_eq_true rfl, Nat.le_of_ble_eq_true rfl⟩ ⟨Nat.le_of_ble_eq_true rfl, Nat.le_of_ble_eq_true rfl⟩ (Nat.le_of_ble_eq_true rfl) dL_refusesAny_61 ?_
  refine q_bipush (v := (-2 : Int32)) C dL_refusesAny_64 (by decide) ?_
  refine q_icmp_ne_f C 238 dL_refusesAny_66 (by decide) (by decide) ?_
  refine q_aload_n C dL_refusesAny_69 rfl 2 rfl ?_
  refine q_iload_n C dL_refusesAny_70 rfl 3 rfl ?_
  refine q_if_ne_f C 78 dL_refusesAny_71 (by decide) (by decide) ?_
  refine q_iconst (v := (0 : Int32)) C dL_refusesAny_74 (by decide) ?_
  refine q_goto (tgt := 80) C dL_refusesAny_75 (by decide) ?_
  refine q_iconst (v := (5 : Int32)) C dL_refusesAny_80 (by decide) ?_
  refine o_addHousehold C (f_addHouse1 (by decide)) ⟨Nat.le_of_ble_eq_true rfl, Nat.le_of_ble_eq_true rfl⟩ ⟨Nat.le_of_ble_eq_true rfl, Nat.le_of_ble_eq_true rfl⟩ (Nat.le_of_ble_eq_true rfl) dL_refusesAny_81 ?_
  refine q_bipush (v := (-2 : Int32)) C dL_refusesAny_84 (by decide) ?_
  refine q_icmp_ne_f C 238 dL_refusesAny_86 (by decide) (by decide) ?_
  refine q_aload_n C dL_refusesAny_89 rfl 2 rfl ?_
  refine q_iconst (v := (5 : Int32)) C dL_refusesAny_90 (by decide) ?_
  refine q_iload_n C dL_refusesAny_91 rfl 3 rfl ?_
  refine q_if_ne_f C 99 dL_refusesAny_92 (by decide) (by decide) ?_
  refine q_iconst (v := (0 : Int32)) C dL_refusesAny_95 (by decide) ?_
  refine q_goto (tgt := 102) C dL_refusesAny_96 (by decide) ?_
  refine o_addHousehold C (f_addHouse2 (by decide)) ⟨Nat.le_of_ble_eq_true rfl, Nat.le_of_ble_eq_true rfl⟩ ⟨Nat.le_of_ble_eq_true rfl, Nat.le_of_ble_eq_true rfl⟩ (Nat.le_of_ble_eq_true rfl) dL_refusesAny_102 ?_
  refine q_bipush (v := (-2 : Int32)) C dL_refusesAny_105 (by decide) ?_
  refine q_icmp_ne_f C 238 dL_refusesAny_107 (by decide) (by decide) ?_
  refine q_aload_n C dL_refusesAny_110 rfl 2 rfl ?_
  refine q_iload_n C dL_refusesAny_111 rfl 0 rfl ?_
  refine q_iconst (v := (1 : Int32)) C dL_refusesAny_112 (by decide) ?_
  refine q_iconst (v := (0 : Int32)) C dL_refusesAny_113 (by decide) ?_
  refine o_change C (f_change_u hb) ⟨Nat.le_of_ble_eq_true rfl, Nat.le_of_ble_eq_true rfl⟩ ⟨Nat.le_of_ble_eq_true rfl, Nat.le_of_ble_eq_true rfl⟩ (Nat.le_of_ble_eq_true rfl) dL_refusesAny_114 ?_
  refine q_iconst (v := (-1 : Int32)) C dL_refusesAny_117 (by decide) ?_
  refine q_icmp_ne_f C 238 dL_refusesAny_118 (by decide) (by decide) ?_
  refine q_aload_n C dL_refusesAny_121 rfl 2 rfl ?_
  refine q_iconst (v := (0 : Int32)) C dL_refusesAny_122 (by decide) ?_
  refine q_iconst (v := (1 : Int32)) C dL_refusesAny_123 (by decide) ?_
  refine q_iload_n C dL_refusesAny_124 rfl 3 rfl ?_
  refine q_if_ne_f C 132 dL_refusesAny_125 (by decide) (by decide) ?_
  refine q_iconst (v := (0 : Int32)) C dL_refusesAny_128 (by decide) ?_
  refine q_goto (tgt := 135) C dL_refusesAny_129 (by decide) ?_
  refine o_change C (f_change_1 h0 (by decide)) ⟨Nat.le_of_ble_eq_true rfl, Nat.le_of_ble_eq_true rfl⟩ ⟨Nat.le_of_ble_eq_true rfl, Nat.le_of_ble_eq_true rfl⟩ (Nat.le_of_ble_eq_true rfl) dL_refusesAny_135 ?_
  refine q_bipush (v := (-2 : Int32)) C dL_refusesAny_138 (by decide) ?_
  refine q_icmp_ne_f C 238 dL_refusesAny_140 (by decide) (by decide) ?_
  refine q_aload_n C dL_refusesAny_143 rfl 2 rfl ?_
  refine q_iconst (v := (0 : Int32)) C dL_refusesAny_144 (by decide) ?_
  refine q_iconst (v := (0 : Int32)) C dL_refusesAny_145 (by decide) ?_
  refine q_iload_n C dL_refusesAny_146 rfl 3 rfl ?_
  refine q_if_ne_f C 154 dL_refusesAny_147 (by decide) (by decide) ?_
  refine q_iconst (v := (0 : Int32)) C dL_refusesAny_150 (by decide) ?_
  refine q_goto (tgt := 156) C dL_refusesAny_151 (by decide) ?_
  refine o_change C (f_change_0 h0 (by decide)) ⟨Nat.le_of_ble_eq_true rfl, Nat.le_of_ble_eq_true rfl⟩ ⟨Nat.le_of_ble_eq_true rfl, Nat.le_of_ble_eq_true rfl⟩ (Nat.le_of_ble_eq_true rfl) dL_refusesAny_156 ?_
  refine q_bipush (v := (-2 : Int32)) C dL_refusesAny_159 (by decide) ?_
  refine q_icmp_ne_f C 238 dL_refusesAny_161 (by decide) (by decide) ?_
  refine q_aload_n C dL_refusesAny_164 rfl 2 rfl ?_
  refine q_iconst (v := (0 : Int32)) C dL_refusesAny_165 (by decide) ?_
  refine q_iconst (v := (0 : Int32)) C dL_refusesAny_166 (by decide) ?_
  refine q_aload_n C dL_refusesAny_167 rfl 2 rfl ?_
  refine q_iconst (v := (0 : Int32)) C dL_refusesAny_168 (by decide) ?_
  refine q_iconst (v := (0 : Int32)) C dL_refusesAny_169 (by decide) ?_
  refine o_household C (f_house_0 h0) ⟨Nat.le_of_ble_eq_true rfl, Nat.le_of_ble_eq_true rfl⟩ ⟨Nat.le_of_ble_eq_true rfl, Nat.le_of_ble_eq_true rfl⟩ (Nat.le_of_ble_eq_true rfl) dL_refusesAny_170 ?_
  refine o_change C (f_change_s0 h0 i0) ⟨Nat.le_of_ble_eq_true rfl, Nat.le_of_ble_eq_true rfl⟩ ⟨Nat.le_of_ble_eq_true rfl, Nat.le_of_ble_eq_true rfl⟩ (Nat.le_of_ble_eq_true rfl) dL_refusesAny_173 ?_
  refine q_bipush (v := (-5 : Int32)) C dL_refusesAny_176 (by decide) ?_
  refine q_icmp_ne_f C 238 dL_refusesAny_178 (by decide) (by decide) ?_
  refine q_aload_n C dL_refusesAny_181 rfl 2 rfl ?_
  refine q_iconst (v := (0 : Int32)) C dL_refusesAny_182 (by decide) ?_
  refine q_iconst (v := (1 : Int32)) C dL_refusesAny_183 (by decide) ?_
  refine q_aload_n C dL_refusesAny_184 rfl 2 rfl ?_
  refine q_iconst (v := (0 : Int32)) C dL_refusesAny_185 (by decide) ?_
  refine q_iconst (v := (1 : Int32)) C dL_refusesAny_186 (by decide) ?_
  refine o_household C (f_house_1 h0) ⟨Nat.le_of_ble_eq_true rfl, Nat.le_of_ble_eq_true rfl⟩ ⟨Nat.le_of_ble_eq_true rfl, Nat.le_of_ble_eq_true rfl⟩ (Nat.le_of_ble_eq_true rfl) dL_refusesAny_187 ?_
  refine o_change C (f_change_s1 h0 i1) ⟨Nat.le_of_ble_eq_true rfl, Nat.le_of_ble_eq_true rfl⟩ ⟨Nat.le_of_ble_eq_true rfl, Nat.le_of_ble_eq_true rfl⟩ (Nat.le_of_ble_eq_true rfl) dL_refusesAny_190 ?_
  refine q_bipush (v := (-5 : Int32)) C dL_refusesAny_193 (by decide) ?_
  refine q_icmp_ne_f C 238 dL_refusesAny_195 (by decide) (by decide) ?_
  refine q_aload_n C dL_refusesAny_198 rfl 2 rfl ?_
  refine q_iload_n C dL_refusesAny_199 rfl 0 rfl ?_
  refine q_iconst (v := (0 : Int32)) C dL_refusesAny_200 (by decide) ?_
  refine o_wish C (f_wish_u1 hb) ⟨Nat.le_of_ble_eq_true rfl, Nat.le_of_ble_eq_true rfl⟩ ⟨Nat.le_of_ble_eq_true rfl, Nat.le_of_ble_eq_true rfl⟩ (Nat.le_of_ble_eq_true rfl) dL_refusesAny_201 ?_
  refine q_iconst (v := (-1 : Int32)) C dL_refusesAny_204 (by decide) ?_
  refine q_icmp_ne_f C 238 dL_refusesAny_205 (by decide) (by decide) ?_
  refine q_aload_n C dL_refusesAny_208 rfl 2 rfl ?_
  refine q_iconst (v := (0 : Int32)) C dL_refusesAny_209 (by decide) ?_
  refine q_iload_n C dL_refusesAny_210 rfl 1 rfl ?_
  refine o_wish C (f_wish_u2 h0 hf) ⟨Nat.le_of_ble_eq_true rfl, Nat.le_of_ble_eq_true rfl⟩ ⟨Nat.le_of_ble_eq_true rfl, Nat.le_of_ble_eq_true rfl⟩ (Nat.le_of_ble_eq_true rfl) dL_refusesAny_211 ?_
  refine q_iconst (v := (-1 : Int32)) C dL_refusesAny_214 (by decide) ?_
  refine q_icmp_ne_f C 238 dL_refusesAny_215 (by decide) (by decide) ?_
  refine q_aload_n C dL_refusesAny_218 rfl 2 rfl ?_
  refine q_iload_n C dL_refusesAny_219 rfl 0 rfl ?_
  refine q_iconst (v := (0 : Int32)) C dL_refusesAny_220 (by decide) ?_
  refine o_unwish C (f_unwish_u1 hb) ⟨Nat.le_of_ble_eq_true rfl, Nat.le_of_ble_eq_true rfl⟩ ⟨Nat.le_of_ble_eq_true rfl, Nat.le_of_ble_eq_true rfl⟩ (Nat.le_of_ble_eq_true rfl) dL_refusesAny_221 ?_
  refine q_iconst (v := (-1 : Int32)) C dL_refusesAny_224 (by decide) ?_
  refine q_icmp_ne_f C 238 dL_refusesAny_225 (by decide) (by decide) ?_
  refine q_aload_n C dL_refusesAny_228 rfl 2 rfl ?_
  refine q_iconst (v := (0 : Int32)) C dL_refusesAny_229 (by decide) ?_
  refine q_iload_n C dL_refusesAny_230 rfl 1 rfl ?_
  refine o_unwish C (f_unwish_u2 h0 hf) ⟨Nat.le_of_ble_eq_true rfl, Nat.le_of_ble_eq_true rfl⟩ ⟨Nat.le_of_ble_eq_true rfl, Nat.le_of_ble_eq_true rfl⟩ (Nat.le_of_ble_eq_true rfl) dL_refusesAny_231 ?_
  refine q_iconst (v := (-1 : Int32)) C dL_refusesAny_234 (by decide) ?_
  refine q_icmp_eq_t C 240 dL_refusesAny_235 (by decide) (by decide) ?_
  refine q_aload_n C dL_refusesAny_240 rfl 2 rfl ?_
  refine q_iload_n C dL_refusesAny_241 rfl 0 rfl ?_
  refine q_iconst (v := (0 : Int32)) C dL_refusesAny_242 (by decide) ?_
  refine o_draw C (f_draw_u hb) ⟨Nat.le_of_ble_eq_true rfl, Nat.le_of_ble_eq_true rfl⟩ ⟨Nat.le_of_ble_eq_true rfl, Nat.le_of_ble_eq_true rfl⟩ (Nat.le_of_ble_eq_true rfl) dL_refusesAny_243 ?_
  refine q_iconst (v := (-1 : Int32)) C dL_refusesAny_246 (by decide) ?_
  refine q_icmp_ne_f C 413 dL_refusesAny_247 (by decide) (by decide) ?_
  refine q_aload_n C dL_refusesAny_250 rfl 2 rfl ?_
  refine q_iconst (v := (0 : Int32)) C dL_refusesAny_251 (by decide) ?_
  refine q_iload_n C dL_refusesAny_252 rfl 3 rfl ?_
  refine q_if_ne_f C 260 dL_refusesAny_253 (by decide) (by decide) ?_
  refine q_iconst (v := (0 : Int32)) C dL_refusesAny_256 (by decide) ?_
  refine q_goto (tgt := 263) C dL_refusesAny_257 (by decide) ?_
  refine o_draw C (f_draw_b h0 (by decide)) ⟨Nat.le_of_ble_eq_true rfl, Nat.le_of_ble_eq_true rfl⟩ ⟨Nat.le_of_ble_eq_true rfl, Nat.le_of_ble_eq_true rfl⟩ (Nat.le_of_ble_eq_true rfl) dL_refusesAny_263 ?_
  refine q_bipush (v := (-2 : Int32)) C dL_refusesAny_266 (by decide) ?_
  refine q_icmp_ne_f C 413 dL_refusesAny_268 (by decide) (by decide) ?_
  refine q_aload_n C dL_refusesAny_271 rfl 2 rfl ?_
  refine q_iload_n C dL_refusesAny_272 rfl 0 rfl ?_
  refine o_decline C (f_decline_u hb) ⟨Nat.le_of_ble_eq_true rfl, Nat.le_of_ble_eq_true rfl⟩ ⟨Nat.le_of_ble_eq_true rfl, Nat.le_of_ble_eq_true rfl⟩ (Nat.le_of_ble_eq_true rfl) dL_refusesAny_273 ?_
  refine q_iconst (v := (-1 : Int32)) C dL_refusesAny_276 (by decide) ?_
  refine q_icmp_ne_f C 413 dL_refusesAny_277 (by decide) (by decide) ?_
  refine q_aload_n C dL_refusesAny_280 rfl 2 rfl ?_
  refine q_iload_n C dL_refusesAny_281 rfl 0 rfl ?_
  refine q_bipush (v := (9 : Int32)) C dL_refusesAny_282 (by decide) ?_
  refine o_appeal C (f_appeal_u hb) ⟨Nat.le_of_ble_eq_true rfl, Nat.le_of_ble_eq_true rfl⟩ ⟨Nat.le_of_ble_eq_true rfl, Nat.le_of_ble_eq_true rfl⟩ (Nat.le_of_ble_eq_true rfl) dL_refusesAny_284 ?_
  refine q_iconst (v := (-1 : Int32)) C dL_refusesAny_287 (by decide) ?_
  refine q_icmp_ne_f C 413 dL_refusesAny_288 (by decide) (by decide) ?_
  refine q_aload_n C dL_refusesAny_291 rfl 2 rfl ?_
  refine q_iconst (v := (0 : Int32)) C dL_refusesAny_292 (by decide) ?_
  refine q_iload_n C dL_refusesAny_293 rfl 3 rfl ?_
  refine q_if_ne_f C 301 dL_refusesAny_294 (by decide) (by decide) ?_
  refine q_iconst (v := (-1 : Int32)) C dL_refusesAny_297 (by decide) ?_
  refine q_goto (tgt := 302) C dL_refusesAny_298 (by decide) ?_
  refine o_appeal C (f_appeal_b h0 (by decide)) ⟨Nat.le_of_ble_eq_true rfl, Nat.le_of_ble_eq_true rfl⟩ ⟨Nat.le_of_ble_eq_true rfl, Nat.le_of_ble_eq_true rfl⟩ (Nat.le_of_ble_eq_true rfl) dL_refusesAny_302 ?_
  refine q_bipush (v := (-2 : Int32)) C dL_refusesAny_305 (by decide) ?_
  refine q_icmp_ne_f C 413 dL_refusesAny_307 (by decide) (by decide) ?_
  refine q_aload_n C dL_refusesAny_310 rfl 2 rfl ?_
  refine q_iload_n C dL_refusesAny_311 rfl 0 rfl ?_
  refine o_moveOut C (f_moveOut_u hb) ⟨Nat.le_of_ble_eq_true rfl, Nat.le_of_ble_eq_true rfl⟩ ⟨Nat.le_of_ble_eq_true rfl, Nat.le_of_ble_eq_true rfl⟩ (Nat.le_of_ble_eq_true rfl) dL_refusesAny_312 ?_
  refine q_iconst (v := (-1 : Int32)) C dL_refusesAny_315 (by decide) ?_
  refine q_icmp_ne_f C 413 dL_refusesAny_316 (by decide) (by decide) ?_
  refine q_aload_n C dL_refusesAny_319 rfl 2 rfl ?_
  refine q_iload_n C dL_refusesAny_320 rfl 1 rfl ?_
  refine q_bipush (v := (9 : Int32)) C dL_refusesAny_321 (by decide) ?_
  refine o_flat C (f_flat_u hf) ⟨Nat.le_of_ble_eq_true rfl, Nat.le_of_ble_eq_true rfl⟩ ⟨Nat.le_of_ble_eq_true rfl, Nat.le_of_ble_eq_true rfl⟩ (Nat.le_of_ble_eq_true rfl) dL_refusesAny_323 ?_
  refine q_iconst (v := (-1 : Int32)) C dL_refusesAny_326 (by decide) ?_
  refine q_icmp_ne_f C 413 dL_refusesAny_327 (by decide) (by decide) ?_
  refine q_aload_n C dL_refusesAny_330 rfl 2 rfl ?_
  refine q_iconst (v := (0 : Int32)) C dL_refusesAny_331 (by decide) ?_
  refine q_iload_n C dL_refusesAny_332 rfl 3 rfl ?_
  refine q_if_ne_f C 340 dL_refusesAny_333 (by decide) (by decide) ?_
  refine q_iconst (v := (-1 : Int32)) C dL_refusesAny_336 (by decide) ?_
  refine q_goto (tgt := 341) C dL_refusesAny_337 (by decide) ?_
  refine o_flat C (f_flat_b g0 (Or.inl rfl)) ⟨Nat.le_of_ble_eq_true rfl, Nat.le_of_ble_eq_true rfl⟩ ⟨Nat.le_of_ble_eq_true rfl, Nat.le_of_ble_eq_true rfl⟩ (Nat.le_of_ble_eq_true rfl) dL_refusesAny_341 ?_
  refine q_bipush (v := (-2 : Int32)) C dL_refusesAny_344 (by decide) ?_
  refine q_icmp_ne_f C 413 dL_refusesAny_346 (by decide) (by decide) ?_
  refine q_aload_n C dL_refusesAny_349 rfl 2 rfl ?_
  refine q_iload_n C dL_refusesAny_350 rfl 0 rfl ?_
  refine q_bipush (v := (99 : Int32)) C dL_refusesAny_351 (by decide) ?_
  refine o_household C (f_house_u hb) ⟨Nat.le_of_ble_eq_true rfl, Nat.le_of_ble_eq_true rfl⟩ ⟨Nat.le_of_ble_eq_true rfl, Nat.le_of_ble_eq_true rfl⟩ (Nat.le_of_ble_eq_true rfl) dL_refusesAny_353 ?_
  refine q_iconst (v := (-1 : Int32)) C dL_refusesAny_356 (by decide) ?_
  refine q_icmp_ne_f C 413 dL_refusesAny_357 (by decide) (by decide) ?_
  refine q_aload_n C dL_refusesAny_360 rfl 2 rfl ?_
  refine q_iconst (v := (0 : Int32)) C dL_refusesAny_361 (by decide) ?_
  refine q_iload_n C dL_refusesAny_362 rfl 3 rfl ?_
  refine q_if_ne_f C 370 dL_refusesAny_363 (by decide) (by decide) ?_
  refine q_iconst (v := (-1 : Int32)) C dL_refusesAny_366 (by decide) ?_
  refine q_goto (tgt := 372) C dL_refusesAny_367 (by decide) ?_
  refine o_household C (f_house_b h0 (Or.inl rfl)) ⟨Nat.le_of_ble_eq_true rfl, Nat.le_of_ble_eq_true rfl⟩ ⟨Nat.le_of_ble_eq_true rfl, Nat.le_of_ble_eq_true rfl⟩ (Nat.le_of_ble_eq_true rfl) dL_refusesAny_372 ?_
  refine q_bipush (v := (-2 : Int32)) C dL_refusesAny_375 (by decide) ?_
  refine q_icmp_ne_f C 413 dL_refusesAny_377 (by decide) (by decide) ?_
  refine q_aload_n C dL_refusesAny_380 rfl 2 rfl ?_
  refine q_iload_n C dL_refusesAny_381 rfl 0 rfl ?_
  refine q_iconst (v := (-1 : Int32)) C dL_refusesAny_382 (by decide) ?_
  refine o_wished C (f_wished_u hb) ⟨Nat.le_of_ble_eq_true rfl, Nat.le_of_ble_eq_true rfl⟩ ⟨Nat.le_of_ble_eq_true rfl, Nat.le_of_ble_eq_true rfl⟩ (Nat.le_of_ble_eq_true rfl) dL_refusesAny_383 ?_
  refine q_iconst (v := (-1 : Int32)) C dL_refusesAny_386 (by decide) ?_
  refine q_icmp_ne_f C 413 dL_refusesAny_387 (by decide) (by decide) ?_
  refine q_aload_n C dL_refusesAny_390 rfl 2 rfl ?_
  refine q_iconst (v := (0 : Int32)) C dL_refusesAny_391 (by decide) ?_
  refine q_iconst (v := (-1 : Int32)) C dL_refusesAny_392 (by decide) ?_
  refine o_wished C (f_wished_b h0) ⟨Nat.le_of_ble_eq_true rfl, Nat.le_of_ble_eq_true rfl⟩ ⟨Nat.le_of_ble_eq_true rfl, Nat.le_of_ble_eq_true rfl⟩ (Nat.le_of_ble_eq_true rfl) dL_refusesAny_393 ?_
  refine q_bipush (v := (-2 : Int32)) C dL_refusesAny_396 (by decide) ?_
  refine q_icmp_ne_f C 413 dL_refusesAny_398 (by decide) (by decide) ?_
  refine q_aload_n C dL_refusesAny_401 rfl 2 rfl ?_
  refine q_iconst (v := (0 : Int32)) C dL_refusesAny_402 (by decide) ?_
  refine q_bipush (v := (6 : Int32)) C dL_refusesAny_403 (by decide) ?_
  refine o_wished C (f_wished_n h0 w6) ⟨Nat.le_of_ble_eq_true rfl, Nat.le_of_ble_eq_true rfl⟩ ⟨Nat.le_of_ble_eq_true rfl, Nat.le_of_ble_eq_true rfl⟩ (Nat.le_of_ble_eq_true rfl) dL_refusesAny_405 ?_
  refine q_bipush (v := (-5 : Int32)) C dL_refusesAny_408 (by decide) ?_
  refine q_icmp_eq_t C 415 dL_refusesAny_410 (by decide) (by decide) ?_
  refine q_aload_n C dL_refusesAny_415 rfl 2 rfl ?_
  refine q_iconst (v := (-1 : Int32)) C dL_refusesAny_416 (by decide) ?_
  refine o_ordered C f_ordered_b ⟨Nat.le_of_ble_eq_true rfl, Nat.le_of_ble_eq_true rfl⟩ ⟨Nat.le_of_ble_eq_true rfl, Nat.le_of_ble_eq_true rfl⟩ (Nat.le_of_ble_eq_true rfl) dL_refusesAny_417 ?_
  refine q_bipush (v := (-2 : Int32)) C dL_refusesAny_420 (by decide) ?_
  refine q_icmp_ne_f C 532 dL_refusesAny_422 (by decide) (by decide) ?_
  refine q_aload_n C dL_refusesAny_425 rfl 2 rfl ?_
  refine q_bipush (v := (12 : Int32)) C dL_refusesAny_426 (by decide) ?_
  refine o_ordered C (f_ordered_n G) ⟨Nat.le_of_ble_eq_true rfl, Nat.le_of_ble_eq_true rfl⟩ ⟨Nat.le_of_ble_eq_true rfl, Nat.le_of_ble_eq_true rfl⟩ (Nat.le_of_ble_eq_true rfl) dL_refusesAny_428 ?_
  refine q_bipush (v := (-5 : Int32)) C dL_refusesAny_431 (by decide) ?_
  refine q_icmp_ne_f C 532 dL_refusesAny_433 (by decide) (by decide) ?_
  refine q_aload_n C dL_refusesAny_436 rfl 2 rfl ?_
  refine q_iload_n C dL_refusesAny_437 rfl 0 rfl ?_
  refine q_iload_n C dL_refusesAny_438 rfl 0 rfl ?_
  refine o_envies C (f_envies_u1 hb) ⟨Nat.le_of_ble_eq_true rfl, Nat.le_of_ble_eq_true rfl⟩ ⟨Nat.le_of_ble_eq_true rfl, Nat.le_of_ble_eq_true rfl⟩ (Nat.le_of_ble_eq_true rfl) dL_refusesAny_439 ?_
  refine q_iconst (v := (-1 : Int32)) C dL_refusesAny_442 (by decide) ?_
  refine q_icmp_ne_f C 532 dL_refusesAny_443 (by decide) (by decide) ?_
  refine q_aload_n C dL_refusesAny_446 rfl 2 rfl ?_
  refine q_iconst (v := (0 : Int32)) C dL_refusesAny_447 (by decide) ?_
  refine q_iload_n C dL_refusesAny_448 rfl 0 rfl ?_
  refine o_envies C (f_envies_u2 h0 hb) ⟨Nat.le_of_ble_eq_true rfl, Nat.le_of_ble_eq_true rfl⟩ ⟨Nat.le_of_ble_eq_true rfl, Nat.le_of_ble_eq_true rfl⟩ (Nat.le_of_ble_eq_true rfl) dL_refusesAny_449 ?_
  refine q_iconst (v := (-1 : Int32)) C dL_refusesAny_452 (by decide) ?_
  refine q_icmp_ne_f C 532 dL_refusesAny_453 (by decide) (by decide) ?_
  refine q_aload_n C dL_refusesAny_456 rfl 2 rfl ?_
  refine q_iconst (v := (0 : Int32)) C dL_refusesAny_457 (by decide) ?_
  refine q_iconst (v := (0 : Int32)) C dL_refusesAny_458 (by decide) ?_
  refine o_envies C (f_envies_s h0) ⟨Nat.le_of_ble_eq_true rfl, Nat.le_of_ble_eq_true rfl⟩ ⟨Nat.le_of_ble_eq_true rfl, Nat.le_of_ble_eq_true rfl⟩ (Nat.le_of_ble_eq_true rfl) dL_refusesAny_459 ?_
  refine q_bipush (v := (-2 : Int32)) C dL_refusesAny_462 (by decide) ?_
  refine q_icmp_ne_f C 532 dL_refusesAny_464 (by decide) (by decide) ?_
  refine q_aload_n C dL_refusesAny_467 rfl 2 rfl ?_
  refine q_iload_n C dL_refusesAny_468 rfl 0 rfl ?_
  refine q_iconst (v := (0 : Int32)) C dL_refusesAny_469 (by decide) ?_
  refine o_wouldGet C (f_would_u1 hb) ⟨Nat.le_of_ble_eq_true rfl, Nat.le_of_ble_eq_true rfl⟩ ⟨Nat.le_of_ble_eq_true rfl, Nat.le_of_ble_eq_true rfl⟩ (Nat.le_of_ble_eq_true rfl) dL_refusesAny_470 ?_
  refine q_iconst (v := (-1 : Int32)) C dL_refusesAny_473 (by decide) ?_
  refine q_icmp_ne_f C 532 dL_refusesAny_474 (by decide) (by decide) ?_
  refine q_aload_n C dL_refusesAny_477 rfl 2 rfl ?_
  refine q_iconst (v := (0 : Int32)) C dL_refusesAny_478 (by decide) ?_
  refine q_iload_n C dL_refusesAny_479 rfl 0 rfl ?_
  refine o_wouldGet C (f_would_u2 h0 hb h5) ⟨Nat.le_of_ble_eq_true rfl, Nat.le_of_ble_eq_true rfl⟩ ⟨Nat.le_of_ble_eq_true rfl, Nat.le_of_ble_eq_true rfl⟩ (Nat.le_of_ble_eq_true rfl) dL_refusesAny_480 ?_
  refine q_iconst (v := (-1 : Int32)) C dL_refusesAny_483 (by decide) ?_
  refine q_icmp_ne_f C 532 dL_refusesAny_484 (by decide) (by decide) ?_
  refine q_aload_n C dL_refusesAny_487 rfl 2 rfl ?_
  refine q_iconst (v := (0 : Int32)) C dL_refusesAny_488 (by decide) ?_
  refine q_bipush (v := (-4 : Int32)) C dL_refusesAny_489 (by decide) ?_
  refine o_wouldGet C (f_would_u2 h0 inb_m4 (by decide)) ⟨Nat.le_of_ble_eq_true rfl, Nat.le_of_ble_eq_true rfl⟩ ⟨Nat.le_of_ble_eq_true rfl, Nat.le_of_ble_eq_true rfl⟩ (Nat.le_of_ble_eq_true rfl) dL_refusesAny_491 ?_
  refine q_iconst (v := (-1 : Int32)) C dL_refusesAny_494 (by decide) ?_
  refine q_icmp_ne_f C 532 dL_refusesAny_495 (by decide) (by decide) ?_
  refine q_aload_n C dL_refusesAny_498 rfl 2 rfl ?_
  refine q_iconst (v := (0 : Int32)) C dL_refusesAny_499 (by decide) ?_
  refine q_iconst (v := (0 : Int32)) C dL_refusesAny_500 (by decide) ?_
  refine o_wouldGet C (f_would_n h0) ⟨Nat.le_of_ble_eq_true rfl, Nat.le_of_ble_eq_true rfl⟩ ⟨Nat.le_of_ble_eq_true rfl, Nat.le_of_ble_eq_true rfl⟩ (Nat.le_of_ble_eq_true rfl) dL_refusesAny_501 ?_
  refine q_bipush (v := (-5 : Int32)) C dL_refusesAny_504 (by decide) ?_
  refine q_icmp_ne_f C 532 dL_refusesAny_506 (by decide) (by decide) ?_
  refine q_aload_n C dL_refusesAny_509 rfl 2 rfl ?_
  refine q_iload_n C dL_refusesAny_510 rfl 3 rfl ?_
  refine q_if_ne_f C 518 dL_refusesAny_511 (by decide) (by decide) ?_
  refine q_iconst (v := (-1 : Int32)) C dL_refusesAny_514 (by decide) ?_
  refine q_goto (tgt := 520) C dL_refusesAny_515 (by decide) ?_
  refine o_count C (f_count_b (Or.inl rfl)) ⟨Nat.le_of_ble_eq_true rfl, Nat.le_of_ble_eq_true rfl⟩ ⟨Nat.le_of_ble_eq_true rfl, Nat.le_of_ble_eq_true rfl⟩ (Nat.le_of_ble_eq_true rfl) dL_refusesAny_520 ?_
  refine q_bipush (v := (-2 : Int32)) C dL_refusesAny_523 (by decide) ?_
  refine q_icmp_ne_f C 532 dL_refusesAny_525 (by decide) (by decide) ?_
  refine q_iconst (v := (1 : Int32)) C dL_refusesAny_528 (by decide) ?_
  refine q_goto (tgt := 533) C dL_refusesAny_529 (by decide) ?_
  exact q_iret C hr rfl hI dL_refusesAny_533
set_option maxHeartbeats 8000000 in
theorem c_refusesAny1 {g : Gh} (G : GO g) (hn : 1 ≤ nf g.1) (hh : 1 ≤ nh g.1) (h1 : 1 ≤ fP g.1 0 1) : CmI yL_refusesAny wq_refusesAny 6 (fun ad => [.ref (ad 0), .int 1]) g 1 g := by
  refine q_metI (cc := cL_refusesAny) (maxL := 4) (ret := .boolean) rfl (by decide) rfl (fun _ => Nat.le_of_ble_eq_true rfl) (fun p l e s m args below meth c D cs ad C hr hI => ?_)
  have b1 := G.1.1.h1l
  have b0 := G.1.1.h0l
  have h0 : inb 0 (nh g.1) = true := inb_0 hh b1
  have g0 : inb 0 (nf g.1) = true := inb_0 hn b0
  have hb : inb (nI (nh g.1)) (nh g.1) = false := inb_top b1
  have hf : inb (nI (nf g.1)) (nf g.1) = false := inb_top b0
  have h5 : ¬ (nI (nh g.1)) = (-5 : Int32) := nIne5 (by omega)
  have i0 := m30 G hh
  have i1 := m31 G hh h1
  have w6 : fP g.1 0 7 ≤ 6 := (Inv.ls G.1.1 (show 0 < nh g.1 by omega)).1.2
  show VX p l e (rmk 6) s m args below meth c 4 D (AD ad) 0 0 _ (gW cs ad g []) 0 [(0, .ref (ad 0)), (1, .int (1 : Int32))] []
  refine q_iload_n C dL_refusesAny_0 rfl 1 rfl ?_
  refine q_if_ne_t C 8 dL_refusesAny_1 (by decide) (by decide) ?_
  refine q_aload_n C dL_refusesAny_8 rfl 0 rfl ?_
  refine q_iconst (v := (0 : Int32)) C dL_refusesAny_9 (by decide) ?_
  refine o_count C (f_count_0 G) ⟨Nat.le_of_ble_eq_true rfl, Nat.le_of_ble_eq_true rfl⟩ ⟨Nat.le_of_ble_eq_true rfl, Nat.le_of_ble_eq_true rfl⟩ (Nat.le_of_ble_eq_true rfl) dL_refusesAny_10 ?_
  refine q_istore_n C dL_refusesAny_13 rfl (by decide) rfl ?_
  refine q_iload_n C dL_refusesAny_14 rfl 2 rfl ?_
  refine q_if_ne_t C 22 dL_refusesAny_15 (by decide) (by decide) ?_
  refine q_aload_n C dL_refusesAny_22 rfl 1 rfl ?_
  refine q_iconst (v := (1 : Int32)) C dL_refusesAny_23 (by decide) ?_
  refine o_count C (f_count_1 G) ⟨Nat.le_of_ble_eq_true rfl, Nat.le_of_ble_eq_true rfl⟩ ⟨Nat.le_of_ble_eq_true rfl, Nat.le_of_ble_eq_true rfl⟩ (Nat.le_of_ble_eq_true rfl) dL_refusesAny_24 ?_
  refine q_istore_n C dL_refusesAny_27 rfl (by decide) rfl ?_
  refine q_aload_n C dL_refusesAny_28 rfl 2 rfl ?_
  refine q_iload_n C dL_refusesAny_29 rfl 3 rfl ?_
  refine q_if_ne_t C 37 dL_refusesAny_30 (by decide) (by decide) ?_
  refine q_bipush (v := (6 : Int32)) C dL_refusesAny_37 (by decide) ?_
  refine q_iconst (v := (5 : Int32)) C dL_refusesAny_39 (by decide) ?_
  refine o_addFlat C (f_addFlat1 (by decide)) ⟨Nat.le_of_ble_eq_true rfl, Nat.le_of_ble_eq_true rfl⟩ ⟨Nat.le_of_ble_eq_true rfl, Nat.le_of_ble_eq_true rfl⟩ (Nat.le_of_ble_eq_true rfl) dL_refusesAny_40 ?_
  refine q_bipush (v := (-2 : Int32)) C dL_refusesAny_43 (by decide) ?_
  refine q_icmp_ne_f C 238 dL_refusesAny_45 (by decide) (by decide) ?_
  refine q_aload_n C dL_refusesAny_48 rfl 2 rfl ?_
  refine q_iconst (v := (3 : Int32)) C dL_refusesAny_49 (by decide) ?_
  refine q_iload_n C dL_refusesAny_50 rfl 3 rfl ?_
  refine q_if_ne_t C 58 dL_refusesAny_51 (by decide) (by decide) ?_
  refine q_sipush (v := (1000 : Int32)) C dL_refusesAny_58 (by decide) ?_
  refine o_addFlat C (f_addFlat2 (by decide)) ⟨Nat.le_of_ble_eq_true rfl, Nat.le_of_ble_eq_true rfl⟩ ⟨Nat.le_of_ble_eq_true rfl, Nat.le_of_ble_eq_true rfl⟩ (Nat.le_of_ble_eq_true rfl) dL_refusesAny_61 ?_
  refine q_bipush (v := (-2 : Int32)) C dL_refusesAny_64 (by decide) ?_
  refine q_icmp_ne_f C 238 dL_refusesAny_66 (by decide) (by decide) ?_
  refine q_aload_n C dL_refusesAny_69 rfl 2 rfl ?_
  refine q_iload_n C dL_refusesAny_70 rfl 3 rfl ?_
  refine q_if_ne_t C 78 dL_refusesAny_71 (by decide) (by decide) ?_
  refine q_bipush (v := (10 : Int32)) C dL_refusesAny_78 (by decide) ?_
  refine q_iconst (v := (5 : Int32)) C dL_refusesAny_80 (by decide) ?_
  refine o_addHousehold C (f_addHouse1 (by decide)) ⟨Nat.le_of_ble_eq_true rfl, Nat.le_of_ble_eq_true rfl⟩ ⟨Nat.le_of_ble_eq_true rfl, Nat.le_of_ble_eq_true rfl⟩ (Nat.le_of_ble_eq_true rfl) dL_refusesAny_81 ?_
  refine q_bipush (v := (-2 : Int32)) C dL_refusesAny_84 (by decide) ?_
  refine q_icmp_ne_f C 238 dL_refusesAny_86 (by decide) (by decide) ?_
  refine q_aload_n C dL_refusesAny_89 rfl 2 rfl ?_
  refine q_iconst (v := (5 : Int32)) C dL_refusesAny_90 (by decide) ?_
  refine q_iload_n C dL_refusesAny_91 rfl 3 rfl ?_
  refine q_if_ne_t C 99 dL_refusesAny_92 (by decide) (by decide) ?_
  refine q_sipush (v := (10000 : Int32)) C dL_refusesAny_99 (by decide) ?_
  refine o_addHousehold C (f_addHouse2 (by decide)) ⟨Nat.le_of_ble_eq_true rfl, Nat.le_of_ble_eq_true rfl⟩ ⟨Nat.le_of_ble_eq_true rfl, Nat.le_of_ble_eq_true rfl⟩ (Nat.le_of_ble_eq_true rfl) dL_refusesAny_102 ?_
  refine q_bipush (v := (-2 : Int32)) C dL_refusesAny_105 (by decide) ?_
  refine q_icmp_ne_f C 238 dL_refusesAny_107 (by decide) (by decide) ?_
  refine q_aload_n C dL_refusesAny_110 rfl 2 rfl ?_
  refine q_iload_n C dL_refusesAny_111 rfl 0 rfl ?_
  refine q_iconst (v := (1 : Int32)) C dL_refusesAny_112 (by decide) ?_
  refine q_iconst (v := (0 : Int32)) C dL_refusesAny_113 (by decide) ?_
  refine o_change C (f_change_u hb) ⟨Nat.le_of_ble_eq_true rfl, Nat.le_of_ble_eq_true rfl⟩ ⟨Nat.le_of_ble_eq_true rfl, Nat.le_of_ble_eq_true rfl⟩ (Nat.le_of_ble_eq_true rfl) dL_refusesAny_114 ?_
  refine q_iconst (v := (-1 : Int32)) C dL_refusesAny_117 (by decide) ?_
  refine q_icmp_ne_f C 238 dL_refusesAny_118 (by decide) (by decide) ?_
  refine q_aload_n C dL_refusesAny_121 rfl 2 rfl ?_
  refine q_iconst (v := (0 : Int32)) C dL_refusesAny_122 (by decide) ?_
  refine q_iconst (v := (1 : Int32)) C dL_refusesAny_123 (by decide) ?_
  refine q_iload_n C dL_refusesAny_124 rfl 3 rfl ?_
  refine q_if_ne_t C 132 dL_refusesAny_125 (by decide) (by decide) ?_
  refine q_sipush (v := (10000 : Int32)) C dL_refusesAny_132 (by decide) ?_
  refine o_change C (f_change_1 h0 (by decide)) ⟨Nat.le_of_ble_eq_true rfl, Nat.le_of_ble_eq_true rfl⟩ ⟨Nat.le_of_ble_eq_true rfl, Nat.le_of_ble_eq_true rfl⟩ (Nat.le_of_ble_eq_true rfl) dL_refusesAny_135 ?_
  refine q_bipush (v := (-2 : Int32)) C dL_refusesAny_138 (by decide) ?_
  refine q_icmp_ne_f C 238 dL_refusesAny_140 (by decide) (by decide) ?_
  refine q_aload_n C dL_refusesAny_143 rfl 2 rfl ?_
  refine q_iconst (v := (0 : Int32)) C dL_refusesAny_144 (by decide) ?_
  refine q_iconst (v := (0 : Int32)) C dL_refusesAny_145 (by decide) ?_
  refine q_iload_n C dL_refusesAny_146 rfl 3 rfl ?_
  refine q_if_ne_t C 154 dL_refusesAny_147 (by decide) (by decide) ?_
  refine q_bipush (v := (10 : Int32)) C dL_refusesAny_154 (by decide) ?_
  refine o_change C (f_change_0 h0 (by decide)) ⟨Nat.le_of_ble_eq_true rfl, Nat.le_of_ble_eq_true rfl⟩ ⟨Nat.le_of_ble_eq_true rfl, Nat.le_of_ble_eq_true rfl⟩ (Nat.le_of_ble_eq_true rfl) dL_refusesAny_156 ?_
  refine q_bipush (v := (-2 : Int32)) C dL_refusesAny_159 (by decide) ?_
  refine q_icmp_ne_f C 238 dL_refusesAny_161 (by decide) (by decide) ?_
  refine q_aload_n C dL_refusesAny_164 rfl 2 rfl ?_
  refine q_iconst (v := (0 : Int32)) C dL_refusesAny_165 (by decide) ?_
  refine q_iconst (v := (0 : Int32)) C dL_refusesAny_166 (by decide) ?_
  refine q_aload_n C dL_refusesAny_167 rfl 2 rfl ?_
  refine q_iconst (v := (0 : Int32)) C dL_refusesAny_168 (by decide) ?_
  refine q_iconst (v := (0 : Int32)) C dL_refusesAny_169 (by decide) ?_
  refine o_household C (f_house_0 h0) ⟨Nat.le_of_ble_eq_true rfl, Nat.le_of_ble_eq_true rfl⟩ ⟨Nat.le_of_ble_eq_true rfl, Nat.le_of_ble_eq_true rfl⟩ (Nat.le_of_ble_eq_true rfl) dL_refusesAny_170 ?_
  refine o_change C (f_change_s0 h0 i0) ⟨Nat.le_of_ble_eq_true rfl, Nat.le_of_ble_eq_true rfl⟩ ⟨Nat.le_of_ble_eq_true rfl, Nat.le_of_ble_eq_true rfl⟩ (Nat.le_of_ble_eq_true rfl) dL_refusesAny_173 ?_
  refine q_bipush (v := (-5 : Int32)) C dL_refusesAny_176 (by decide) ?_
  refine q_icmp_ne_f C 238 dL_refusesAny_178 (by decide) (by decide) ?_
  refine q_aload_n C dL_refusesAny_181 rfl 2 rfl ?_
  refine q_iconst (v := (0 : Int32)) C dL_refusesAny_182 (by decide) ?_
  refine q_iconst (v := (1 : Int32)) C dL_refusesAny_183 (by decide) ?_
  refine q_aload_n C dL_refusesAny_184 rfl 2 rfl ?_
  refine q_iconst (v := (0 : Int32)) C dL_refusesAny_185 (by decide) ?_
  refine q_iconst (v := (1 : Int32)) C dL_refusesAny_186 (by decide) ?_
  refine o_household C (f_house_1 h0) ⟨Nat.le_of_ble_eq_true rfl, Nat.le_of_ble_eq_true rfl⟩ ⟨Nat.le_of_ble_eq_true rfl, Nat.le_of_ble_eq_true rfl⟩ (Nat.le_of_ble_eq_true rfl) dL_refusesAny_187 ?_
  refine o_change C (f_change_s1 h0 i1) ⟨Nat.le_of_ble_eq_true rfl, Nat.le_of_ble_eq_true rfl⟩ ⟨Nat.le_of_ble_eq_true rfl, Nat.le_of_ble_eq_true rfl⟩ (Nat.le_of_ble_eq_true rfl) dL_refusesAny_190 ?_
  refine q_bipush (v := (-5 : Int32)) C dL_refusesAny_193 (by decide) ?_
  refine q_icmp_ne_f C 238 dL_refusesAny_195 (by decide) (by decide) ?_
  refine q_aload_n C dL_refusesAny_198 rfl 2 rfl ?_
  refine q_iload_n C dL_refusesAny_199 rfl 0 rfl ?_
  refine q_iconst (v := (0 : Int32)) C dL_refusesAny_200 (by decide) ?_
  refine o_wish C (f_wish_u1 hb) ⟨Nat.le_of_ble_eq_true rfl, Nat.le_of_ble_eq_true rfl⟩ ⟨Nat.le_of_ble_eq_true rfl, Nat.le_of_ble_eq_true rfl⟩ (Nat.le_of_ble_eq_true rfl) dL_refusesAny_201 ?_
  refine q_iconst (v := (-1 : Int32)) C dL_refusesAny_204 (by decide) ?_
  refine q_icmp_ne_f C 238 dL_refusesAny_205 (by decide) (by decide) ?_
  refine q_aload_n C dL_refusesAny_208 rfl 2 rfl ?_
  refine q_iconst (v := (0 : Int32)) C dL_refusesAny_209 (by decide) ?_
  refine q_iload_n C dL_refusesAny_210 rfl 1 rfl ?_
  refine o_wish C (f_wish_u2 h0 hf) ⟨Nat.le_of_ble_eq_true rfl, Nat.le_of_ble_eq_true rfl⟩ ⟨Nat.le_of_ble_eq_true rfl, Nat.le_of_ble_eq_true rfl⟩ (Nat.le_of_ble_eq_true rfl) dL_refusesAny_211 ?_
  refine q_iconst (v := (-1 : Int32)) C dL_refusesAny_214 (by decide) ?_
  refine q_icmp_ne_f C 238 dL_refusesAny_215 (by decide) (by decide) ?_
  refine q_aload_n C dL_refusesAny_218 rfl 2 rfl ?_
  refine q_iload_n C dL_refusesAny_219 rfl 0 rfl ?_
  refine q_iconst (v := (0 : Int32)) C dL_refusesAny_220 (by decide) ?_
  refine o_unwish C (f_unwish_u1 hb) ⟨Nat.le_of_ble_eq_true rfl, Nat.le_of_ble_eq_true rfl⟩ ⟨Nat.le_of_ble_eq_true rfl, Nat.le_of_ble_eq_true rfl⟩ (Nat.le_of_ble_eq_true rfl) dL_refusesAny_221 ?_
  refine q_iconst (v := (-1 : Int32)) C dL_refusesAny_224 (by decide) ?_
  refine q_icmp_ne_f C 238 dL_refusesAny_225 (by decide) (by decide) ?_
  refine q_aload_n C dL_refusesAny_228 rfl 2 rfl ?_
  refine q_iconst (v := (0 : Int32)) C dL_refusesAny_229 (by decide) ?_
  refine q_iload_n C dL_refusesAny_230 rfl 1 rfl ?_
  refine o_unwish C (f_unwish_u2 h0 hf) ⟨Nat.le_of_ble_eq_true rfl, Nat.le_of_ble_eq_true rfl⟩ ⟨Nat.le_of_ble_eq_true rfl, Nat.le_of_ble_eq_true rfl⟩ (Nat.le_of_ble_eq_true rfl) dL_refusesAny_231 ?_
  refine q_iconst (v := (-1 : Int32)) C dL_refusesAny_234 (by decide) ?_
  refine q_icmp_eq_t C 240 dL_refusesAny_235 (by decide) (by decide) ?_
  refine q_aload_n C dL_refusesAny_240 rfl 2 rfl ?_
  refine q_iload_n C dL_refusesAny_241 rfl 0 rfl ?_
  refine q_iconst (v := (0 : Int32)) C dL_refusesAny_242 (by decide) ?_
  refine o_draw C (f_draw_u hb) ⟨Nat.le_of_ble_eq_true rfl, Nat.le_of_ble_eq_true rfl⟩ ⟨Nat.le_of_ble_eq_true rfl, Nat.le_of_ble_eq_true rfl⟩ (Nat.le_of_ble_eq_true rfl) dL_refusesAny_243 ?_
  refine q_iconst (v := (-1 : Int32)) C dL_refusesAny_246 (by decide) ?_
  refine q_icmp_ne_f C 413 dL_refusesAny_247 (by decide) (by decide) ?_
  refine q_aload_n C dL_refusesAny_250 rfl 2 rfl ?_
  refine q_iconst (v := (0 : Int32)) C dL_refusesAny_251 (by decide) ?_
  refine q_iload_n C dL_refusesAny_252 rfl 3 rfl ?_
  refine q_if_ne_t C 260 dL_refusesAny_253 (by decide) (by decide) ?_
  refine q_sipush (v := (1000 : Int32)) C dL_refusesAny_260 (by decide) ?_
  refine o_draw C (f_draw_b h0 (by decide)) ⟨Nat.le_of_ble_eq_true rfl, Nat.le_of_ble_eq_true rfl⟩ ⟨Nat.le_of_ble_eq_true rfl, Nat.le_of_ble_eq_true rfl⟩ (Nat.le_of_ble_eq_true rfl) dL_refusesAny_263 ?_
  refine q_bipush (v := (-2 : Int32)) C dL_refusesAny_266 (by decide) ?_
  refine q_icmp_ne_f C 413 dL_refusesAny_268 (by decide) (by decide) ?_
  refine q_aload_n C dL_refusesAny_271 rfl 2 rfl ?_
  refine q_iload_n C dL_refusesAny_272 rfl 0 rfl ?_
  refine o_decline C (f_decline_u hb) ⟨Nat.le_of_ble_eq_true rfl, Nat.le_of_ble_eq_true rfl⟩ ⟨Nat.le_of_ble_eq_true rfl, Nat.le_of_ble_eq_true rfl⟩ (Nat.le_of_ble_eq_true rfl) dL_refusesAny_273 ?_
  refine q_iconst (v := (-1 : Int32)) C dL_refusesAny_276 (by decide) ?_
  refine q_icmp_ne_f C 413 dL_refusesAny_277 (by decide) (by decide) ?_
  refine q_aload_n C dL_refusesAny_280 rfl 2 rfl ?_
  refine q_iload_n C dL_refusesAny_281 rfl 0 rfl ?_
  refine q_bipush (v := (9 : Int32)) C dL_refusesAny_282 (by decide) ?_
  refine o_appeal C (f_appeal_u hb) ⟨Nat.le_of_ble_eq_true rfl, Nat.le_of_ble_eq_true rfl⟩ ⟨Nat.le_of_ble_eq_true rfl, Nat.le_of_ble_eq_true rfl⟩ (Nat.le_of_ble_eq_true rfl) dL_refusesAny_284 ?_
  refine q_iconst (v := (-1 : Int32)) C dL_refusesAny_287 (by decide) ?_
  refine q_icmp_ne_f C 413 dL_refusesAny_288 (by decide) (by decide) ?_
  refine q_aload_n C dL_refusesAny_291 rfl 2 rfl ?_
  refine q_iconst (v := (0 : Int32)) C dL_refusesAny_292 (by decide) ?_
  refine q_iload_n C dL_refusesAny_293 rfl 3 rfl ?_
  refine q_if_ne_t C 301 dL_refusesAny_294 (by decide) (by decide) ?_
  refine q_iconst (v := (3 : Int32)) C dL_refusesAny_301 (by decide) ?_
  refine o_appeal C (f_appeal_b h0 (by decide)) ⟨Nat.le_of_ble_eq_true rfl, Nat.le_of_ble_eq_true rfl⟩ ⟨Nat.le_of_ble_eq_true rfl, Nat.le_of_ble_eq_true rfl⟩ (Nat.le_of_ble_eq_true rfl) dL_refusesAny_302 ?_
  refine q_bipush (v := (-2 : Int32)) C dL_refusesAny_305 (by decide) ?_
  refine q_icmp_ne_f C 413 dL_refusesAny_307 (by decide) (by decide) ?_
  refine q_aload_n C dL_refusesAny_310 rfl 2 rfl ?_
  refine q_iload_n C dL_refusesAny_311 rfl 0 rfl ?_
  refine o_moveOut C (f_moveOut_u hb) ⟨Nat.le_of_ble_eq_true rfl, Nat.le_of_ble_eq_true rfl⟩ ⟨Nat.le_of_ble_eq_true rfl, Nat.le_of_ble_eq_true rfl⟩ (Nat.le_of_ble_eq_true rfl) dL_refusesAny_312 ?_
  refine q_iconst (v := (-1 : Int32)) C dL_refusesAny_315 (by decide) ?_
  refine q_icmp_ne_f C 413 dL_refusesAny_316 (by decide) (by decide) ?_
  refine q_aload_n C dL_refusesAny_319 rfl 2 rfl ?_
  refine q_iload_n C dL_refusesAny_320 rfl 1 rfl ?_
  refine q_bipush (v := (9 : Int32)) C dL_refusesAny_321 (by decide) ?_
  refine o_flat C (f_flat_u hf) ⟨Nat.le_of_ble_eq_true rfl, Nat.le_of_ble_eq_true rfl⟩ ⟨Nat.le_of_ble_eq_true rfl, Nat.le_of_ble_eq_true rfl⟩ (Nat.le_of_ble_eq_true rfl) dL_refusesAny_323 ?_
  refine q_iconst (v := (-1 : Int32)) C dL_refusesAny_326 (by decide) ?_
  refine q_icmp_ne_f C 413 dL_refusesAny_327 (by decide) (by decide) ?_
  refine q_aload_n C dL_refusesAny_330 rfl 2 rfl ?_
  refine q_iconst (v := (0 : Int32)) C dL_refusesAny_331 (by decide) ?_
  refine q_iload_n C dL_refusesAny_332 rfl 3 rfl ?_
  refine q_if_ne_t C 340 dL_refusesAny_333 (by decide) (by decide) ?_
  refine q_iconst (v := (5 : Int32)) C dL_refusesAny_340 (by decide) ?_
  refine o_flat C (f_flat_b g0 (Or.inr rfl)) ⟨Nat.le_of_ble_eq_true rfl, Nat.le_of_ble_eq_true rfl⟩ ⟨Nat.le_of_ble_eq_true rfl, Nat.le_of_ble_eq_true rfl⟩ (Nat.le_of_ble_eq_true rfl) dL_refusesAny_341 ?_
  refine q_bipush (v := (-2 : Int32)) C dL_refusesAny_344 (by decide) ?_
  refine q_icmp_ne_f C 413 dL_refusesAny_346 (by decide) (by decide) ?_
  refine q_aload_n C dL_refusesAny_349 rfl 2 rfl ?_
  refine q_iload_n C dL_refusesAny_350 rfl 0 rfl ?_
  refine q_bipush (v := (99 : Int32)) C dL_refusesAny_351 (by decide) ?_
  refine o_household C (f_house_u hb) ⟨Nat.le_of_ble_eq_true rfl, Nat.le_of_ble_eq_true rfl⟩ ⟨Nat.le_of_ble_eq_true rfl, Nat.le_of_ble_eq_true rfl⟩ (Nat.le_of_ble_eq_true rfl) dL_refusesAny_353 ?_
  refine q_iconst (v := (-1 : Int32)) C dL_refusesAny_356 (by decide) ?_
  refine q_icmp_ne_f C 413 dL_refusesAny_357 (by decide) (by decide) ?_
  refine q_aload_n C dL_refusesAny_360 rfl 2 rfl ?_
  refine q_iconst (v := (0 : Int32)) C dL_refusesAny_361 (by decide) ?_
  refine q_iload_n C dL_refusesAny_362 rfl 3 rfl ?_
  refine q_if_ne_t C 370 dL_refusesAny_363 (by decide) (by decide) ?_
  refine q_bipush (v := (10 : Int32)) C dL_refusesAny_370 (by decide) ?_
  refine o_household C (f_house_b h0 (Or.inr rfl)) ⟨Nat.le_of_ble_eq_true rfl, Nat.le_of_ble_eq_true rfl⟩ ⟨Nat.le_of_ble_eq_true rfl, Nat.le_of_ble_eq_true rfl⟩ (Nat.le_of_ble_eq_true rfl) dL_refusesAny_372 ?_
  refine q_bipush (v := (-2 : Int32)) C dL_refusesAny_375 (by decide) ?_
  refine q_icmp_ne_f C 413 dL_refusesAny_377 (by decide) (by decide) ?_
  refine q_aload_n C dL_refusesAny_380 rfl 2 rfl ?_
  refine q_iload_n C dL_refusesAny_381 rfl 0 rfl ?_
  refine q_iconst (v := (-1 : Int32)) C dL_refusesAny_382 (by decide) ?_
  refine o_wished C (f_wished_u hb) ⟨Nat.le_of_ble_eq_true rfl, Nat.le_of_ble_eq_true rfl⟩ ⟨Nat.le_of_ble_eq_true rfl, Nat.le_of_ble_eq_true rfl⟩ (Nat.le_of_ble_eq_true rfl) dL_refusesAny_383 ?_
  refine q_iconst (v := (-1 : Int32)) C dL_refusesAny_386 (by decide) ?_
  refine q_icmp_ne_f C 413 dL_refusesAny_387 (by decide) (by decide) ?_
  refine q_aload_n C dL_refusesAny_390 rfl 2 rfl ?_
  refine q_iconst (v := (0 : Int32)) C dL_refusesAny_391 (by decide) ?_
  refine q_iconst (v := (-1 : Int32)) C dL_refusesAny_392 (by decide) ?_
  refine o_wished C (f_wished_b h0) ⟨Nat.le_of_ble_eq_true rfl, Nat.le_of_ble_eq_true rfl⟩ ⟨Nat.le_of_ble_eq_true rfl, Nat.le_of_ble_eq_true rfl⟩ (Nat.le_of_ble_eq_true rfl) dL_refusesAny_393 ?_
  refine q_bipush (v := (-2 : Int32)) C dL_refusesAny_396 (by decide) ?_
  refine q_icmp_ne_f C 413 dL_refusesAny_398 (by decide) (by decide) ?_
  refine q_aload_n C dL_refusesAny_401 rfl 2 rfl ?_
  refine q_iconst (v := (0 : Int32)) C dL_refusesAny_402 (by decide) ?_
  refine q_bipush (v := (6 : Int32)) C dL_refusesAny_403 (by decide) ?_
  refine o_wished C (f_wished_n h0 w6) ⟨Nat.le_of_ble_eq_true rfl, Nat.le_of_ble_eq_true rfl⟩ ⟨Nat.le_of_ble_eq_true rfl, Nat.le_of_ble_eq_true rfl⟩ (Nat.le_of_ble_eq_true rfl) dL_refusesAny_405 ?_
  refine q_bipush (v := (-5 : Int32)) C dL_refusesAny_408 (by decide) ?_
  refine q_icmp_eq_t C 415 dL_refusesAny_410 (by decide) (by decide) ?_
  refine q_aload_n C dL_refusesAny_415 rfl 2 rfl ?_
  refine q_iconst (v := (-1 : Int32)) C dL_refusesAny_416 (by decide) ?_
  refine o_ordered C f_ordered_b ⟨Nat.le_of_ble_eq_true rfl, Nat.le_of_ble_eq_true rfl⟩ ⟨Nat.le_of_ble_eq_true rfl, Nat.le_of_ble_eq_true rfl⟩ (Nat.le_of_ble_eq_true rfl) dL_refusesAny_417 ?_
  refine q_bipush (v := (-2 : Int32)) C dL_refusesAny_420 (by decide) ?_
  refine q_icmp_ne_f C 532 dL_refusesAny_422 (by decide) (by decide) ?_
  refine q_aload_n C dL_refusesAny_425 rfl 2 rfl ?_
  refine q_bipush (v := (12 : Int32)) C dL_refusesAny_426 (by decide) ?_
  refine o_ordered C (f_ordered_n G) ⟨Nat.le_of_ble_eq_true rfl, Nat.le_of_ble_eq_true rfl⟩ ⟨Nat.le_of_ble_eq_true rfl, Nat.le_of_ble_eq_true rfl⟩ (Nat.le_of_ble_eq_true rfl) dL_refusesAny_428 ?_
  refine q_bipush (v := (-5 : Int32)) C dL_refusesAny_431 (by decide) ?_
  refine q_icmp_ne_f C 532 dL_refusesAny_433 (by decide) (by decide) ?_
  refine q_aload_n C dL_refusesAny_436 rfl 2 rfl ?_
  refine q_iload_n C dL_refusesAny_437 rfl 0 rfl ?_
  refine q_iload_n C dL_refusesAny_438 rfl 0 rfl ?_
  refine o_envies C (f_envies_u1 hb) ⟨Nat.le_of_ble_eq_true rfl, Nat.le_of_ble_eq_true rfl⟩ ⟨Nat.le_of_ble_eq_true rfl, Nat.le_of_ble_eq_true rfl⟩ (Nat.le_of_ble_eq_true rfl) dL_refusesAny_439 ?_
  refine q_iconst (v := (-1 : Int32)) C dL_refusesAny_442 (by decide) ?_
  refine q_icmp_ne_f C 532 dL_refusesAny_443 (by decide) (by decide) ?_
  refine q_aload_n C dL_refusesAny_446 rfl 2 rfl ?_
  refine q_iconst (v := (0 : Int32)) C dL_refusesAny_447 (by decide) ?_
  refine q_iload_n C dL_refusesAny_448 rfl 0 rfl ?_
  refine o_envies C (f_envies_u2 h0 hb) ⟨Nat.le_of_ble_eq_true rfl, Nat.le_of_ble_eq_true rfl⟩ ⟨Nat.le_of_ble_eq_true rfl, Nat.le_of_ble_eq_true rfl⟩ (Nat.le_of_ble_eq_true rfl) dL_refusesAny_449 ?_
  refine q_iconst (v := (-1 : Int32)) C dL_refusesAny_452 (by decide) ?_
  refine q_icmp_ne_f C 532 dL_refusesAny_453 (by decide) (by decide) ?_
  refine q_aload_n C dL_refusesAny_456 rfl 2 rfl ?_
  refine q_iconst (v := (0 : Int32)) C dL_refusesAny_457 (by decide) ?_
  refine q_iconst (v := (0 : Int32)) C dL_refusesAny_458 (by decide) ?_
  refine o_envies C (f_envies_s h0) ⟨Nat.le_of_ble_eq_true rfl, Nat.le_of_ble_eq_true rfl⟩ ⟨Nat.le_of_ble_eq_true rfl, Nat.le_of_ble_eq_true rfl⟩ (Nat.le_of_ble_eq_true rfl) dL_refusesAny_459 ?_
  refine q_bipush (v := (-2 : Int32)) C dL_refusesAny_462 (by decide) ?_
  refine q_icmp_ne_f C 532 dL_refusesAny_464 (by decide) (by decide) ?_
  refine q_aload_n C dL_refusesAny_467 rfl 2 rfl ?_
  refine q_iload_n C dL_refusesAny_468 rfl 0 rfl ?_
  refine q_iconst (v := (0 : Int32)) C dL_refusesAny_469 (by decide) ?_
  refine o_wouldGet C (f_would_u1 hb) ⟨Nat.le_of_ble_eq_true rfl, Nat.le_of_ble_eq_true rfl⟩ ⟨Nat.le_of_ble_eq_true rfl, Nat.le_of_ble_eq_true rfl⟩ (Nat.le_of_ble_eq_true rfl) dL_refusesAny_470 ?_
  refine q_iconst (v := (-1 : Int32)) C dL_refusesAny_473 (by decide) ?_
  refine q_icmp_ne_f C 532 dL_refusesAny_474 (by decide) (by decide) ?_
  refine q_aload_n C dL_refusesAny_477 rfl 2 rfl ?_
  refine q_iconst (v := (0 : Int32)) C dL_refusesAny_478 (by decide) ?_
  refine q_iload_n C dL_refusesAny_479 rfl 0 rfl ?_
  refine o_wouldGet C (f_would_u2 h0 hb h5) ⟨Nat.le_of_ble_eq_true rfl, Nat.le_of_ble_eq_true rfl⟩ ⟨Nat.le_of_ble_eq_true rfl, Nat.le_of_ble_eq_true rfl⟩ (Nat.le_of_ble_eq_true rfl) dL_refusesAny_480 ?_
  refine q_iconst (v := (-1 : Int32)) C dL_refusesAny_483 (by decide) ?_
  refine q_icmp_ne_f C 532 dL_refusesAny_484 (by decide) (by decide) ?_
  refine q_aload_n C dL_refusesAny_487 rfl 2 rfl ?_
  refine q_iconst (v := (0 : Int32)) C dL_refusesAny_488 (by decide) ?_
  refine q_bipush (v := (-4 : Int32)) C dL_refusesAny_489 (by decide) ?_
  refine o_wouldGet C (f_would_u2 h0 inb_m4 (by decide)) ⟨Nat.le_of_ble_eq_true rfl, Nat.le_of_ble_eq_true rfl⟩ ⟨Nat.le_of_ble_eq_true rfl, Nat.le_of_ble_eq_true rfl⟩ (Nat.le_of_ble_eq_true rfl) dL_refusesAny_491 ?_
  refine q_iconst (v := (-1 : Int32)) C dL_refusesAny_494 (by decide) ?_
  refine q_icmp_ne_f C 532 dL_refusesAny_495 (by decide) (by decide) ?_
  refine q_aload_n C dL_refusesAny_498 rfl 2 rfl ?_
  refine q_iconst (v := (0 : Int32)) C dL_refusesAny_499 (by decide) ?_
  refine q_iconst (v := (0 : Int32)) C dL_refusesAny_500 (by decide) ?_
  refine o_wouldGet C (f_would_n h0) ⟨Nat.le_of_ble_eq_true rfl, Nat.le_of_ble_eq_true rfl⟩ ⟨Nat.le_of_ble_eq_true rfl, Nat.le_of_ble_eq_true rfl⟩ (Nat.le_of_ble_eq_true rfl) dL_refusesAny_501 ?_
  refine q_bipush (v := (-5 : Int32)) C dL_refusesAny_504 (by decide) ?_
  refine q_icmp_ne_f C 532 dL_refusesAny_506 (by decide) (by decide) ?_
  refine q_aload_n C dL_refusesAny_509 rfl 2 rfl ?_
  refine q_iload_n C dL_refusesAny_510 rfl 3 rfl ?_
  refine q_if_ne_t C 518 dL_refusesAny_511 (by decide) (by decide) ?_
  refine q_bipush (v := (13 : Int32)) C dL_refusesAny_518 (by decide) ?_
  refine o_count C (f_count_b (Or.inr rfl)) ⟨Nat.le_of_ble_eq_true rfl, Nat.le_of_ble_eq_true rfl⟩ ⟨Nat.le_of_ble_eq_true rfl, Nat.le_of_ble_eq_true rfl⟩ (Nat.le_of_ble_eq_true rfl) dL_refusesAny_520 ?_
  refine q_bipush (v := (-2 : Int32)) C dL_refusesAny_523 (by decide) ?_
  refine q_icmp_ne_f C 532 dL_refusesAny_525 (by decide) (by decide) ?_
  refine q_iconst (v := (1 : Int32)) C dL_refusesAny_528 (by decide) ?_
  refine q_goto (tgt := 533) C dL_refusesAny_529 (by decide) ?_
  exact q_iret C hr rfl hI dL_refusesAny_533
