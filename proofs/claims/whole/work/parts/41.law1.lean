set_option maxHeartbeats 4000000 in
set_option maxRecDepth 100000 in
theorem law_addFlat {p : Program} {l : Launch} {e : Env} {s : State} {m : MethodId} {args : Array Value} {below : List Frame} {meth : Method} {c : Code} {D : va_G} {cs : Nat → ClassId} {ad : Nat → Nat} {Q : State → Prop} {M : Mem} {b L : Nat} {xs : Nat → Int32} {i : Nat} (C : CxL p s m args c D cs ad b L xs) (hi : i + 4 ≤ L) (hL : L ≤ 2048) {Sim : Mem → Prop} (hok : Ok Sim M (f_X7_addFlat (xs (i + 1)) (xs (i + 2))) (f_X8_addFlat (xs (i + 1)) (xs (i + 2)))) (hk : ∀ M2, Sim M2 → VL p l e s m args below meth c D cs ad Q 791 [some (.ref b), some (.ref (ad 0)), some (.ref (ad 255)), some (.int (nI i))] [] M2) : VL p l e s m args below meth c D cs ad Q 148 [some (.ref b), some (.ref (ad 0)), some (.ref (ad 255)), some (.int (nI i))] [] M := by
  refine z_aload_n C dL_law_148 rfl rfl ?_
  refine z_aload_n C dL_law_149 rfl rfl ?_
  refine z_iload_n C dL_law_150 rfl rfl ?_
  refine z_iconst (v := (1 : Int32)) C dL_law_151 (by decide) ?_
  refine z_iadd (v := nI (i + 1)) C dL_law_152 (nI_add i 1) ?_
  refine z_sld (j := (i + 1)) C rfl (by omega) (by omega) dL_law_153 ?_
  refine z_aload_n C dL_law_154 rfl rfl ?_
  refine z_iload_n C dL_law_155 rfl rfl ?_
  refine z_iconst (v := (2 : Int32)) C dL_law_156 (by decide) ?_
  refine z_iadd (v := nI (i + 2)) C dL_law_157 (nI_add i 2) ?_
  refine z_sld (j := (i + 2)) C rfl (by omega) (by omega) dL_law_158 ?_
  obtain ⟨r, M1, M2, h1, h2, h3⟩ := hok
  refine z_call (n := 2) (ob := 0) (Cn := RX7) (T := TX7) (N := 7) (As := [.int (xs (i + 1)), .int (xs (i + 2))]) (rest := []) (maxL := 4) (ret := some .int) C (c_X7_addFlat h1) gL_law_X7_addFlat rfl (by decide +kernel) ⟨Nat.le_of_ble_eq_true rfl, Nat.le_of_ble_eq_true rfl⟩ tg_0 (by decide) rfl rfl rfl rfl (Nat.le_of_ble_eq_true rfl) dL_law_159 ?_
  refine z_aload_n C dL_law_162 rfl rfl ?_
  refine z_aload_n C dL_law_163 rfl rfl ?_
  refine z_iload_n C dL_law_164 rfl rfl ?_
  refine z_iconst (v := (1 : Int32)) C dL_law_165 (by decide) ?_
  refine z_iadd (v := nI (i + 1)) C dL_law_166 (nI_add i 1) ?_
  refine z_sld (j := (i + 1)) C rfl (by omega) (by omega) dL_law_167 ?_
  refine z_aload_n C dL_law_168 rfl rfl ?_
  refine z_iload_n C dL_law_169 rfl rfl ?_
  refine z_iconst (v := (2 : Int32)) C dL_law_170 (by decide) ?_
  refine z_iadd (v := nI (i + 2)) C dL_law_171 (nI_add i 2) ?_
  refine z_sld (j := (i + 2)) C rfl (by omega) (by omega) dL_law_172 ?_
  refine z_call (n := 2) (ob := 255) (Cn := RX8) (T := TX8) (N := 13) (As := [.int (xs (i + 1)), .int (xs (i + 2))]) (rest := [.int r]) (maxL := 4) (ret := some .int) C (c_X8_addFlat h2) gL_law_X8_addFlat rfl (by decide +kernel) ⟨Nat.le_of_ble_eq_true rfl, Nat.le_of_ble_eq_true rfl⟩ tg_255 (by decide) rfl rfl rfl rfl (Nat.le_of_ble_eq_true rfl) dL_law_173 ?_
  refine z_icmp_same (tgt := 791) C dL_law_176 (by decide) ?_
  exact hk M2 h3

set_option maxHeartbeats 4000000 in
set_option maxRecDepth 100000 in
theorem law_addHousehold {p : Program} {l : Launch} {e : Env} {s : State} {m : MethodId} {args : Array Value} {below : List Frame} {meth : Method} {c : Code} {D : va_G} {cs : Nat → ClassId} {ad : Nat → Nat} {Q : State → Prop} {M : Mem} {b L : Nat} {xs : Nat → Int32} {i : Nat} (C : CxL p s m args c D cs ad b L xs) (hi : i + 4 ≤ L) (hL : L ≤ 2048) {Sim : Mem → Prop} (hok : Ok Sim M (f_X7_addHousehold (xs (i + 1)) (xs (i + 2))) (f_X8_addHousehold (xs (i + 1)) (xs (i + 2)))) (hk : ∀ M2, Sim M2 → VL p l e s m args below meth c D cs ad Q 791 [some (.ref b), some (.ref (ad 0)), some (.ref (ad 255)), some (.int (nI i))] [] M2) : VL p l e s m args below meth c D cs ad Q 181 [some (.ref b), some (.ref (ad 0)), some (.ref (ad 255)), some (.int (nI i))] [] M := by
  refine z_aload_n C dL_law_181 rfl rfl ?_
  refine z_aload_n C dL_law_182 rfl rfl ?_
  refine z_iload_n C dL_law_183 rfl rfl ?_
  refine z_iconst (v := (1 : Int32)) C dL_law_184 (by decide) ?_
  refine z_iadd (v := nI (i + 1)) C dL_law_185 (nI_add i 1) ?_
  refine z_sld (j := (i + 1)) C rfl (by omega) (by omega) dL_law_186 ?_
  refine z_aload_n C dL_law_187 rfl rfl ?_
  refine z_iload_n C dL_law_188 rfl rfl ?_
  refine z_iconst (v := (2 : Int32)) C dL_law_189 (by decide) ?_
  refine z_iadd (v := nI (i + 2)) C dL_law_190 (nI_add i 2) ?_
  refine z_sld (j := (i + 2)) C rfl (by omega) (by omega) dL_law_191 ?_
  obtain ⟨r, M1, M2, h1, h2, h3⟩ := hok
  refine z_call (n := 2) (ob := 0) (Cn := RX7) (T := TX7) (N := 7) (As := [.int (xs (i + 1)), .int (xs (i + 2))]) (rest := []) (maxL := 3) (ret := some .int) C (c_X7_addHousehold h1) gL_law_X7_addHousehold rfl (by decide +kernel) ⟨Nat.le_of_ble_eq_true rfl, Nat.le_of_ble_eq_true rfl⟩ tg_0 (by decide) rfl rfl rfl rfl (Nat.le_of_ble_eq_true rfl) dL_law_192 ?_
  refine z_aload_n C dL_law_195 rfl rfl ?_
  refine z_aload_n C dL_law_196 rfl rfl ?_
  refine z_iload_n C dL_law_197 rfl rfl ?_
  refine z_iconst (v := (1 : Int32)) C dL_law_198 (by decide) ?_
  refine z_iadd (v := nI (i + 1)) C dL_law_199 (nI_add i 1) ?_
  refine z_sld (j := (i + 1)) C rfl (by omega) (by omega) dL_law_200 ?_
  refine z_aload_n C dL_law_201 rfl rfl ?_
  refine z_iload_n C dL_law_202 rfl rfl ?_
  refine z_iconst (v := (2 : Int32)) C dL_law_203 (by decide) ?_
  refine z_iadd (v := nI (i + 2)) C dL_law_204 (nI_add i 2) ?_
  refine z_sld (j := (i + 2)) C rfl (by omega) (by omega) dL_law_205 ?_
  refine z_call (n := 2) (ob := 255) (Cn := RX8) (T := TX8) (N := 13) (As := [.int (xs (i + 1)), .int (xs (i + 2))]) (rest := [.int r]) (maxL := 5) (ret := some .int) C (c_X8_addHousehold h2) gL_law_X8_addHousehold rfl (by decide +kernel) ⟨Nat.le_of_ble_eq_true rfl, Nat.le_of_ble_eq_true rfl⟩ tg_255 (by decide) rfl rfl rfl rfl (Nat.le_of_ble_eq_true rfl) dL_law_206 ?_
  refine z_icmp_same (tgt := 791) C dL_law_209 (by decide) ?_
  exact hk M2 h3

set_option maxHeartbeats 4000000 in
set_option maxRecDepth 100000 in
theorem law_change {p : Program} {l : Launch} {e : Env} {s : State} {m : MethodId} {args : Array Value} {below : List Frame} {meth : Method} {c : Code} {D : va_G} {cs : Nat → ClassId} {ad : Nat → Nat} {Q : State → Prop} {M : Mem} {b L : Nat} {xs : Nat → Int32} {i : Nat} (C : CxL p s m args c D cs ad b L xs) (hi : i + 4 ≤ L) (hL : L ≤ 2048) {Sim : Mem → Prop} (hok0 : xs (i + 2) = 0 → Ok Sim M (f_X7_change (xs (i + 1)) (0 : Int32) (xs (i + 3))) (f_X8_change (xs (i + 1)) (0 : Int32) (xs (i + 3)))) (hok1 : ¬ xs (i + 2) = 0 → Ok Sim M (f_X7_change (xs (i + 1)) (1 : Int32) (xs (i + 3))) (f_X8_change (xs (i + 1)) (1 : Int32) (xs (i + 3)))) (hk : ∀ M2, Sim M2 → VL p l e s m args below meth c D cs ad Q 791 [some (.ref b), some (.ref (ad 0)), some (.ref (ad 255)), some (.int (nI i))] [] M2) : VL p l e s m args below meth c D cs ad Q 214 [some (.ref b), some (.ref (ad 0)), some (.ref (ad 255)), some (.int (nI i))] [] M := by
  refine z_aload_n C dL_law_214 rfl rfl ?_
  refine z_aload_n C dL_law_215 rfl rfl ?_
  refine z_iload_n C dL_law_216 rfl rfl ?_
  refine z_iconst (v := (1 : Int32)) C dL_law_217 (by decide) ?_
  refine z_iadd (v := nI (i + 1)) C dL_law_218 (nI_add i 1) ?_
  refine z_sld (j := (i + 1)) C rfl (by omega) (by omega) dL_law_219 ?_
  refine z_aload_n C dL_law_220 rfl rfl ?_
  refine z_iload_n C dL_law_221 rfl rfl ?_
  refine z_iconst (v := (2 : Int32)) C dL_law_222 (by decide) ?_
  refine z_iadd (v := nI (i + 2)) C dL_law_223 (nI_add i 2) ?_
  refine z_sld (j := (i + 2)) C rfl (by omega) (by omega) dL_law_224 ?_
  refine z_if_eq (tgt := 232) C dL_law_225 (by decide) (fun hz => ?_) (fun hz => ?_)
  · refine z_iconst (v := (0 : Int32)) C dL_law_232 (by decide) ?_
    refine z_aload_n C dL_law_233 rfl rfl ?_
    refine z_iload_n C dL_law_234 rfl rfl ?_
    refine z_iconst (v := (3 : Int32)) C dL_law_235 (by decide) ?_
    refine z_iadd (v := nI (i + 3)) C dL_law_236 (nI_add i 3) ?_
    refine z_sld (j := (i + 3)) C rfl (by omega) (by omega) dL_law_237 ?_
    obtain ⟨r, M1, M2, h1, h2, h3⟩ := (hok0 hz)
    refine z_call (n := 3) (ob := 0) (Cn := RX7) (T := TX7) (N := 7) (As := [.int (xs (i + 1)), .int (0 : Int32), .int (xs (i + 3))]) (rest := []) (maxL := 6) (ret := some .int) C (c_X7_change h1) gL_law_X7_change rfl (by decide +kernel) ⟨Nat.le_of_ble_eq_true rfl, Nat.le_of_ble_eq_true rfl⟩ tg_0 (by decide) rfl rfl rfl rfl (Nat.le_of_ble_eq_true rfl) dL_law_238 ?_
    refine z_aload_n C dL_law_241 rfl rfl ?_
    refine z_aload_n C dL_law_242 rfl rfl ?_
    refine z_iload_n C dL_law_243 rfl rfl ?_
    refine z_iconst (v := (1 : Int32)) C dL_law_244 (by decide) ?_
    refine z_iadd (v := nI (i + 1)) C dL_law_245 (nI_add i 1) ?_
    refine z_sld (j := (i + 1)) C rfl (by omega) (by omega) dL_law_246 ?_
    refine z_aload_n C dL_law_247 rfl rfl ?_
    refine z_iload_n C dL_law_248 rfl rfl ?_
    refine z_iconst (v := (2 : Int32)) C dL_law_249 (by decide) ?_
    refine z_iadd (v := nI (i + 2)) C dL_law_250 (nI_add i 2) ?_
    refine z_sld (j := (i + 2)) C rfl (by omega) (by omega) dL_law_251 ?_
    refine z_if_eq (tgt := 259) C dL_law_252 (by decide) (fun _ => ?_) (fun z => absurd hz z)
    refine z_iconst (v := (0 : Int32)) C dL_law_259 (by decide) ?_
    refine z_aload_n C dL_law_260 rfl rfl ?_
    refine z_iload_n C dL_law_261 rfl rfl ?_
    refine z_iconst (v := (3 : Int32)) C dL_law_262 (by decide) ?_
    refine z_iadd (v := nI (i + 3)) C dL_law_263 (nI_add i 3) ?_
    refine z_sld (j := (i + 3)) C rfl (by omega) (by omega) dL_law_264 ?_
    refine z_call (n := 3) (ob := 255) (Cn := RX8) (T := TX8) (N := 13) (As := [.int (xs (i + 1)), .int (0 : Int32), .int (xs (i + 3))]) (rest := [.int r]) (maxL := 5) (ret := some .int) C (c_X8_change h2) gL_law_X8_change rfl (by decide +kernel) ⟨Nat.le_of_ble_eq_true rfl, Nat.le_of_ble_eq_true rfl⟩ tg_255 (by decide) rfl rfl rfl rfl (Nat.le_of_ble_eq_true rfl) dL_law_265 ?_
    refine z_icmp_same (tgt := 791) C dL_law_268 (by decide) ?_
    exact hk M2 h3
  · refine z_iconst (v := (1 : Int32)) C dL_law_228 (by decide) ?_
    refine z_goto (tgt := 233) C dL_law_229 (by decide) ?_
    refine z_aload_n C dL_law_233 rfl rfl ?_
    refine z_iload_n C dL_law_234 rfl rfl ?_
    refine z_iconst (v := (3 : Int32)) C dL_law_235 (by decide) ?_
    refine z_iadd (v := nI (i + 3)) C dL_law_236 (nI_add i 3) ?_
    refine z_sld (j := (i + 3)) C rfl (by omega) (by omega) dL_law_237 ?_
    obtain ⟨r, M1, M2, h1, h2, h3⟩ := (hok1 hz)
    refine z_call (n := 3) (ob := 0) (Cn := RX7) (T := TX7) (N := 7) (As := [.int (xs (i + 1)), .int (1 : Int32), .int (xs (i + 3))]) (rest := []) (maxL := 6) (ret := some .int) C (c_X7_change h1) gL_law_X7_change rfl (by decide +kernel) ⟨Nat.le_of_ble_eq_true rfl, Nat.le_of_ble_eq_true rfl⟩ tg_0 (by decide) rfl rfl rfl rfl (Nat.le_of_ble_eq_true rfl) dL_law_238 ?_
    refine z_aload_n C dL_law_241 rfl rfl ?_
    refine z_aload_n C dL_law_242 rfl rfl ?_
    refine z_iload_n C dL_law_243 rfl rfl ?_
    refine z_iconst (v := (1 : Int32)) C dL_law_244 (by decide) ?_
    refine z_iadd (v := nI (i + 1)) C dL_law_245 (nI_add i 1) ?_
    refine z_sld (j := (i + 1)) C rfl (by omega) (by omega) dL_law_246 ?_
    refine z_aload_n C dL_law_247 rfl rfl ?_
    refine z_iload_n C dL_law_248 rfl rfl ?_
    refine z_iconst (v := (2 : Int32)) C dL_law_249 (by decide) ?_
    refine z_iadd (v := nI (i + 2)) C dL_law_250 (nI_add i 2) ?_
    refine z_sld (j := (i + 2)) C rfl (by omega) (by omega) dL_law_251 ?_
    refine z_if_eq (tgt := 259) C dL_law_252 (by decide) (fun z => absurd z hz) (fun _ => ?_)
    refine z_iconst (v := (1 : Int32)) C dL_law_255 (by decide) ?_
    refine z_goto (tgt := 260) C dL_law_256 (by decide) ?_
    refine z_aload_n C dL_law_260 rfl rfl ?_
    refine z_iload_n C dL_law_261 rfl rfl ?_
    refine z_iconst (v := (3 : Int32)) C dL_law_262 (by decide) ?_
    refine z_iadd (v := nI (i + 3)) C dL_law_263 (nI_add i 3) ?_
    refine z_sld (j := (i + 3)) C rfl (by omega) (by omega) dL_law_264 ?_
    refine z_call (n := 3) (ob := 255) (Cn := RX8) (T := TX8) (N := 13) (As := [.int (xs (i + 1)), .int (1 : Int32), .int (xs (i + 3))]) (rest := [.int r]) (maxL := 5) (ret := some .int) C (c_X8_change h2) gL_law_X8_change rfl (by decide +kernel) ⟨Nat.le_of_ble_eq_true rfl, Nat.le_of_ble_eq_true rfl⟩ tg_255 (by decide) rfl rfl rfl rfl (Nat.le_of_ble_eq_true rfl) dL_law_265 ?_
    refine z_icmp_same (tgt := 791) C dL_law_268 (by decide) ?_
    exact hk M2 h3

set_option maxHeartbeats 4000000 in
set_option maxRecDepth 100000 in
theorem law_wish {p : Program} {l : Launch} {e : Env} {s : State} {m : MethodId} {args : Array Value} {below : List Frame} {meth : Method} {c : Code} {D : va_G} {cs : Nat → ClassId} {ad : Nat → Nat} {Q : State → Prop} {M : Mem} {b L : Nat} {xs : Nat → Int32} {i : Nat} (C : CxL p s m args c D cs ad b L xs) (hi : i + 4 ≤ L) (hL : L ≤ 2048) {Sim : Mem → Prop} (hok : Ok Sim M (f_X7_wish (xs (i + 1)) (xs (i + 2))) (f_X8_wish (xs (i + 1)) (xs (i + 2)))) (hk : ∀ M2, Sim M2 → VL p l e s m args below meth c D cs ad Q 791 [some (.ref b), some (.ref (ad 0)), some (.ref (ad 255)), some (.int (nI i))] [] M2) : VL p l e s m args below meth c D cs ad Q 273 [some (.ref b), some (.ref (ad 0)), some (.ref (ad 255)), some (.int (nI i))] [] M := by
  refine z_aload_n C dL_law_273 rfl rfl ?_
  refine z_aload_n C dL_law_274 rfl rfl ?_
  refine z_iload_n C dL_law_275 rfl rfl ?_
  refine z_iconst (v := (1 : Int32)) C dL_law_276 (by decide) ?_
  refine z_iadd (v := nI (i + 1)) C dL_law_277 (nI_add i 1) ?_
  refine z_sld (j := (i + 1)) C rfl (by omega) (by omega) dL_law_278 ?_
  refine z_aload_n C dL_law_279 rfl rfl ?_
  refine z_iload_n C dL_law_280 rfl rfl ?_
  refine z_iconst (v := (2 : Int32)) C dL_law_281 (by decide) ?_
  refine z_iadd (v := nI (i + 2)) C dL_law_282 (nI_add i 2) ?_
  refine z_sld (j := (i + 2)) C rfl (by omega) (by omega) dL_law_283 ?_
  obtain ⟨r, M1, M2, h1, h2, h3⟩ := hok
  refine z_call (n := 2) (ob := 0) (Cn := RX7) (T := TX7) (N := 7) (As := [.int (xs (i + 1)), .int (xs (i + 2))]) (rest := []) (maxL := 4) (ret := some .int) C (c_X7_wish h1) gL_law_X7_wish rfl (by decide +kernel) ⟨Nat.le_of_ble_eq_true rfl, Nat.le_of_ble_eq_true rfl⟩ tg_0 (by decide) rfl rfl rfl rfl (Nat.le_of_ble_eq_true rfl) dL_law_284 ?_
  refine z_aload_n C dL_law_287 rfl rfl ?_
  refine z_aload_n C dL_law_288 rfl rfl ?_
  refine z_iload_n C dL_law_289 rfl rfl ?_
  refine z_iconst (v := (1 : Int32)) C dL_law_290 (by decide) ?_
  refine z_iadd (v := nI (i + 1)) C dL_law_291 (nI_add i 1) ?_
  refine z_sld (j := (i + 1)) C rfl (by omega) (by omega) dL_law_292 ?_
  refine z_aload_n C dL_law_293 rfl rfl ?_
  refine z_iload_n C dL_law_294 rfl rfl ?_
  refine z_iconst (v := (2 : Int32)) C dL_law_295 (by decide) ?_
  refine z_iadd (v := nI (i + 2)) C dL_law_296 (nI_add i 2) ?_
  refine z_sld (j := (i + 2)) C rfl (by omega) (by omega) dL_law_297 ?_
  refine z_call (n := 2) (ob := 255) (Cn := RX8) (T := TX8) (N := 13) (As := [.int (xs (i + 1)), .int (xs (i + 2))]) (rest := [.int r]) (maxL := 4) (ret := some .int) C (c_X8_wish h2) gL_law_X8_wish rfl (by decide +kernel) ⟨Nat.le_of_ble_eq_true rfl, Nat.le_of_ble_eq_true rfl⟩ tg_255 (by decide) rfl rfl rfl rfl (Nat.le_of_ble_eq_true rfl) dL_law_298 ?_
  refine z_icmp_same (tgt := 791) C dL_law_301 (by decide) ?_
  exact hk M2 h3

set_option maxHeartbeats 4000000 in
set_option maxRecDepth 100000 in
theorem law_unwish {p : Program} {l : Launch} {e : Env} {s : State} {m : MethodId} {args : Array Value} {below : List Frame} {meth : Method} {c : Code} {D : va_G} {cs : Nat → ClassId} {ad : Nat → Nat} {Q : State → Prop} {M : Mem} {b L : Nat} {xs : Nat → Int32} {i : Nat} (C : CxL p s m args c D cs ad b L xs) (hi : i + 4 ≤ L) (hL : L ≤ 2048) {Sim : Mem → Prop} (hok : Ok Sim M (f_X7_unwish (xs (i + 1)) (xs (i + 2))) (f_X8_unwish (xs (i + 1)) (xs (i + 2)))) (hk : ∀ M2, Sim M2 → VL p l e s m args below meth c D cs ad Q 791 [some (.ref b), some (.ref (ad 0)), some (.ref (ad 255)), some (.int (nI i))] [] M2) : VL p l e s m args below meth c D cs ad Q 306 [some (.ref b), some (.ref (ad 0)), some (.ref (ad 255)), some (.int (nI i))] [] M := by
  refine z_aload_n C dL_law_306 rfl rfl ?_
  refine z_aload_n C dL_law_307 rfl rfl ?_
  refine z_iload_n C dL_law_308 rfl rfl ?_
  refine z_iconst (v := (1 : Int32)) C dL_law_309 (by decide) ?_
  refine z_iadd (v := nI (i + 1)) C dL_law_310 (nI_add i 1) ?_
  refine z_sld (j := (i + 1)) C rfl (by omega) (by omega) dL_law_311 ?_
  refine z_aload_n C dL_law_312 rfl rfl ?_
  refine z_iload_n C dL_law_313 rfl rfl ?_
  refine z_iconst (v := (2 : Int32)) C dL_law_314 (by decide) ?_
  refine z_iadd (v := nI (i + 2)) C dL_law_315 (nI_add i 2) ?_
  refine z_sld (j := (i + 2)) C rfl (by omega) (by omega) dL_law_316 ?_
  obtain ⟨r, M1, M2, h1, h2, h3⟩ := hok
  refine z_call (n := 2) (ob := 0) (Cn := RX7) (T := TX7) (N := 7) (As := [.int (xs (i + 1)), .int (xs (i + 2))]) (rest := []) (maxL := 5) (ret := some .int) C (c_X7_unwish h1) gL_law_X7_unwish rfl (by decide +kernel) ⟨Nat.le_of_ble_eq_true rfl, Nat.le_of_ble_eq_true rfl⟩ tg_0 (by decide) rfl rfl rfl rfl (Nat.le_of_ble_eq_true rfl) dL_law_317 ?_
  refine z_aload_n C dL_law_320 rfl rfl ?_
  refine z_aload_n C dL_law_321 rfl rfl ?_
  refine z_iload_n C dL_law_322 rfl rfl ?_
  refine z_iconst (v := (1 : Int32)) C dL_law_323 (by decide) ?_
  refine z_iadd (v := nI (i + 1)) C dL_law_324 (nI_add i 1) ?_
  refine z_sld (j := (i + 1)) C rfl (by omega) (by omega) dL_law_325 ?_
  refine z_aload_n C dL_law_326 rfl rfl ?_
  refine z_iload_n C dL_law_327 rfl rfl ?_
  refine z_iconst (v := (2 : Int32)) C dL_law_328 (by decide) ?_
  refine z_iadd (v := nI (i + 2)) C dL_law_329 (nI_add i 2) ?_
  refine z_sld (j := (i + 2)) C rfl (by omega) (by omega) dL_law_330 ?_
  refine z_call (n := 2) (ob := 255) (Cn := RX8) (T := TX8) (N := 13) (As := [.int (xs (i + 1)), .int (xs (i + 2))]) (rest := [.int r]) (maxL := 4) (ret := some .int) C (c_X8_unwish h2) gL_law_X8_unwish rfl (by decide +kernel) ⟨Nat.le_of_ble_eq_true rfl, Nat.le_of_ble_eq_true rfl⟩ tg_255 (by decide) rfl rfl rfl rfl (Nat.le_of_ble_eq_true rfl) dL_law_331 ?_
  refine z_icmp_same (tgt := 791) C dL_law_334 (by decide) ?_
  exact hk M2 h3

set_option maxHeartbeats 4000000 in
set_option maxRecDepth 100000 in
theorem law_readLists {p : Program} {l : Launch} {e : Env} {s : State} {m : MethodId} {args : Array Value} {below : List Frame} {meth : Method} {c : Code} {D : va_G} {cs : Nat → ClassId} {ad : Nat → Nat} {Q : State → Prop} {M : Mem} {b L : Nat} {xs : Nat → Int32} {i : Nat} (C : CxL p s m args c D cs ad b L xs) (hi : i + 4 ≤ L) (hL : L ≤ 2048) {Sim : Mem → Prop} (hok : Ok Sim M f_X7_readLists f_X8_readLists) (hk : ∀ M2, Sim M2 → VL p l e s m args below meth c D cs ad Q 791 [some (.ref b), some (.ref (ad 0)), some (.ref (ad 255)), some (.int (nI i))] [] M2) : VL p l e s m args below meth c D cs ad Q 339 [some (.ref b), some (.ref (ad 0)), some (.ref (ad 255)), some (.int (nI i))] [] M := by
  refine z_aload_n C dL_law_339 rfl rfl ?_
  obtain ⟨r, M1, M2, h1, h2, h3⟩ := hok
  refine z_call (n := 0) (ob := 0) (Cn := RX7) (T := TX7) (N := 7) (As := []) (rest := []) (maxL := 2) (ret := some .int) C (c_X7_readLists h1) gL_law_X7_readLists rfl (by decide +kernel) ⟨Nat.le_of_ble_eq_true rfl, Nat.le_of_ble_eq_true rfl⟩ tg_0 (by decide) rfl rfl rfl rfl (Nat.le_of_ble_eq_true rfl) dL_law_340 ?_
  refine z_aload_n C dL_law_343 rfl rfl ?_
  refine z_call (n := 0) (ob := 255) (Cn := RX8) (T := TX8) (N := 13) (As := []) (rest := [.int r]) (maxL := 3) (ret := some .int) C (c_X8_readLists h2) gL_law_X8_readLists rfl (by decide +kernel) ⟨Nat.le_of_ble_eq_true rfl, Nat.le_of_ble_eq_true rfl⟩ tg_255 (by decide) rfl rfl rfl rfl (Nat.le_of_ble_eq_true rfl) dL_law_344 ?_
  refine z_icmp_same (tgt := 791) C dL_law_347 (by decide) ?_
  exact hk M2 h3

set_option maxHeartbeats 4000000 in
set_option maxRecDepth 100000 in
theorem law_draw {p : Program} {l : Launch} {e : Env} {s : State} {m : MethodId} {args : Array Value} {below : List Frame} {meth : Method} {c : Code} {D : va_G} {cs : Nat → ClassId} {ad : Nat → Nat} {Q : State → Prop} {M : Mem} {b L : Nat} {xs : Nat → Int32} {i : Nat} (C : CxL p s m args c D cs ad b L xs) (hi : i + 4 ≤ L) (hL : L ≤ 2048) {Sim : Mem → Prop} (hok : Ok Sim M (f_X7_draw (xs (i + 1)) (xs (i + 2))) (f_X8_draw (xs (i + 1)) (xs (i + 2)))) (hk : ∀ M2, Sim M2 → VL p l e s m args below meth c D cs ad Q 791 [some (.ref b), some (.ref (ad 0)), some (.ref (ad 255)), some (.int (nI i))] [] M2) : VL p l e s m args below meth c D cs ad Q 352 [some (.ref b), some (.ref (ad 0)), some (.ref (ad 255)), some (.int (nI i))] [] M := by
  refine z_aload_n C dL_law_352 rfl rfl ?_
  refine z_aload_n C dL_law_353 rfl rfl ?_
  refine z_iload_n C dL_law_354 rfl rfl ?_
  refine z_iconst (v := (1 : Int32)) C dL_law_355 (by decide) ?_
  refine z_iadd (v := nI (i + 1)) C dL_law_356 (nI_add i 1) ?_
  refine z_sld (j := (i + 1)) C rfl (by omega) (by omega) dL_law_357 ?_
  refine z_aload_n C dL_law_358 rfl rfl ?_
  refine z_iload_n C dL_law_359 rfl rfl ?_
  refine z_iconst (v := (2 : Int32)) C dL_law_360 (by decide) ?_
  refine z_iadd (v := nI (i + 2)) C dL_law_361 (nI_add i 2) ?_
  refine z_sld (j := (i + 2)) C rfl (by omega) (by omega) dL_law_362 ?_
  obtain ⟨r, M1, M2, h1, h2, h3⟩ := hok
  refine z_call (n := 2) (ob := 0) (Cn := RX7) (T := TX7) (N := 7) (As := [.int (xs (i + 1)), .int (xs (i + 2))]) (rest := []) (maxL := 4) (ret := some .int) C (c_X7_draw h1) gL_law_X7_draw rfl (by decide +kernel) ⟨Nat.le_of_ble_eq_true rfl, Nat.le_of_ble_eq_true rfl⟩ tg_0 (by decide) rfl rfl rfl rfl (Nat.le_of_ble_eq_true rfl) dL_law_363 ?_
  refine z_aload_n C dL_law_366 rfl rfl ?_
  refine z_aload_n C dL_law_367 rfl rfl ?_
  refine z_iload_n C dL_law_368 rfl rfl ?_
  refine z_iconst (v := (1 : Int32)) C dL_law_369 (by decide) ?_
  refine z_iadd (v := nI (i + 1)) C dL_law_370 (nI_add i 1) ?_
  refine z_sld (j := (i + 1)) C rfl (by omega) (by omega) dL_law_371 ?_
  refine z_aload_n C dL_law_372 rfl rfl ?_
  refine z_iload_n C dL_law_373 rfl rfl ?_
  refine z_iconst (v := (2 : Int32)) C dL_law_374 (by decide) ?_
  refine z_iadd (v := nI (i + 2)) C dL_law_375 (nI_add i 2) ?_
  refine z_sld (j := (i + 2)) C rfl (by omega) (by omega) dL_law_376 ?_
  refine z_call (n := 2) (ob := 255) (Cn := RX8) (T := TX8) (N := 13) (As := [.int (xs (i + 1)), .int (xs (i + 2))]) (rest := [.int r]) (maxL := 4) (ret := some .int) C (c_X8_draw h2) gL_law_X8_draw rfl (by decide +kernel) ⟨Nat.le_of_ble_eq_true rfl, Nat.le_of_ble_eq_true rfl⟩ tg_255 (by decide) rfl rfl rfl rfl (Nat.le_of_ble_eq_true rfl) dL_law_377 ?_
  refine z_icmp_same (tgt := 791) C dL_law_380 (by decide) ?_
  exact hk M2 h3

set_option maxHeartbeats 4000000 in
set_option maxRecDepth 100000 in
theorem law_round {p : Program} {l : Launch} {e : Env} {s : State} {m : MethodId} {args : Array Value} {below : List Frame} {meth : Method} {c : Code} {D : va_G} {cs : Nat → ClassId} {ad : Nat → Nat} {Q : State → Prop} {M : Mem} {b L : Nat} {xs : Nat → Int32} {i : Nat} (C : CxL p s m args c D cs ad b L xs) (hi : i + 4 ≤ L) (hL : L ≤ 2048) {Sim : Mem → Prop} (hok : Ok Sim M f_X7_round f_X8_round) (hk : ∀ M2, Sim M2 → VL p l e s m args below meth c D cs ad Q 791 [some (.ref b), some (.ref (ad 0)), some (.ref (ad 255)), some (.int (nI i))] [] M2) : VL p l e s m args below meth c D cs ad Q 385 [some (.ref b), some (.ref (ad 0)), some (.ref (ad 255)), some (.int (nI i))] [] M := by
  refine z_aload_n C dL_law_385 rfl rfl ?_
  obtain ⟨r, M1, M2, h1, h2, h3⟩ := hok
  refine z_call (n := 0) (ob := 0) (Cn := RX7) (T := TX7) (N := 7) (As := []) (rest := []) (maxL := 1) (ret := some .int) C (c_X7_round h1) gL_law_X7_round rfl (by decide +kernel) ⟨Nat.le_of_ble_eq_true rfl, Nat.le_of_ble_eq_true rfl⟩ tg_0 (by decide) rfl rfl rfl rfl (Nat.le_of_ble_eq_true rfl) dL_law_386 ?_
  refine z_aload_n C dL_law_389 rfl rfl ?_
  refine z_call (n := 0) (ob := 255) (Cn := RX8) (T := TX8) (N := 13) (As := []) (rest := [.int r]) (maxL := 6) (ret := some .int) C (c_X8_round h2) gL_law_X8_round rfl (by decide +kernel) ⟨Nat.le_of_ble_eq_true rfl, Nat.le_of_ble_eq_true rfl⟩ tg_255 (by decide) rfl rfl rfl rfl (Nat.le_of_ble_eq_true rfl) dL_law_390 ?_
  refine z_icmp_same (tgt := 791) C dL_law_393 (by decide) ?_
  exact hk M2 h3

set_option maxHeartbeats 4000000 in
set_option maxRecDepth 100000 in
theorem law_decline {p : Program} {l : Launch} {e : Env} {s : State} {m : MethodId} {args : Array Value} {below : List Frame} {meth : Method} {c : Code} {D : va_G} {cs : Nat → ClassId} {ad : Nat → Nat} {Q : State → Prop} {M : Mem} {b L : Nat} {xs : Nat → Int32} {i : Nat} (C : CxL p s m args c D cs ad b L xs) (hi : i + 4 ≤ L) (hL : L ≤ 2048) {Sim : Mem → Prop} (hok : Ok Sim M (f_X7_decline (xs (i + 1))) (f_X8_decline (xs (i + 1)))) (hk : ∀ M2, Sim M2 → VL p l e s m args below meth c D cs ad Q 791 [some (.ref b), some (.ref (ad 0)), some (.ref (ad 255)), some (.int (nI i))] [] M2) : VL p l e s m args below meth c D cs ad Q 398 [some (.ref b), some (.ref (ad 0)), some (.ref (ad 255)), some (.int (nI i))] [] M := by
  refine z_aload_n C dL_law_398 rfl rfl ?_
  refine z_aload_n C dL_law_399 rfl rfl ?_
  refine z_iload_n C dL_law_400 rfl rfl ?_
  refine z_iconst (v := (1 : Int32)) C dL_law_401 (by decide) ?_
  refine z_iadd (v := nI (i + 1)) C dL_law_402 (nI_add i 1) ?_
  refine z_sld (j := (i + 1)) C rfl (by omega) (by omega) dL_law_403 ?_
  obtain ⟨r, M1, M2, h1, h2, h3⟩ := hok
  refine z_call (n := 1) (ob := 0) (Cn := RX7) (T := TX7) (N := 7) (As := [.int (xs (i + 1))]) (rest := []) (maxL := 4) (ret := some .int) C (c_X7_decline h1) gL_law_X7_decline rfl (by decide +kernel) ⟨Nat.le_of_ble_eq_true rfl, Nat.le_of_ble_eq_true rfl⟩ tg_0 (by decide) rfl rfl rfl rfl (Nat.le_of_ble_eq_true rfl) dL_law_404 ?_
  refine z_aload_n C dL_law_407 rfl rfl ?_
  refine z_aload_n C dL_law_408 rfl rfl ?_
  refine z_iload_n C dL_law_409 rfl rfl ?_
  refine z_iconst (v := (1 : Int32)) C dL_law_410 (by decide) ?_
  refine z_iadd (v := nI (i + 1)) C dL_law_411 (nI_add i 1) ?_
  refine z_sld (j := (i + 1)) C rfl (by omega) (by omega) dL_law_412 ?_
  refine z_call (n := 1) (ob := 255) (Cn := RX8) (T := TX8) (N := 13) (As := [.int (xs (i + 1))]) (rest := [.int r]) (maxL := 5) (ret := some .int) C (c_X8_decline h2) gL_law_X8_decline rfl (by decide +kernel) ⟨Nat.le_of_ble_eq_true rfl, Nat.le_of_ble_eq_true rfl⟩ tg_255 (by decide) rfl rfl rfl rfl (Nat.le_of_ble_eq_true rfl) dL_law_413 ?_
  refine z_icmp_same (tgt := 791) C dL_law_416 (by decide) ?_
  exact hk M2 h3

set_option maxHeartbeats 4000000 in
set_option maxRecDepth 100000 in
theorem law_appeal {p : Program} {l : Launch} {e : Env} {s : State} {m : MethodId} {args : Array Value} {below : List Frame} {meth : Method} {c : Code} {D : va_G} {cs : Nat → ClassId} {ad : Nat → Nat} {Q : State → Prop} {M : Mem} {b L : Nat} {xs : Nat → Int32} {i : Nat} (C : CxL p s m args c D cs ad b L xs) (hi : i + 4 ≤ L) (hL : L ≤ 2048) {Sim : Mem → Prop} (hok : Ok Sim M (f_X7_appeal (xs (i + 1)) (xs (i + 2))) (f_X8_appeal (xs (i + 1)) (xs (i + 2)))) (hk : ∀ M2, Sim M2 → VL p l e s m args below meth c D cs ad Q 791 [some (.ref b), some (.ref (ad 0)), some (.ref (ad 255)), some (.int (nI i))] [] M2) : VL p l e s m args below meth c D cs ad Q 421 [some (.ref b), some (.ref (ad 0)), some (.ref (ad 255)), some (.int (nI i))] [] M := by
  refine z_aload_n C dL_law_421 rfl rfl ?_
  refine z_aload_n C dL_law_422 rfl rfl ?_
  refine z_iload_n C dL_law_423 rfl rfl ?_
  refine z_iconst (v := (1 : Int32)) C dL_law_424 (by decide) ?_
  refine z_iadd (v := nI (i + 1)) C dL_law_425 (nI_add i 1) ?_
  refine z_sld (j := (i + 1)) C rfl (by omega) (by omega) dL_law_426 ?_
  refine z_aload_n C dL_law_427 rfl rfl ?_
  refine z_iload_n C dL_law_428 rfl rfl ?_
  refine z_iconst (v := (2 : Int32)) C dL_law_429 (by decide) ?_
  refine z_iadd (v := nI (i + 2)) C dL_law_430 (nI_add i 2) ?_
  refine z_sld (j := (i + 2)) C rfl (by omega) (by omega) dL_law_431 ?_
  obtain ⟨r, M1, M2, h1, h2, h3⟩ := hok
  refine z_call (n := 2) (ob := 0) (Cn := RX7) (T := TX7) (N := 7) (As := [.int (xs (i + 1)), .int (xs (i + 2))]) (rest := []) (maxL := 5) (ret := some .int) C (c_X7_appeal h1) gL_law_X7_appeal rfl (by decide +kernel) ⟨Nat.le_of_ble_eq_true rfl, Nat.le_of_ble_eq_true rfl⟩ tg_0 (by decide) rfl rfl rfl rfl (Nat.le_of_ble_eq_true rfl) dL_law_432 ?_
  refine z_aload_n C dL_law_435 rfl rfl ?_
  refine z_aload_n C dL_law_436 rfl rfl ?_
  refine z_iload_n C dL_law_437 rfl rfl ?_
  refine z_iconst (v := (1 : Int32)) C dL_law_438 (by decide) ?_
  refine z_iadd (v := nI (i + 1)) C dL_law_439 (nI_add i 1) ?_
  refine z_sld (j := (i + 1)) C rfl (by omega) (by omega) dL_law_440 ?_
  refine z_aload_n C dL_law_441 rfl rfl ?_
  refine z_iload_n C dL_law_442 rfl rfl ?_
  refine z_iconst (v := (2 : Int32)) C dL_law_443 (by decide) ?_
  refine z_iadd (v := nI (i + 2)) C dL_law_444 (nI_add i 2) ?_
  refine z_sld (j := (i + 2)) C rfl (by omega) (by omega) dL_law_445 ?_
  refine z_call (n := 2) (ob := 255) (Cn := RX8) (T := TX8) (N := 13) (As := [.int (xs (i + 1)), .int (xs (i + 2))]) (rest := [.int r]) (maxL := 4) (ret := some .int) C (c_X8_appeal h2) gL_law_X8_appeal rfl (by decide +kernel) ⟨Nat.le_of_ble_eq_true rfl, Nat.le_of_ble_eq_true rfl⟩ tg_255 (by decide) rfl rfl rfl rfl (Nat.le_of_ble_eq_true rfl) dL_law_446 ?_
  refine z_icmp_same (tgt := 791) C dL_law_449 (by decide) ?_
  exact hk M2 h3

set_option maxHeartbeats 4000000 in
set_option maxRecDepth 100000 in
theorem law_swap {p : Program} {l : Launch} {e : Env} {s : State} {m : MethodId} {args : Array Value} {below : List Frame} {meth : Method} {c : Code} {D : va_G} {cs : Nat → ClassId} {ad : Nat → Nat} {Q : State → Prop} {M : Mem} {b L : Nat} {xs : Nat → Int32} {i : Nat} (C : CxL p s m args c D cs ad b L xs) (hi : i + 4 ≤ L) (hL : L ≤ 2048) {Sim : Mem → Prop} (hok : Ok Sim M f_X7_swap f_X8_swap) (hk : ∀ M2, Sim M2 → VL p l e s m args below meth c D cs ad Q 791 [some (.ref b), some (.ref (ad 0)), some (.ref (ad 255)), some (.int (nI i))] [] M2) : VL p l e s m args below meth c D cs ad Q 454 [some (.ref b), some (.ref (ad 0)), some (.ref (ad 255)), some (.int (nI i))] [] M := by
  refine z_aload_n C dL_law_454 rfl rfl ?_
  obtain ⟨r, M1, M2, h1, h2, h3⟩ := hok
  refine z_call (n := 0) (ob := 0) (Cn := RX7) (T := TX7) (N := 7) (As := []) (rest := []) (maxL := 1) (ret := some .int) C (c_X7_swap h1) gL_law_X7_swap rfl (by decide +kernel) ⟨Nat.le_of_ble_eq_true rfl, Nat.le_of_ble_eq_true rfl⟩ tg_0 (by decide) rfl rfl rfl rfl (Nat.le_of_ble_eq_true rfl) dL_law_455 ?_
  refine z_aload_n C dL_law_458 rfl rfl ?_
  refine z_call (n := 0) (ob := 255) (Cn := RX8) (T := TX8) (N := 13) (As := []) (rest := [.int r]) (maxL := 3) (ret := some .int) C (c_X8_swap h2) gL_law_X8_swap rfl (by decide +kernel) ⟨Nat.le_of_ble_eq_true rfl, Nat.le_of_ble_eq_true rfl⟩ tg_255 (by decide) rfl rfl rfl rfl (Nat.le_of_ble_eq_true rfl) dL_law_459 ?_
  refine z_icmp_same (tgt := 791) C dL_law_462 (by decide) ?_
  exact hk M2 h3

set_option maxHeartbeats 4000000 in
set_option maxRecDepth 100000 in
theorem law_moveOut {p : Program} {l : Launch} {e : Env} {s : State} {m : MethodId} {args : Array Value} {below : List Frame} {meth : Method} {c : Code} {D : va_G} {cs : Nat → ClassId} {ad : Nat → Nat} {Q : State → Prop} {M : Mem} {b L : Nat} {xs : Nat → Int32} {i : Nat} (C : CxL p s m args c D cs ad b L xs) (hi : i + 4 ≤ L) (hL : L ≤ 2048) {Sim : Mem → Prop} (hok : Ok Sim M (f_X7_moveOut (xs (i + 1))) (f_X8_moveOut (xs (i + 1)))) (hk : ∀ M2, Sim M2 → VL p l e s m args below meth c D cs ad Q 791 [some (.ref b), some (.ref (ad 0)), some (.ref (ad 255)), some (.int (nI i))] [] M2) : VL p l e s m args below meth c D cs ad Q 467 [some (.ref b), some (.ref (ad 0)), some (.ref (ad 255)), some (.int (nI i))] [] M := by
  refine z_aload_n C dL_law_467 rfl rfl ?_
  refine z_aload_n C dL_law_468 rfl rfl ?_
  refine z_iload_n C dL_law_469 rfl rfl ?_
  refine z_iconst (v := (1 : Int32)) C dL_law_470 (by decide) ?_
  refine z_iadd (v := nI (i + 1)) C dL_law_471 (nI_add i 1) ?_
  refine z_sld (j := (i + 1)) C rfl (by omega) (by omega) dL_law_472 ?_
  obtain ⟨r, M1, M2, h1, h2, h3⟩ := hok
  refine z_call (n := 1) (ob := 0) (Cn := RX7) (T := TX7) (N := 7) (As := [.int (xs (i + 1))]) (rest := []) (maxL := 4) (ret := some .int) C (c_X7_moveOut h1) gL_law_X7_moveOut rfl (by decide +kernel) ⟨Nat.le_of_ble_eq_true rfl, Nat.le_of_ble_eq_true rfl⟩ tg_0 (by decide) rfl rfl rfl rfl (Nat.le_of_ble_eq_true rfl) dL_law_473 ?_
  refine z_aload_n C dL_law_476 rfl rfl ?_
  refine z_aload_n C dL_law_477 rfl rfl ?_
  refine z_iload_n C dL_law_478 rfl rfl ?_
  refine z_iconst (v := (1 : Int32)) C dL_law_479 (by decide) ?_
  refine z_iadd (v := nI (i + 1)) C dL_law_480 (nI_add i 1) ?_
  refine z_sld (j := (i + 1)) C rfl (by omega) (by omega) dL_law_481 ?_
  refine z_call (n := 1) (ob := 255) (Cn := RX8) (T := TX8) (N := 13) (As := [.int (xs (i + 1))]) (rest := [.int r]) (maxL := 3) (ret := some .int) C (c_X8_moveOut h2) gL_law_X8_moveOut rfl (by decide +kernel) ⟨Nat.le_of_ble_eq_true rfl, Nat.le_of_ble_eq_true rfl⟩ tg_255 (by decide) rfl rfl rfl rfl (Nat.le_of_ble_eq_true rfl) dL_law_482 ?_
  refine z_icmp_same (tgt := 791) C dL_law_485 (by decide) ?_
  exact hk M2 h3

set_option maxHeartbeats 4000000 in
set_option maxRecDepth 100000 in
theorem law_type {p : Program} {l : Launch} {e : Env} {s : State} {m : MethodId} {args : Array Value} {below : List Frame} {meth : Method} {c : Code} {D : va_G} {cs : Nat → ClassId} {ad : Nat → Nat} {Q : State → Prop} {M : Mem} {b L : Nat} {xs : Nat → Int32} {i : Nat} (C : CxL p s m args c D cs ad b L xs) (hi : i + 4 ≤ L) (hL : L ≤ 2048) {Sim : Mem → Prop} (hok : Ok Sim M (f_X7_type (((xs (i + 1)).toUInt32 % 65536).toInt32)) (f_X8_type (((xs (i + 1)).toUInt32 % 65536).toInt32))) (hk : ∀ M2, Sim M2 → VL p l e s m args below meth c D cs ad Q 791 [some (.ref b), some (.ref (ad 0)), some (.ref (ad 255)), some (.int (nI i))] [] M2) : VL p l e s m args below meth c D cs ad Q 490 [some (.ref b), some (.ref (ad 0)), some (.ref (ad 255)), some (.int (nI i))] [] M := by
  refine z_aload_n C dL_law_490 rfl rfl ?_
  refine z_aload_n C dL_law_491 rfl rfl ?_
  refine z_iload_n C dL_law_492 rfl rfl ?_
  refine z_iconst (v := (1 : Int32)) C dL_law_493 (by decide) ?_
  refine z_iadd (v := nI (i + 1)) C dL_law_494 (nI_add i 1) ?_
  refine z_sld (j := (i + 1)) C rfl (by omega) (by omega) dL_law_495 ?_
  refine z_i2c C dL_law_496 ?_
  obtain ⟨r, M1, M2, h1, h2, h3⟩ := hok
  refine z_call (n := 1) (ob := 0) (Cn := RX7) (T := TX7) (N := 7) (As := [.int (((xs (i + 1)).toUInt32 % 65536).toInt32)]) (rest := []) (maxL := 2) (ret := some .int) C (c_X7_type h1) gL_law_X7_type rfl (by decide +kernel) ⟨Nat.le_of_ble_eq_true rfl, Nat.le_of_ble_eq_true rfl⟩ tg_0 (by decide) rfl rfl rfl rfl (Nat.le_of_ble_eq_true rfl) dL_law_497 ?_
  refine z_aload_n C dL_law_500 rfl rfl ?_
  refine z_aload_n C dL_law_501 rfl rfl ?_
  refine z_iload_n C dL_law_502 rfl rfl ?_
  refine z_iconst (v := (1 : Int32)) C dL_law_503 (by decide) ?_
  refine z_iadd (v := nI (i + 1)) C dL_law_504 (nI_add i 1) ?_
  refine z_sld (j := (i + 1)) C rfl (by omega) (by omega) dL_law_505 ?_
  refine z_i2c C dL_law_506 ?_
  refine z_call (n := 1) (ob := 255) (Cn := RX8) (T := TX8) (N := 13) (As := [.int (((xs (i + 1)).toUInt32 % 65536).toInt32)]) (rest := [.int r]) (maxL := 2) (ret := some .int) C (c_X8_type h2) gL_law_X8_type rfl (by decide +kernel) ⟨Nat.le_of_ble_eq_true rfl, Nat.le_of_ble_eq_true rfl⟩ tg_255 (by decide) rfl rfl rfl rfl (Nat.le_of_ble_eq_true rfl) dL_law_507 ?_
  refine z_icmp_same (tgt := 791) C dL_law_510 (by decide) ?_
  exact hk M2 h3

set_option maxHeartbeats 4000000 in
set_option maxRecDepth 100000 in
theorem law_clearText {p : Program} {l : Launch} {e : Env} {s : State} {m : MethodId} {args : Array Value} {below : List Frame} {meth : Method} {c : Code} {D : va_G} {cs : Nat → ClassId} {ad : Nat → Nat} {Q : State → Prop} {M : Mem} {b L : Nat} {xs : Nat → Int32} {i : Nat} (C : CxL p s m args c D cs ad b L xs) (hi : i + 4 ≤ L) (hL : L ≤ 2048) {Sim : Mem → Prop} (hok : Ok Sim M f_X7_clearText f_X8_clearText) (hk : ∀ M2, Sim M2 → VL p l e s m args below meth c D cs ad Q 791 [some (.ref b), some (.ref (ad 0)), some (.ref (ad 255)), some (.int (nI i))] [] M2) : VL p l e s m args below meth c D cs ad Q 515 [some (.ref b), some (.ref (ad 0)), some (.ref (ad 255)), some (.int (nI i))] [] M := by
  refine z_aload_n C dL_law_515 rfl rfl ?_
  obtain ⟨r, M1, M2, h1, h2, h3⟩ := hok
  refine z_call (n := 0) (ob := 0) (Cn := RX7) (T := TX7) (N := 7) (As := []) (rest := []) (maxL := 2) (ret := some .int) C (c_X7_clearText h1) gL_law_X7_clearText rfl (by decide +kernel) ⟨Nat.le_of_ble_eq_true rfl, Nat.le_of_ble_eq_true rfl⟩ tg_0 (by decide) rfl rfl rfl rfl (Nat.le_of_ble_eq_true rfl) dL_law_516 ?_
  refine z_aload_n C dL_law_519 rfl rfl ?_
  refine z_call (n := 0) (ob := 255) (Cn := RX8) (T := TX8) (N := 13) (As := []) (rest := [.int r]) (maxL := 2) (ret := some .int) C (c_X8_clearText h2) gL_law_X8_clearText rfl (by decide +kernel) ⟨Nat.le_of_ble_eq_true rfl, Nat.le_of_ble_eq_true rfl⟩ tg_255 (by decide) rfl rfl rfl rfl (Nat.le_of_ble_eq_true rfl) dL_law_520 ?_
  refine z_icmp_same (tgt := 791) C dL_law_523 (by decide) ?_
  exact hk M2 h3

set_option maxHeartbeats 4000000 in
set_option maxRecDepth 100000 in
theorem law_undo {p : Program} {l : Launch} {e : Env} {s : State} {m : MethodId} {args : Array Value} {below : List Frame} {meth : Method} {c : Code} {D : va_G} {cs : Nat → ClassId} {ad : Nat → Nat} {Q : State → Prop} {M : Mem} {b L : Nat} {xs : Nat → Int32} {i : Nat} (C : CxL p s m args c D cs ad b L xs) (hi : i + 4 ≤ L) (hL : L ≤ 2048) {Sim : Mem → Prop} (hok : Ok Sim M f_X7_undo f_X8_undo) (hk : ∀ M2, Sim M2 → VL p l e s m args below meth c D cs ad Q 791 [some (.ref b), some (.ref (ad 0)), some (.ref (ad 255)), some (.int (nI i))] [] M2) : VL p l e s m args below meth c D cs ad Q 528 [some (.ref b), some (.ref (ad 0)), some (.ref (ad 255)), some (.int (nI i))] [] M := by
  refine z_aload_n C dL_law_528 rfl rfl ?_
  obtain ⟨r, M1, M2, h1, h2, h3⟩ := hok
  refine z_call (n := 0) (ob := 0) (Cn := RX7) (T := TX7) (N := 7) (As := []) (rest := []) (maxL := 1) (ret := some .int) C (c_X7_undo h1) gL_law_X7_undo rfl (by decide +kernel) ⟨Nat.le_of_ble_eq_true rfl, Nat.le_of_ble_eq_true rfl⟩ tg_0 (by decide) rfl rfl rfl rfl (Nat.le_of_ble_eq_true rfl) dL_law_529 ?_
  refine z_aload_n C dL_law_532 rfl rfl ?_
  refine z_call (n := 0) (ob := 255) (Cn := RX8) (T := TX8) (N := 13) (As := []) (rest := [.int r]) (maxL := 1) (ret := some .int) C (c_X8_undo h2) gL_law_X8_undo rfl (by decide +kernel) ⟨Nat.le_of_ble_eq_true rfl, Nat.le_of_ble_eq_true rfl⟩ tg_255 (by decide) rfl rfl rfl rfl (Nat.le_of_ble_eq_true rfl) dL_law_533 ?_
  refine z_icmp_same (tgt := 791) C dL_law_536 (by decide) ?_
  exact hk M2 h3

set_option maxHeartbeats 4000000 in
set_option maxRecDepth 100000 in
theorem law_keep {p : Program} {l : Launch} {e : Env} {s : State} {m : MethodId} {args : Array Value} {below : List Frame} {meth : Method} {c : Code} {D : va_G} {cs : Nat → ClassId} {ad : Nat → Nat} {Q : State → Prop} {M : Mem} {b L : Nat} {xs : Nat → Int32} {i : Nat} (C : CxL p s m args c D cs ad b L xs) (hi : i + 4 ≤ L) (hL : L ≤ 2048) {Sim : Mem → Prop} (hok : Ok Sim M f_X7_keep f_X8_keep) (hk : ∀ M2, Sim M2 → VL p l e s m args below meth c D cs ad Q 791 [some (.ref b), some (.ref (ad 0)), some (.ref (ad 255)), some (.int (nI i))] [] M2) : VL p l e s m args below meth c D cs ad Q 541 [some (.ref b), some (.ref (ad 0)), some (.ref (ad 255)), some (.int (nI i))] [] M := by
  refine z_aload_n C dL_law_541 rfl rfl ?_
  obtain ⟨r, M1, M2, h1, h2, h3⟩ := hok
  refine z_call (n := 0) (ob := 0) (Cn := RX7) (T := TX7) (N := 7) (As := []) (rest := []) (maxL := 1) (ret := some .int) C (c_X7_keep h1) gL_law_X7_keep rfl (by decide +kernel) ⟨Nat.le_of_ble_eq_true rfl, Nat.le_of_ble_eq_true rfl⟩ tg_0 (by decide) rfl rfl rfl rfl (Nat.le_of_ble_eq_true rfl) dL_law_542 ?_
  refine z_aload_n C dL_law_545 rfl rfl ?_
  refine z_call (n := 0) (ob := 255) (Cn := RX8) (T := TX8) (N := 13) (As := []) (rest := [.int r]) (maxL := 1) (ret := some .int) C (c_X8_keep h2) gL_law_X8_keep rfl (by decide +kernel) ⟨Nat.le_of_ble_eq_true rfl, Nat.le_of_ble_eq_true rfl⟩ tg_255 (by decide) rfl rfl rfl rfl (Nat.le_of_ble_eq_true rfl) dL_law_546 ?_
  refine z_icmp_same (tgt := 791) C dL_law_549 (by decide) ?_
  exact hk M2 h3

set_option maxHeartbeats 4000000 in
set_option maxRecDepth 100000 in
theorem law_restore {p : Program} {l : Launch} {e : Env} {s : State} {m : MethodId} {args : Array Value} {below : List Frame} {meth : Method} {c : Code} {D : va_G} {cs : Nat → ClassId} {ad : Nat → Nat} {Q : State → Prop} {M : Mem} {b L : Nat} {xs : Nat → Int32} {i : Nat} (C : CxL p s m args c D cs ad b L xs) (hi : i + 4 ≤ L) (hL : L ≤ 2048) {Sim : Mem → Prop} (hok : Ok Sim M f_X7_restore f_X8_restore) (hk : ∀ M2, Sim M2 → VL p l e s m args below meth c D cs ad Q 791 [some (.ref b), some (.ref (ad 0)), some (.ref (ad 255)), some (.int (nI i))] [] M2) : VL p l e s m args below meth c D cs ad Q 554 [some (.ref b), some (.ref (ad 0)), some (.ref (ad 255)), some (.int (nI i))] [] M := by
  refine z_aload_n C dL_law_554 rfl rfl ?_
  obtain ⟨r, M1, M2, h1, h2, h3⟩ := hok
  refine z_call (n := 0) (ob := 0) (Cn := RX7) (T := TX7) (N := 7) (As := []) (rest := []) (maxL := 1) (ret := some .int) C (c_X7_restore h1) gL_law_X7_restore rfl (by decide +kernel) ⟨Nat.le_of_ble_eq_true rfl, Nat.le_of_ble_eq_true rfl⟩ tg_0 (by decide) rfl rfl rfl rfl (Nat.le_of_ble_eq_true rfl) dL_law_555 ?_
  refine z_aload_n C dL_law_558 rfl rfl ?_
  refine z_call (n := 0) (ob := 255) (Cn := RX8) (T := TX8) (N := 13) (As := []) (rest := [.int r]) (maxL := 1) (ret := some .int) C (c_X8_restore h2) gL_law_X8_restore rfl (by decide +kernel) ⟨Nat.le_of_ble_eq_true rfl, Nat.le_of_ble_eq_true rfl⟩ tg_255 (by decide) rfl rfl rfl rfl (Nat.le_of_ble_eq_true rfl) dL_law_559 ?_
  refine z_icmp_same (tgt := 791) C dL_law_562 (by decide) ?_
  exact hk M2 h3

set_option maxHeartbeats 4000000 in
set_option maxRecDepth 100000 in
theorem law_flat {p : Program} {l : Launch} {e : Env} {s : State} {m : MethodId} {args : Array Value} {below : List Frame} {meth : Method} {c : Code} {D : va_G} {cs : Nat → ClassId} {ad : Nat → Nat} {Q : State → Prop} {M : Mem} {b L : Nat} {xs : Nat → Int32} {i : Nat} (C : CxL p s m args c D cs ad b L xs) (hi : i + 4 ≤ L) (hL : L ≤ 2048) {Sim : Mem → Prop} (hok : Ok Sim M (f_X7_flat (xs (i + 1)) (xs (i + 2))) (f_X8_flat (xs (i + 1)) (xs (i + 2)))) (hk : ∀ M2, Sim M2 → VL p l e s m args below meth c D cs ad Q 791 [some (.ref b), some (.ref (ad 0)), some (.ref (ad 255)), some (.int (nI i))] [] M2) : VL p l e s m args below meth c D cs ad Q 567 [some (.ref b), some (.ref (ad 0)), some (.ref (ad 255)), some (.int (nI i))] [] M := by
  refine z_aload_n C dL_law_567 rfl rfl ?_
  refine z_aload_n C dL_law_568 rfl rfl ?_
  refine z_iload_n C dL_law_569 rfl rfl ?_
  refine z_iconst (v := (1 : Int32)) C dL_law_570 (by decide) ?_
  refine z_iadd (v := nI (i + 1)) C dL_law_571 (nI_add i 1) ?_
  refine z_sld (j := (i + 1)) C rfl (by omega) (by omega) dL_law_572 ?_
  refine z_aload_n C dL_law_573 rfl rfl ?_
  refine z_iload_n C dL_law_574 rfl rfl ?_
  refine z_iconst (v := (2 : Int32)) C dL_law_575 (by decide) ?_
  refine z_iadd (v := nI (i + 2)) C dL_law_576 (nI_add i 2) ?_
  refine z_sld (j := (i + 2)) C rfl (by omega) (by omega) dL_law_577 ?_
  obtain ⟨r, M1, M2, h1, h2, h3⟩ := hok
  refine z_call (n := 2) (ob := 0) (Cn := RX7) (T := TX7) (N := 7) (As := [.int (xs (i + 1)), .int (xs (i + 2))]) (rest := []) (maxL := 3) (ret := some .int) C (c_X7_flat h1) gL_law_X7_flat rfl (by decide +kernel) ⟨Nat.le_of_ble_eq_true rfl, Nat.le_of_ble_eq_true rfl⟩ tg_0 (by decide) rfl rfl rfl rfl (Nat.le_of_ble_eq_true rfl) dL_law_578 ?_
  refine z_aload_n C dL_law_581 rfl rfl ?_
  refine z_aload_n C dL_law_582 rfl rfl ?_
  refine z_iload_n C dL_law_583 rfl rfl ?_
  refine z_iconst (v := (1 : Int32)) C dL_law_584 (by decide) ?_
  refine z_iadd (v := nI (i + 1)) C dL_law_585 (nI_add i 1) ?_
  refine z_sld (j := (i + 1)) C rfl (by omega) (by omega) dL_law_586 ?_
  refine z_aload_n C dL_law_587 rfl rfl ?_
  refine z_iload_n C dL_law_588 rfl rfl ?_
  refine z_iconst (v := (2 : Int32)) C dL_law_589 (by decide) ?_
  refine z_iadd (v := nI (i + 2)) C dL_law_590 (nI_add i 2) ?_
  refine z_sld (j := (i + 2)) C rfl (by omega) (by omega) dL_law_591 ?_
  refine z_call (n := 2) (ob := 255) (Cn := RX8) (T := TX8) (N := 13) (As := [.int (xs (i + 1)), .int (xs (i + 2))]) (rest := [.int r]) (maxL := 3) (ret := some .int) C (c_X8_flat h2) gL_law_X8_flat rfl (by decide +kernel) ⟨Nat.le_of_ble_eq_true rfl, Nat.le_of_ble_eq_true rfl⟩ tg_255 (by decide) rfl rfl rfl rfl (Nat.le_of_ble_eq_true rfl) dL_law_592 ?_
  refine z_icmp_same (tgt := 791) C dL_law_595 (by decide) ?_
  exact hk M2 h3

set_option maxHeartbeats 4000000 in
set_option maxRecDepth 100000 in
theorem law_household {p : Program} {l : Launch} {e : Env} {s : State} {m : MethodId} {args : Array Value} {below : List Frame} {meth : Method} {c : Code} {D : va_G} {cs : Nat → ClassId} {ad : Nat → Nat} {Q : State → Prop} {M : Mem} {b L : Nat} {xs : Nat → Int32} {i : Nat} (C : CxL p s m args c D cs ad b L xs) (hi : i + 4 ≤ L) (hL : L ≤ 2048) {Sim : Mem → Prop} (hok : Ok Sim M (f_X7_household (xs (i + 1)) (xs (i + 2))) (f_X8_household (xs (i + 1)) (xs (i + 2)))) (hk : ∀ M2, Sim M2 → VL p l e s m args below meth c D cs ad Q 791 [some (.ref b), some (.ref (ad 0)), some (.ref (ad 255)), some (.int (nI i))] [] M2) : VL p l e s m args below meth c D cs ad Q 600 [some (.ref b), some (.ref (ad 0)), some (.ref (ad 255)), some (.int (nI i))] [] M := by
  refine z_aload_n C dL_law_600 rfl rfl ?_
  refine z_aload_n C dL_law_601 rfl rfl ?_
  refine z_iload_n C dL_law_602 rfl rfl ?_
  refine z_iconst (v := (1 : Int32)) C dL_law_603 (by decide) ?_
  refine z_iadd (v := nI (i + 1)) C dL_law_604 (nI_add i 1) ?_
  refine z_sld (j := (i + 1)) C rfl (by omega) (by omega) dL_law_605 ?_
  refine z_aload_n C dL_law_606 rfl rfl ?_
  refine z_iload_n C dL_law_607 rfl rfl ?_
  refine z_iconst (v := (2 : Int32)) C dL_law_608 (by decide) ?_
  refine z_iadd (v := nI (i + 2)) C dL_law_609 (nI_add i 2) ?_
  refine z_sld (j := (i + 2)) C rfl (by omega) (by omega) dL_law_610 ?_
  obtain ⟨r, M1, M2, h1, h2, h3⟩ := hok
  refine z_call (n := 2) (ob := 0) (Cn := RX7) (T := TX7) (N := 7) (As := [.int (xs (i + 1)), .int (xs (i + 2))]) (rest := []) (maxL := 4) (ret := some .int) C (c_X7_household h1) gL_law_X7_household rfl (by decide +kernel) ⟨Nat.le_of_ble_eq_true rfl, Nat.le_of_ble_eq_true rfl⟩ tg_0 (by decide) rfl rfl rfl rfl (Nat.le_of_ble_eq_true rfl) dL_law_611 ?_
  refine z_aload_n C dL_law_614 rfl rfl ?_
  refine z_aload_n C dL_law_615 rfl rfl ?_
  refine z_iload_n C dL_law_616 rfl rfl ?_
  refine z_iconst (v := (1 : Int32)) C dL_law_617 (by decide) ?_
  refine z_iadd (v := nI (i + 1)) C dL_law_618 (nI_add i 1) ?_
  refine z_sld (j := (i + 1)) C rfl (by omega) (by omega) dL_law_619 ?_
  refine z_aload_n C dL_law_620 rfl rfl ?_
  refine z_iload_n C dL_law_621 rfl rfl ?_
  refine z_iconst (v := (2 : Int32)) C dL_law_622 (by decide) ?_
  refine z_iadd (v := nI (i + 2)) C dL_law_623 (nI_add i 2) ?_
  refine z_sld (j := (i + 2)) C rfl (by omega) (by omega) dL_law_624 ?_
  refine z_call (n := 2) (ob := 255) (Cn := RX8) (T := TX8) (N := 13) (As := [.int (xs (i + 1)), .int (xs (i + 2))]) (rest := [.int r]) (maxL := 3) (ret := some .int) C (c_X8_household h2) gL_law_X8_household rfl (by decide +kernel) ⟨Nat.le_of_ble_eq_true rfl, Nat.le_of_ble_eq_true rfl⟩ tg_255 (by decide) rfl rfl rfl rfl (Nat.le_of_ble_eq_true rfl) dL_law_625 ?_
  refine z_icmp_same (tgt := 791) C dL_law_628 (by decide) ?_
  exact hk M2 h3

set_option maxHeartbeats 4000000 in
set_option maxRecDepth 100000 in
theorem law_wished {p : Program} {l : Launch} {e : Env} {s : State} {m : MethodId} {args : Array Value} {below : List Frame} {meth : Method} {c : Code} {D : va_G} {cs : Nat → ClassId} {ad : Nat → Nat} {Q : State → Prop} {M : Mem} {b L : Nat} {xs : Nat → Int32} {i : Nat} (C : CxL p s m args c D cs ad b L xs) (hi : i + 4 ≤ L) (hL : L ≤ 2048) {Sim : Mem → Prop} (hok : Ok Sim M (f_X7_wished (xs (i + 1)) (xs (i + 2))) (f_X8_wished (xs (i + 1)) (xs (i + 2)))) (hk : ∀ M2, Sim M2 → VL p l e s m args below meth c D cs ad Q 791 [some (.ref b), some (.ref (ad 0)), some (.ref (ad 255)), some (.int (nI i))] [] M2) : VL p l e s m args below meth c D cs ad Q 633 [some (.ref b), some (.ref (ad 0)), some (.ref (ad 255)), some (.int (nI i))] [] M := by
  refine z_aload_n C dL_law_633 rfl rfl ?_
  refine z_aload_n C dL_law_634 rfl rfl ?_
  refine z_iload_n C dL_law_635 rfl rfl ?_
  refine z_iconst (v := (1 : Int32)) C dL_law_636 (by decide) ?_
  refine z_iadd (v := nI (i + 1)) C dL_law_637 (nI_add i 1) ?_
  refine z_sld (j := (i + 1)) C rfl (by omega) (by omega) dL_law_638 ?_
  refine z_aload_n C dL_law_639 rfl rfl ?_
  refine z_iload_n C dL_law_640 rfl rfl ?_
  refine z_iconst (v := (2 : Int32)) C dL_law_641 (by decide) ?_
  refine z_iadd (v := nI (i + 2)) C dL_law_642 (nI_add i 2) ?_
  refine z_sld (j := (i + 2)) C rfl (by omega) (by omega) dL_law_643 ?_
  obtain ⟨r, M1, M2, h1, h2, h3⟩ := hok
  refine z_call (n := 2) (ob := 0) (Cn := RX7) (T := TX7) (N := 7) (As := [.int (xs (i + 1)), .int (xs (i + 2))]) (rest := []) (maxL := 4) (ret := some .int) C (c_X7_wished h1) gL_law_X7_wished rfl (by decide +kernel) ⟨Nat.le_of_ble_eq_true rfl, Nat.le_of_ble_eq_true rfl⟩ tg_0 (by decide) rfl rfl rfl rfl (Nat.le_of_ble_eq_true rfl) dL_law_644 ?_
  refine z_aload_n C dL_law_647 rfl rfl ?_
  refine z_aload_n C dL_law_648 rfl rfl ?_
  refine z_iload_n C dL_law_649 rfl rfl ?_
  refine z_iconst (v := (1 : Int32)) C dL_law_650 (by decide) ?_
  refine z_iadd (v := nI (i + 1)) C dL_law_651 (nI_add i 1) ?_
  refine z_sld (j := (i + 1)) C rfl (by omega) (by omega) dL_law_652 ?_
  refine z_aload_n C dL_law_653 rfl rfl ?_
  refine z_iload_n C dL_law_654 rfl rfl ?_
  refine z_iconst (v := (2 : Int32)) C dL_law_655 (by decide) ?_
  refine z_iadd (v := nI (i + 2)) C dL_law_656 (nI_add i 2) ?_
  refine z_sld (j := (i + 2)) C rfl (by omega) (by omega) dL_law_657 ?_
  refine z_call (n := 2) (ob := 255) (Cn := RX8) (T := TX8) (N := 13) (As := [.int (xs (i + 1)), .int (xs (i + 2))]) (rest := [.int r]) (maxL := 3) (ret := some .int) C (c_X8_wished h2) gL_law_X8_wished rfl (by decide +kernel) ⟨Nat.le_of_ble_eq_true rfl, Nat.le_of_ble_eq_true rfl⟩ tg_255 (by decide) rfl rfl rfl rfl (Nat.le_of_ble_eq_true rfl) dL_law_658 ?_
  refine z_icmp_same (tgt := 791) C dL_law_661 (by decide) ?_
  exact hk M2 h3

set_option maxHeartbeats 4000000 in
set_option maxRecDepth 100000 in
theorem law_ordered {p : Program} {l : Launch} {e : Env} {s : State} {m : MethodId} {args : Array Value} {below : List Frame} {meth : Method} {c : Code} {D : va_G} {cs : Nat → ClassId} {ad : Nat → Nat} {Q : State → Prop} {M : Mem} {b L : Nat} {xs : Nat → Int32} {i : Nat} (C : CxL p s m args c D cs ad b L xs) (hi : i + 4 ≤ L) (hL : L ≤ 2048) {Sim : Mem → Prop} (hok : Ok Sim M (f_X7_ordered (xs (i + 1))) (f_X8_ordered (xs (i + 1)))) (hk : ∀ M2, Sim M2 → VL p l e s m args below meth c D cs ad Q 791 [some (.ref b), some (.ref (ad 0)), some (.ref (ad 255)), some (.int (nI i))] [] M2) : VL p l e s m args below meth c D cs ad Q 666 [some (.ref b), some (.ref (ad 0)), some (.ref (ad 255)), some (.int (nI i))] [] M := by
  refine z_aload_n C dL_law_666 rfl rfl ?_
  refine z_aload_n C dL_law_667 rfl rfl ?_
  refine z_iload_n C dL_law_668 rfl rfl ?_
  refine z_iconst (v := (1 : Int32)) C dL_law_669 (by decide) ?_
  refine z_iadd (v := nI (i + 1)) C dL_law_670 (nI_add i 1) ?_
  refine z_sld (j := (i + 1)) C rfl (by omega) (by omega) dL_law_671 ?_
  obtain ⟨r, M1, M2, h1, h2, h3⟩ := hok
  refine z_call (n := 1) (ob := 0) (Cn := RX7) (T := TX7) (N := 7) (As := [.int (xs (i + 1))]) (rest := []) (maxL := 2) (ret := some .int) C (c_X7_ordered h1) gL_law_X7_ordered rfl (by decide +kernel) ⟨Nat.le_of_ble_eq_true rfl, Nat.le_of_ble_eq_true rfl⟩ tg_0 (by decide) rfl rfl rfl rfl (Nat.le_of_ble_eq_true rfl) dL_law_672 ?_
  refine z_aload_n C dL_law_675 rfl rfl ?_
  refine z_aload_n C dL_law_676 rfl rfl ?_
  refine z_iload_n C dL_law_677 rfl rfl ?_
  refine z_iconst (v := (1 : Int32)) C dL_law_678 (by decide) ?_
  refine z_iadd (v := nI (i + 1)) C dL_law_679 (nI_add i 1) ?_
  refine z_sld (j := (i + 1)) C rfl (by omega) (by omega) dL_law_680 ?_
  refine z_call (n := 1) (ob := 255) (Cn := RX8) (T := TX8) (N := 13) (As := [.int (xs (i + 1))]) (rest := [.int r]) (maxL := 2) (ret := some .int) C (c_X8_ordered h2) gL_law_X8_ordered rfl (by decide +kernel) ⟨Nat.le_of_ble_eq_true rfl, Nat.le_of_ble_eq_true rfl⟩ tg_255 (by decide) rfl rfl rfl rfl (Nat.le_of_ble_eq_true rfl) dL_law_681 ?_
  refine z_icmp_same (tgt := 791) C dL_law_684 (by decide) ?_
  exact hk M2 h3

set_option maxHeartbeats 4000000 in
set_option maxRecDepth 100000 in
theorem law_envies {p : Program} {l : Launch} {e : Env} {s : State} {m : MethodId} {args : Array Value} {below : List Frame} {meth : Method} {c : Code} {D : va_G} {cs : Nat → ClassId} {ad : Nat → Nat} {Q : State → Prop} {M : Mem} {b L : Nat} {xs : Nat → Int32} {i : Nat} (C : CxL p s m args c D cs ad b L xs) (hi : i + 4 ≤ L) (hL : L ≤ 2048) {Sim : Mem → Prop} (hok : Ok Sim M (f_X7_envies (xs (i + 1)) (xs (i + 2))) (f_X8_envies (xs (i + 1)) (xs (i + 2)))) (hk : ∀ M2, Sim M2 → VL p l e s m args below meth c D cs ad Q 791 [some (.ref b), some (.ref (ad 0)), some (.ref (ad 255)), some (.int (nI i))] [] M2) : VL p l e s m args below meth c D cs ad Q 689 [some (.ref b), some (.ref (ad 0)), some (.ref (ad 255)), some (.int (nI i))] [] M := by
  refine z_aload_n C dL_law_689 rfl rfl ?_
  refine z_aload_n C dL_law_690 rfl rfl ?_
  refine z_iload_n C dL_law_691 rfl rfl ?_
  refine z_iconst (v := (1 : Int32)) C dL_law_692 (by decide) ?_
  refine z_iadd (v := nI (i + 1)) C dL_law_693 (nI_add i 1) ?_
  refine z_sld (j := (i + 1)) C rfl (by omega) (by omega) dL_law_694 ?_
  refine z_aload_n C dL_law_695 rfl rfl ?_
  refine z_iload_n C dL_law_696 rfl rfl ?_
  refine z_iconst (v := (2 : Int32)) C dL_law_697 (by decide) ?_
  refine z_iadd (v := nI (i + 2)) C dL_law_698 (nI_add i 2) ?_
  refine z_sld (j := (i + 2)) C rfl (by omega) (by omega) dL_law_699 ?_
  obtain ⟨r, M1, M2, h1, h2, h3⟩ := hok
  refine z_call (n := 2) (ob := 0) (Cn := RX7) (T := TX7) (N := 7) (As := [.int (xs (i + 1)), .int (xs (i + 2))]) (rest := []) (maxL := 3) (ret := some .int) C (c_X7_envies h1) gL_law_X7_envies rfl (by decide +kernel) ⟨Nat.le_of_ble_eq_true rfl, Nat.le_of_ble_eq_true rfl⟩ tg_0 (by decide) rfl rfl rfl rfl (Nat.le_of_ble_eq_true rfl) dL_law_700 ?_
  refine z_aload_n C dL_law_703 rfl rfl ?_
  refine z_aload_n C dL_law_704 rfl rfl ?_
  refine z_iload_n C dL_law_705 rfl rfl ?_
  refine z_iconst (v := (1 : Int32)) C dL_law_706 (by decide) ?_
  refine z_iadd (v := nI (i + 1)) C dL_law_707 (nI_add i 1) ?_
  refine z_sld (j := (i + 1)) C rfl (by omega) (by omega) dL_law_708 ?_
  refine z_aload_n C dL_law_709 rfl rfl ?_
  refine z_iload_n C dL_law_710 rfl rfl ?_
  refine z_iconst (v := (2 : Int32)) C dL_law_711 (by decide) ?_
  refine z_iadd (v := nI (i + 2)) C dL_law_712 (nI_add i 2) ?_
  refine z_sld (j := (i + 2)) C rfl (by omega) (by omega) dL_law_713 ?_
  refine z_call (n := 2) (ob := 255) (Cn := RX8) (T := TX8) (N := 13) (As := [.int (xs (i + 1)), .int (xs (i + 2))]) (rest := [.int r]) (maxL := 3) (ret := some .int) C (c_X8_envies h2) gL_law_X8_envies rfl (by decide +kernel) ⟨Nat.le_of_ble_eq_true rfl, Nat.le_of_ble_eq_true rfl⟩ tg_255 (by decide) rfl rfl rfl rfl (Nat.le_of_ble_eq_true rfl) dL_law_714 ?_
  refine z_icmp_same (tgt := 791) C dL_law_717 (by decide) ?_
  exact hk M2 h3

set_option maxHeartbeats 4000000 in
set_option maxRecDepth 100000 in
theorem law_wouldGet {p : Program} {l : Launch} {e : Env} {s : State} {m : MethodId} {args : Array Value} {below : List Frame} {meth : Method} {c : Code} {D : va_G} {cs : Nat → ClassId} {ad : Nat → Nat} {Q : State → Prop} {M : Mem} {b L : Nat} {xs : Nat → Int32} {i : Nat} (C : CxL p s m args c D cs ad b L xs) (hi : i + 4 ≤ L) (hL : L ≤ 2048) {Sim : Mem → Prop} (hok : Ok Sim M (f_X7_wouldGet (xs (i + 1)) (xs (i + 2))) (f_X8_wouldGet (xs (i + 1)) (xs (i + 2)))) (hk : ∀ M2, Sim M2 → VL p l e s m args below meth c D cs ad Q 791 [some (.ref b), some (.ref (ad 0)), some (.ref (ad 255)), some (.int (nI i))] [] M2) : VL p l e s m args below meth c D cs ad Q 722 [some (.ref b), some (.ref (ad 0)), some (.ref (ad 255)), some (.int (nI i))] [] M := by
  refine z_aload_n C dL_law_722 rfl rfl ?_
  refine z_aload_n C dL_law_723 rfl rfl ?_
  refine z_iload_n C dL_law_724 rfl rfl ?_
  refine z_iconst (v := (1 : Int32)) C dL_law_725 (by decide) ?_
  refine z_iadd (v := nI (i + 1)) C dL_law_726 (nI_add i 1) ?_
  refine z_sld (j := (i + 1)) C rfl (by omega) (by omega) dL_law_727 ?_
  refine z_aload_n C dL_law_728 rfl rfl ?_
  refine z_iload_n C dL_law_729 rfl rfl ?_
  refine z_iconst (v := (2 : Int32)) C dL_law_730 (by decide) ?_
  refine z_iadd (v := nI (i + 2)) C dL_law_731 (nI_add i 2) ?_
  refine z_sld (j := (i + 2)) C rfl (by omega) (by omega) dL_law_732 ?_
  obtain ⟨r, M1, M2, h1, h2, h3⟩ := hok
  refine z_call (n := 2) (ob := 0) (Cn := RX7) (T := TX7) (N := 7) (As := [.int (xs (i + 1)), .int (xs (i + 2))]) (rest := []) (maxL := 3) (ret := some .int) C (c_X7_wouldGet h1) gL_law_X7_wouldGet rfl (by decide +kernel) ⟨Nat.le_of_ble_eq_true rfl, Nat.le_of_ble_eq_true rfl⟩ tg_0 (by decide) rfl rfl rfl rfl (Nat.le_of_ble_eq_true rfl) dL_law_733 ?_
  refine z_aload_n C dL_law_736 rfl rfl ?_
  refine z_aload_n C dL_law_737 rfl rfl ?_
  refine z_iload_n C dL_law_738 rfl rfl ?_
  refine z_iconst (v := (1 : Int32)) C dL_law_739 (by decide) ?_
  refine z_iadd (v := nI (i + 1)) C dL_law_740 (nI_add i 1) ?_
  refine z_sld (j := (i + 1)) C rfl (by omega) (by omega) dL_law_741 ?_
  refine z_aload_n C dL_law_742 rfl rfl ?_
  refine z_iload_n C dL_law_743 rfl rfl ?_
  refine z_iconst (v := (2 : Int32)) C dL_law_744 (by decide) ?_
  refine z_iadd (v := nI (i + 2)) C dL_law_745 (nI_add i 2) ?_
  refine z_sld (j := (i + 2)) C rfl (by omega) (by omega) dL_law_746 ?_
  refine z_call (n := 2) (ob := 255) (Cn := RX8) (T := TX8) (N := 13) (As := [.int (xs (i + 1)), .int (xs (i + 2))]) (rest := [.int r]) (maxL := 8) (ret := some .int) C (c_X8_wouldGet h2) gL_law_X8_wouldGet rfl (by decide +kernel) ⟨Nat.le_of_ble_eq_true rfl, Nat.le_of_ble_eq_true rfl⟩ tg_255 (by decide) rfl rfl rfl rfl (Nat.le_of_ble_eq_true rfl) dL_law_747 ?_
  refine z_icmp_same (tgt := 791) C dL_law_750 (by decide) ?_
  exact hk M2 h3

set_option maxHeartbeats 4000000 in
set_option maxRecDepth 100000 in
theorem law_most {p : Program} {l : Launch} {e : Env} {s : State} {m : MethodId} {args : Array Value} {below : List Frame} {meth : Method} {c : Code} {D : va_G} {cs : Nat → ClassId} {ad : Nat → Nat} {Q : State → Prop} {M : Mem} {b L : Nat} {xs : Nat → Int32} {i : Nat} (C : CxL p s m args c D cs ad b L xs) (hi : i + 4 ≤ L) (hL : L ≤ 2048) {Sim : Mem → Prop} (hok : Ok Sim M f_X7_most f_X8_most) (hk : ∀ M2, Sim M2 → VL p l e s m args below meth c D cs ad Q 791 [some (.ref b), some (.ref (ad 0)), some (.ref (ad 255)), some (.int (nI i))] [] M2) : VL p l e s m args below meth c D cs ad Q 755 [some (.ref b), some (.ref (ad 0)), some (.ref (ad 255)), some (.int (nI i))] [] M := by
  refine z_aload_n C dL_law_755 rfl rfl ?_
  obtain ⟨r, M1, M2, h1, h2, h3⟩ := hok
  refine z_call (n := 0) (ob := 0) (Cn := RX7) (T := TX7) (N := 7) (As := []) (rest := []) (maxL := 1) (ret := some .int) C (c_X7_most h1) gL_law_X7_most rfl (by decide +kernel) ⟨Nat.le_of_ble_eq_true rfl, Nat.le_of_ble_eq_true rfl⟩ tg_0 (by decide) rfl rfl rfl rfl (Nat.le_of_ble_eq_true rfl) dL_law_756 ?_
  refine z_aload_n C dL_law_759 rfl rfl ?_
  refine z_call (n := 0) (ob := 255) (Cn := RX8) (T := TX8) (N := 13) (As := []) (rest := [.int r]) (maxL := 6) (ret := some .int) C (c_X8_most h2) gL_law_X8_most rfl (by decide +kernel) ⟨Nat.le_of_ble_eq_true rfl, Nat.le_of_ble_eq_true rfl⟩ tg_255 (by decide) rfl rfl rfl rfl (Nat.le_of_ble_eq_true rfl) dL_law_760 ?_
  refine z_icmp_same (tgt := 791) C dL_law_763 (by decide) ?_
  exact hk M2 h3

set_option maxHeartbeats 4000000 in
set_option maxRecDepth 100000 in
theorem law_count {p : Program} {l : Launch} {e : Env} {s : State} {m : MethodId} {args : Array Value} {below : List Frame} {meth : Method} {c : Code} {D : va_G} {cs : Nat → ClassId} {ad : Nat → Nat} {Q : State → Prop} {M : Mem} {b L : Nat} {xs : Nat → Int32} {i : Nat} (C : CxL p s m args c D cs ad b L xs) (hi : i + 4 ≤ L) (hL : L ≤ 2048) {Sim : Mem → Prop} (hok : Ok Sim M (f_X7_count (xs (i + 1))) (f_X8_count (xs (i + 1)))) (hk : ∀ M2, Sim M2 → VL p l e s m args below meth c D cs ad Q 791 [some (.ref b), some (.ref (ad 0)), some (.ref (ad 255)), some (.int (nI i))] [] M2) : VL p l e s m args below meth c D cs ad Q 768 [some (.ref b), some (.ref (ad 0)), some (.ref (ad 255)), some (.int (nI i))] [] M := by
  refine z_aload_n C dL_law_768 rfl rfl ?_
  refine z_aload_n C dL_law_769 rfl rfl ?_
  refine z_iload_n C dL_law_770 rfl rfl ?_
  refine z_iconst (v := (1 : Int32)) C dL_law_771 (by decide) ?_
  refine z_iadd (v := nI (i + 1)) C dL_law_772 (nI_add i 1) ?_
  refine z_sld (j := (i + 1)) C rfl (by omega) (by omega) dL_law_773 ?_
  obtain ⟨r, M1, M2, h1, h2, h3⟩ := hok
  refine z_call (n := 1) (ob := 0) (Cn := RX7) (T := TX7) (N := 7) (As := [.int (xs (i + 1))]) (rest := []) (maxL := 2) (ret := some .int) C (c_X7_count h1) gL_law_X7_count rfl (by decide +kernel) ⟨Nat.le_of_ble_eq_true rfl, Nat.le_of_ble_eq_true rfl⟩ tg_0 (by decide) rfl rfl rfl rfl (Nat.le_of_ble_eq_true rfl) dL_law_774 ?_
  refine z_aload_n C dL_law_777 rfl rfl ?_
  refine z_aload_n C dL_law_778 rfl rfl ?_
  refine z_iload_n C dL_law_779 rfl rfl ?_
  refine z_iconst (v := (1 : Int32)) C dL_law_780 (by decide) ?_
  refine z_iadd (v := nI (i + 1)) C dL_law_781 (nI_add i 1) ?_
  refine z_sld (j := (i + 1)) C rfl (by omega) (by omega) dL_law_782 ?_
  refine z_call (n := 1) (ob := 255) (Cn := RX8) (T := TX8) (N := 13) (As := [.int (xs (i + 1))]) (rest := [.int r]) (maxL := 2) (ret := some .int) C (c_X8_count h2) gL_law_X8_count rfl (by decide +kernel) ⟨Nat.le_of_ble_eq_true rfl, Nat.le_of_ble_eq_true rfl⟩ tg_255 (by decide) rfl rfl rfl rfl (Nat.le_of_ble_eq_true rfl) dL_law_783 ?_
  refine z_icmp_same (tgt := 791) C dL_law_786 (by decide) ?_
  exact hk M2 h3

def OpsOk (Sim : Mem → Prop) : Prop :=
  (∀ M, Sim M → ∀ a b : Int32, Ok Sim M (f_X7_addFlat a b) (f_X8_addFlat a b)) ∧
  (∀ M, Sim M → ∀ a b : Int32, Ok Sim M (f_X7_addHousehold a b) (f_X8_addHousehold a b)) ∧
  (∀ M, Sim M → ∀ a b z : Int32, b = 0 ∨ b = 1 → Ok Sim M (f_X7_change a b z) (f_X8_change a b z)) ∧
  (∀ M, Sim M → ∀ a b : Int32, Ok Sim M (f_X7_wish a b) (f_X8_wish a b)) ∧
  (∀ M, Sim M → ∀ a b : Int32, Ok Sim M (f_X7_unwish a b) (f_X8_unwish a b)) ∧
  (∀ M, Sim M → Ok Sim M f_X7_readLists f_X8_readLists) ∧
  (∀ M, Sim M → ∀ a b : Int32, Ok Sim M (f_X7_draw a b) (f_X8_draw a b)) ∧
  (∀ M, Sim M → Ok Sim M f_X7_round f_X8_round) ∧
  (∀ M, Sim M → ∀ a : Int32, Ok Sim M (f_X7_decline a) (f_X8_decline a)) ∧
  (∀ M, Sim M → ∀ a b : Int32, Ok Sim M (f_X7_appeal a b) (f_X8_appeal a b)) ∧
  (∀ M, Sim M → Ok Sim M f_X7_swap f_X8_swap) ∧
  (∀ M, Sim M → ∀ a : Int32, Ok Sim M (f_X7_moveOut a) (f_X8_moveOut a)) ∧
  (∀ M, Sim M → ∀ a : Int32, Ok Sim M (f_X7_type a) (f_X8_type a)) ∧
  (∀ M, Sim M → Ok Sim M f_X7_clearText f_X8_clearText) ∧
  (∀ M, Sim M → Ok Sim M f_X7_undo f_X8_undo) ∧
  (∀ M, Sim M → Ok Sim M f_X7_keep f_X8_keep) ∧
  (∀ M, Sim M → Ok Sim M f_X7_restore f_X8_restore) ∧
  (∀ M, Sim M → ∀ a b : Int32, Ok Sim M (f_X7_flat a b) (f_X8_flat a b)) ∧
  (∀ M, Sim M → ∀ a b : Int32, Ok Sim M (f_X7_household a b) (f_X8_household a b)) ∧
  (∀ M, Sim M → ∀ a b : Int32, Ok Sim M (f_X7_wished a b) (f_X8_wished a b)) ∧
  (∀ M, Sim M → ∀ a : Int32, Ok Sim M (f_X7_ordered a) (f_X8_ordered a)) ∧
  (∀ M, Sim M → ∀ a b : Int32, Ok Sim M (f_X7_envies a b) (f_X8_envies a b)) ∧
  (∀ M, Sim M → ∀ a b : Int32, Ok Sim M (f_X7_wouldGet a b) (f_X8_wouldGet a b)) ∧
  (∀ M, Sim M → Ok Sim M f_X7_most f_X8_most) ∧
  (∀ M, Sim M → ∀ a : Int32, Ok Sim M (f_X7_count a) (f_X8_count a))
set_option maxHeartbeats 8000000 in
set_option maxRecDepth 100000 in
theorem law_loop {p : Program} {l : Launch} {e : Env} {s : State} {m : MethodId} {args : Array Value} {below : List Frame} {meth : Method} {c : Code} {D : va_G} {cs : Nat → ClassId} {ad : Nat → Nat} {Q : State → Prop} {b L : Nat} {xs : Nat → Int32} (C : CxL p s m args c D cs ad b L xs) (hL : L ≤ 2048) {Sim : Mem → Prop} (O : OpsOk Sim) (hend : ∀ (i : Nat) (M : Mem), VL p l e s m args below meth c D cs ad Q 797 [some (.ref b), some (.ref (ad 0)), some (.ref (ad 255)), some (.int (nI i))] [] M) : ∀ (d i : Nat) (M : Mem), L - i < d → i ≤ L → Sim M → VL p l e s m args below meth c D cs ad Q 18 [some (.ref b), some (.ref (ad 0)), some (.ref (ad 255)), some (.int (nI i))] [] M := by
  intro d
  induction d with
  | zero => intro i M h; exact absurd h (Nat.not_lt_zero _)
  | succ d ih =>
    intro i M hd hiL hM
    refine z_iload_n C dL_law_18 rfl rfl ?_
    refine z_aload_n C dL_law_19 rfl rfl ?_
    refine z_slen C dL_law_20 ?_
    refine z_iconst (v := (4 : Int32)) C dL_law_21 (by decide) ?_
    refine z_isub C dL_law_22 ?_
    have hz : (nI L - 4).toInt = (L : Int) - 4 := pk_sub_toInt (b := 4) (by omega) (by omega)
    have hzi : (nI i).toInt = (i : Int) := nI_toInt (by omega)
    refine z_icmp_gt (tgt := 797) C dL_law_23 (by decide) (fun _ => hend i M) (fun hq => ?_)
    rw [Int32.lt_iff_toInt_lt, hz, hzi] at hq
    have hi : i + 4 ≤ L := by omega
    have hk : ∀ M2, Sim M2 → VL p l e s m args below meth c D cs ad Q 791 [some (.ref b), some (.ref (ad 0)), some (.ref (ad 255)), some (.int (nI i))] [] M2 := by
      intro M2 h2
      refine z_iinc (d := (4 : Int32)) (v := nI (i + 4)) (lv' := [some (.ref b), some (.ref (ad 0)), some (.ref (ad 255)), some (.int (nI (i + 4)))]) C dL_law_791 rfl (by decide) (nI_add i 4) (by decide) rfl ?_
      refine z_goto (tgt := 18) C dL_law_794 (by decide) ?_
      exact ih (i + 4) M2 (by omega) hi h2
    refine z_aload_n C dL_law_26 rfl rfl ?_
    refine z_iload_n C dL_law_27 rfl rfl ?_
    refine z_sld (j := i) C rfl (by omega) (by omega) dL_law_28 ?_
    refine z_bipush (v := (31 : Int32)) C dL_law_29 (by decide) ?_
    refine z_iand C dL_law_31 ?_
    by_cases c0 : (xs i) &&& (31 : Int32) = (0 : Int32)
    · refine z_tabIn (tgt := 148) (off := 116) C dL_law_32 (0 : Int32) c0 (by decide) (by decide) (by decide) (by decide) ?_
      exact law_addFlat C (by omega) hL (O.1 M hM _ _) hk
    by_cases c1 : (xs i) &&& (31 : Int32) = (1 : Int32)
    · refine z_tabIn (tgt := 181) (off := 149) C dL_law_32 (1 : Int32) c1 (by decide) (by decide) (by decide) (by decide) ?_
      exact law_addHousehold C (by omega) hL (O.2.1 M hM _ _) hk
    by_cases c2 : (xs i) &&& (31 : Int32) = (2 : Int32)
    · refine z_tabIn (tgt := 214) (off := 182) C dL_law_32 (2 : Int32) c2 (by decide) (by decide) (by decide) (by decide) ?_
      exact law_change C (by omega) hL (fun _ => O.2.2.1 M hM _ _ _ (Or.inl rfl)) (fun _ => O.2.2.1 M hM _ _ _ (Or.inr rfl)) hk
    by_cases c3 : (xs i) &&& (31 : Int32) = (3 : Int32)
    · refine z_tabIn (tgt := 273) (off := 241) C dL_law_32 (3 : Int32) c3 (by decide) (by decide) (by decide) (by decide) ?_
      exact law_wish C (by omega) hL (O.2.2.2.1 M hM _ _) hk
    by_cases c4 : (xs i) &&& (31 : Int32) = (4 : Int32)
    · refine z_tabIn (tgt := 306) (off := 274) C dL_law_32 (4 : Int32) c4 (by decide) (by decide) (by decide) (by decide) ?_
      exact law_unwish C (by omega) hL (O.2.2.2.2.1 M hM _ _) hk
    by_cases c5 : (xs i) &&& (31 : Int32) = (5 : Int32)
    · refine z_tabIn (tgt := 339) (off := 307) C dL_law_32 (5 : Int32) c5 (by decide) (by decide) (by decide) (by decide) ?_
      exact law_readLists C (by omega) hL (O.2.2.2.2.2.1 M hM) hk
    by_cases c6 : (xs i) &&& (31 : Int32) = (6 : Int32)
    · refine z_tabIn (tgt := 352) (off := 320) C dL_law_32 (6 : Int32) c6 (by decide) (by decide) (by decide) (by decide) ?_
      exact law_draw C (by omega) hL (O.2.2.2.2.2.2.1 M hM _ _) hk
    by_cases c7 : (xs i) &&& (31 : Int32) = (7 : Int32)
    · refine z_tabIn (tgt := 385) (off := 353) C dL_law_32 (7 : Int32) c7 (by decide) (by decide) (by decide) (by decide) ?_
      exact law_round C (by omega) hL (O.2.2.2.2.2.2.2.1 M hM) hk
    by_cases c8 : (xs i) &&& (31 : Int32) = (8 : Int32)
    · refine z_tabIn (tgt := 398) (off := 366) C dL_law_32 (8 : Int32) c8 (by decide) (by decide) (by decide) (by decide) ?_
      exact law_decline C (by omega) hL (O.2.2.2.2.2.2.2.2.1 M hM _) hk
    by_cases c9 : (xs i) &&& (31 : Int32) = (9 : Int32)
    · refine z_tabIn (tgt := 421) (off := 389) C dL_law_32 (9 : Int32) c9 (by decide) (by decide) (by decide) (by decide) ?_
      exact law_appeal C (by omega) hL (O.2.2.2.2.2.2.2.2.2.1 M hM _ _) hk
    by_cases c10 : (xs i) &&& (31 : Int32) = (10 : Int32)
    · refine z_tabIn (tgt := 454) (off := 422) C dL_law_32 (10 : Int32) c10 (by decide) (by decide) (by decide) (by decide) ?_
      exact law_swap C (by omega) hL (O.2.2.2.2.2.2.2.2.2.2.1 M hM) hk
    by_cases c11 : (xs i) &&& (31 : Int32) = (11 : Int32)
    · refine z_tabIn (tgt := 467) (off := 435) C dL_law_32 (11 : Int32) c11 (by decide) (by decide) (by decide) (by decide) ?_
      exact law_moveOut C (by omega) hL (O.2.2.2.2.2.2.2.2.2.2.2.1 M hM _) hk
    by_cases c12 : (xs i) &&& (31 : Int32) = (12 : Int32)
    · refine z_tabIn (tgt := 490) (off := 458) C dL_law_32 (12 : Int32) c12 (by decide) (by decide) (by decide) (by decide) ?_
      exact law_type C (by omega) hL (O.2.2.2.2.2.2.2.2.2.2.2.2.1 M hM _) hk
    by_cases c13 : (xs i) &&& (31 : Int32) = (13 : Int32)
    · refine z_tabIn (tgt := 515) (off := 483) C dL_law_32 (13 : Int32) c13 (by decide) (by decide) (by decide) (by decide) ?_
      exact law_clearText C (by omega) hL (O.2.2.2.2.2.2.2.2.2.2.2.2.2.1 M hM) hk
    by_cases c14 : (xs i) &&& (31 : Int32) = (14 : Int32)
    · refine z_tabIn (tgt := 528) (off := 496) C dL_law_32 (14 : Int32) c14 (by decide) (by decide) (by decide) (by decide) ?_
      exact law_undo C (by omega) hL (O.2.2.2.2.2.2.2.2.2.2.2.2.2.2.1 M hM) hk
    by_cases c15 : (xs i) &&& (31 : Int32) = (15 : Int32)
    · refine z_tabIn (tgt := 541) (off := 509) C dL_law_32 (15 : Int32) c15 (by decide) (by decide) (by decide) (by decide) ?_
      exact law_keep C (by omega) hL (O.2.2.2.2.2.2.2.2.2.2.2.2.2.2.2.1 M hM) hk
    by_cases c16 : (xs i) &&& (31 : Int32) = (16 : Int32)
    · refine z_tabIn (tgt := 554) (off := 522) C dL_law_32 (16 : Int32) c16 (by decide) (by decide) (by decide) (by decide) ?_
      exact law_restore C (by omega) hL (O.2.2.2.2.2.2.2.2.2.2.2.2.2.2.2.2.1 M hM) hk
    by_cases c17 : (xs i) &&& (31 : Int32) = (17 : Int32)
    · refine z_tabIn (tgt := 567) (off := 535) C dL_law_32 (17 : Int32) c17 (by decide) (by decide) (by decide) (by decide) ?_
      exact law_flat C (by omega) hL (O.2.2.2.2.2.2.2.2.2.2.2.2.2.2.2.2.2.1 M hM _ _) hk
    by_cases c18 : (xs i) &&& (31 : Int32) = (18 : Int32)
    · refine z_tabIn (tgt := 600) (off := 568) C dL_law_32 (18 : Int32) c18 (by decide) (by decide) (by decide) (by decide) ?_
      exact law_household C (by omega) hL (O.2.2.2.2.2.2.2.2.2.2.2.2.2.2.2.2.2.2.1 M hM _ _) hk
    by_cases c19 : (xs i) &&& (31 : Int32) = (19 : Int32)
    · refine z_tabIn (tgt := 633) (off := 601) C dL_law_32 (19 : Int32) c19 (by decide) (by decide) (by decide) (by decide) ?_
      exact law_wished C (by omega) hL (O.2.2.2.2.2.2.2.2.2.2.2.2.2.2.2.2.2.2.2.1 M hM _ _) hk
    by_cases c20 : (xs i) &&& (31 : Int32) = (20 : Int32)
    · refine z_tabIn (tgt := 666) (off := 634) C dL_law_32 (20 : Int32) c20 (by decide) (by decide) (by decide) (by decide) ?_
      exact law_ordered C (by omega) hL (O.2.2.2.2.2.2.2.2.2.2.2.2.2.2.2.2.2.2.2.2.1 M hM _) hk
    by_cases c21 : (xs i) &&& (31 : Int32) = (21 : Int32)
    · refine z_tabIn (tgt := 689) (off := 657) C dL_law_32 (21 : Int32) c21 (by decide) (by decide) (by decide) (by decide) ?_
      exact law_envies C (by omega) hL (O.2.2.2.2.2.2.2.2.2.2.2.2.2.2.2.2.2.2.2.2.2.1 M hM _ _) hk
    by_cases c22 : (xs i) &&& (31 : Int32) = (22 : Int32)
    · refine z_tabIn (tgt := 722) (off := 690) C dL_law_32 (22 : Int32) c22 (by decide) (by decide) (by decide) (by decide) ?_
      exact law_wouldGet C (by omega) hL (O.2.2.2.2.2.2.2.2.2.2.2.2.2.2.2.2.2.2.2.2.2.2.1 M hM _ _) hk
    by_cases c23 : (xs i) &&& (31 : Int32) = (23 : Int32)
    · refine z_tabIn (tgt := 755) (off := 723) C dL_law_32 (23 : Int32) c23 (by decide) (by decide) (by decide) (by decide) ?_
      exact law_most C (by omega) hL (O.2.2.2.2.2.2.2.2.2.2.2.2.2.2.2.2.2.2.2.2.2.2.2.1 M hM) hk
    by_cases c24 : (xs i) &&& (31 : Int32) = (24 : Int32)
    · refine z_tabIn (tgt := 768) (off := 736) C dL_law_32 (24 : Int32) c24 (by decide) (by decide) (by decide) (by decide) ?_
      exact law_count C (by omega) hL (O.2.2.2.2.2.2.2.2.2.2.2.2.2.2.2.2.2.2.2.2.2.2.2.2 M hM _) hk
    have z0 := lv_neT c0 (a := 0) (by decide)
    have z1 := lv_neT c1 (a := 1) (by decide)
    have z2 := lv_neT c2 (a := 2) (by decide)
    have z3 := lv_neT c3 (a := 3) (by decide)
    have z4 := lv_neT c4 (a := 4) (by decide)
    have z5 := lv_neT c5 (a := 5) (by decide)
    have z6 := lv_neT c6 (a := 6) (by decide)
    have z7 := lv_neT c7 (a := 7) (by decide)
    have z8 := lv_neT c8 (a := 8) (by decide)
    have z9 := lv_neT c9 (a := 9) (by decide)
    have z10 := lv_neT c10 (a := 10) (by decide)
    have z11 := lv_neT c11 (a := 11) (by decide)
    have z12 := lv_neT c12 (a := 12) (by decide)
    have z13 := lv_neT c13 (a := 13) (by decide)
    have z14 := lv_neT c14 (a := 14) (by decide)
    have z15 := lv_neT c15 (a := 15) (by decide)
    have z16 := lv_neT c16 (a := 16) (by decide)
    have z17 := lv_neT c17 (a := 17) (by decide)
    have z18 := lv_neT c18 (a := 18) (by decide)
    have z19 := lv_neT c19 (a := 19) (by decide)
    have z20 := lv_neT c20 (a := 20) (by decide)
    have z21 := lv_neT c21 (a := 21) (by decide)
    have z22 := lv_neT c22 (a := 22) (by decide)
    have z23 := lv_neT c23 (a := 23) (by decide)
    have z24 := lv_neT c24 (a := 24) (by decide)
    refine z_tabOut (tgt := 791) C dL_law_32 (by omega) (by decide) ?_
    exact hk M hM

