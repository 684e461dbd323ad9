set_option maxHeartbeats 4000000 in
set_option maxRecDepth 100000 in
theorem c_X3_digitAtHand  {M : Mem} {r : Int32} {M' : Mem}  (hf : f_X3_digitAtHand  M = some (r, M')) : CnI yX3_digitAtHand wsX3_digitAtHand 1 (fun ad => [.ref (ad 243)]) M r M' := by
  unfold f_X3_digitAtHand at hf
  refine x_metI (cc := cX3_digitAtHand) (maxL := 2) RX3 rfl (by decide) rfl (fun ad => Nat.le_of_ble_eq_true rfl) (fun ad v hv => ?_) (fun p l e s m args below meth c D cs ad C hr => ?_)
  · simp only [List.mem_cons, List.not_mem_nil, or_false] at hv
    rcases hv with rfl <;> rfl
  · show V p l e (rmk 1) s m args below meth c 2 D cs ad (QI below s args D cs ad r M') 0 [some (.ref (ad 243)), none] [] M
    refine x_aload_n C dX3_digitAtHand_0 rfl rfl ?_
    obtain ⟨r1, M2, e3, hf⟩ := bd_of hf
    refine x_callV (n := 0) (Cn := RX3) (T := TX3) (N := 7) (As := []) (rest := []) (maxL := 1) (ret := (some .int)) C (c_X3_atHand  e3) gX3_digitAtHand_X3_atHand rfl (by decide +kernel) ⟨Nat.le_of_ble_eq_true rfl, Nat.le_of_ble_eq_true rfl⟩ tg_243 (by decide) rfl rfl rfl rfl (Nat.le_of_ble_eq_true rfl) dX3_digitAtHand_1 ?_
    refine x_istore_n (lv' := [some (.ref (ad 243)), some (.int r1)]) C dX3_digitAtHand_4 rfl (by decide) rfl ?_
    refine x_iload_n C dX3_digitAtHand_5 rfl rfl ?_
    refine x_bipush (v := (48 : Int32)) C dX3_digitAtHand_6 (by decide) ?_
    refine x_icmp_lt (tgt := 24) C dX3_digitAtHand_8 (by decide) (fun q4 => ?_) (fun q4 => ?_)
    · have hf := ift q4 hf
      refine x_bipush (v := (-5 : Int32)) C dX3_digitAtHand_24 (by decide) ?_
      exact x_iret C hr hf dX3_digitAtHand_26
    · have hf := iff_ q4 hf
      refine x_iload_n C dX3_digitAtHand_11 rfl rfl ?_
      refine x_bipush (v := (57 : Int32)) C dX3_digitAtHand_12 (by decide) ?_
      refine x_icmp_gt (tgt := 24) C dX3_digitAtHand_14 (by decide) (fun q5 => ?_) (fun q5 => ?_)
      · have hf := ift q5 hf
        refine x_bipush (v := (-5 : Int32)) C dX3_digitAtHand_24 (by decide) ?_
        exact x_iret C hr hf dX3_digitAtHand_26
      · have hf := iff_ q5 hf
        refine x_iload_n C dX3_digitAtHand_17 rfl rfl ?_
        refine x_bipush (v := (48 : Int32)) C dX3_digitAtHand_18 (by decide) ?_
        refine x_isub C dX3_digitAtHand_20 ?_
        refine x_goto (tgt := 26) C dX3_digitAtHand_21 (by decide) ?_
        exact x_iret C hr hf dX3_digitAtHand_26

theorem kX3_layLists_15 : Cond.fieldLink RX3 15 "FlatLottery$ListText" "listHousehold" "[I" ∈ wsX3_layLists := List.mem_of_getElem? (i := 2) rfl
theorem kX3_layLists_19 : Cond.fieldLink RX3 19 "FlatLottery$ListText" "listSize" "[I" ∈ wsX3_layLists := List.mem_of_getElem? (i := 5) rfl
theorem kX3_layLists_22 : Cond.fieldLink RX3 22 "FlatLottery$ListText" "listFlats" "[I" ∈ wsX3_layLists := List.mem_of_getElem? (i := 6) rfl
theorem kX3_layLists_32 : Cond.fieldLink RX3 32 "FlatLottery$ListText" "listCount" "I" ∈ wsX3_layLists := List.mem_of_getElem? (i := 1) rfl
theorem kX3_layLists_58 : Cond.fieldLink RX3 58 "FlatLottery$State" "households" "[LFlatLottery$Household;" ∈ wsX3_layLists := List.mem_of_getElem? (i := 3) rfl
theorem kX3_layLists_62 : Cond.fieldLink RX3 62 "FlatLottery$Household" "wishCount" "I" ∈ wsX3_layLists := List.mem_of_getElem? (i := 4) rfl
theorem nX3_layLists_2 : ∀ w ∈ u_ws RX2 TX2 9, w ∈ wsX3_layLists := in_r [35, 36, 37, 38, 39, 40, 41, 42, 43] (by decide +kernel)
theorem nX3_layLists_3 : ∀ w ∈ u_ws RX3 TX3 7, w ∈ wsX3_layLists := in_r [20, 21, 22, 23, 24, 25, 26] (by decide +kernel)
theorem nX3_layLists_6 : ∀ w ∈ u_ws RX6 TX6 8, w ∈ wsX3_layLists := in_r [27, 28, 29, 30, 31, 32, 33, 34] (by decide +kernel)
set_option maxHeartbeats 4000000 in
set_option maxRecDepth 100000 in
theorem cl_X3_layLists_45 {p : Program} {l : Launch} {e : Env} {s : State} {m : MethodId} {args : Array Value} {below : List Frame} {meth : Method} {c : Code} {D : va_G} {cs : Nat → ClassId} {ad : Nat → Nat} (C : Cx p s m args meth c RX3 cX3_layLists 6 wsX3_layLists D cs ad) (hr : meth.sig.returnType = none) {a2 : Int32} {a4 : Nat} {x1 : Value} {r : Int32} {M' : Mem} (t4 : tg a4 = 2) {k : Mem → Option (Int32 × Mem)} (hk : ∀ (M : Mem), k M = some (r, M') → V p l e (rmk 1) s m args below meth c 6 D cs ad (QV below s args D cs ad M') 79 [some (.ref (ad 243)), some (x1), some (.int a2), none, none, none] [] M) : ∀ (n : Nat) (a5 : Int32) (M : Mem), l_X3_layLists_45 a2 a4 k n a5 M = some (r, M') → V p l e (rmk 1) s m args below meth c 6 D cs ad (QV below s args D cs ad M') 45 [some (.ref (ad 243)), some (x1), some (.int a2), none, some (.ref (ad a4)), some (.int a5)] [] M := by
  intro n
  induction n with
  | zero => intro a5 M hf; cases hf
  | succ n ih =>
    intro a5 M hf
    rw [l_X3_layLists_45_s] at hf
    refine x_iload C dX3_layLists_45 rfl ?_
    refine x_aload_n C dX3_layLists_47 rfl rfl ?_
    refine x_getr (Cn := RX3) (T := TX3) (N := 7) C tg_243 (by decide) rfl nX3_layLists_3 4 (by decide) rfl kX3_layLists_19 rfl dX3_layLists_48 246 rfl ?_
    refine x_iload_n C dX3_layLists_51 rfl rfl ?_
    obtain ⟨g11, hf⟩ := ck_of hf
    refine x_iald (j := (a2).toNatClampNeg) C tg_246 tl_246 g11 rfl dX3_layLists_52 ?_
    refine x_icmp_ge (tgt := 79) C dX3_layLists_53 (by decide) (fun q12 => ?_) (fun q12 => ?_)
    · have hf := ift q12 hf
      exact x_weak (hk _ hf) [0, 1, 2] rfl
    · have hf := iff_ q12 hf
      refine x_aload C dX3_layLists_56 rfl ?_
      refine x_aload_n C dX3_layLists_58 rfl rfl ?_
      refine x_getr (Cn := RX3) (T := TX3) (N := 7) C tg_243 (by decide) rfl nX3_layLists_3 5 (by decide) rfl kX3_layLists_22 rfl dX3_layLists_59 247 rfl ?_
      refine x_iload_n C dX3_layLists_62 rfl rfl ?_
      refine x_bipush (v := (6 : Int32)) C dX3_layLists_63 (by decide) ?_
      refine x_imul C dX3_layLists_65 ?_
      refine x_iload C dX3_layLists_66 rfl ?_
      refine x_iadd C dX3_layLists_68 ?_
      obtain ⟨g13, hf⟩ := ck_of hf
      refine x_iald (j := (((a2 * (6 : Int32)) + a5)).toNatClampNeg) C tg_247 tl_247 g13 rfl dX3_layLists_69 ?_
      obtain ⟨r14, M15, e16, hf⟩ := bd_of hf
      refine x_callVv (n := 1) (Cn := RX2) (T := TX2) (N := 9) (As := [.int (M 247 (((a2 * (6 : Int32)) + a5)).toNatClampNeg)]) (rest := []) (maxL := 2) (ret := none) C (c_X2_addWish t4 e16) gX3_layLists_X2_addWish rfl (by decide +kernel) ⟨Nat.le_of_ble_eq_true rfl, Nat.le_of_ble_eq_true rfl⟩ t4 (by decide) rfl rfl rfl rfl (Nat.le_of_ble_eq_true rfl) dX3_layLists_70 ?_
      refine x_iinc (d := (1 : Int32)) (v := (a5 + (1 : Int32))) (lv' := [some (.ref (ad 243)), some (x1), some (.int a2), none, some (.ref (ad a4)), some (.int (a5 + (1 : Int32)))]) C dX3_layLists_73 rfl (by decide) rfl (by decide) rfl ?_
      refine x_goto (tgt := 45) C dX3_layLists_76 (by decide) ?_
      exact x_weak (ih _ _ hf) [0, 1, 2, 4, 5] rfl

set_option maxHeartbeats 4000000 in
set_option maxRecDepth 100000 in
theorem cl_X3_layLists_2 {p : Program} {l : Launch} {e : Env} {s : State} {m : MethodId} {args : Array Value} {below : List Frame} {meth : Method} {c : Code} {D : va_G} {cs : Nat → ClassId} {ad : Nat → Nat} (C : Cx p s m args meth c RX3 cX3_layLists 6 wsX3_layLists D cs ad) (hr : meth.sig.returnType = none) {a1 : Nat} {r : Int32} {M' : Mem} (t1 : tg a1 = 6) : ∀ (n : Nat) (a2 : Int32) (M : Mem), l_X3_layLists_2 a1 n a2 M = some (r, M') → V p l e (rmk 1) s m args below meth c 6 D cs ad (QV below s args D cs ad M') 2 [some (.ref (ad 243)), some (.ref (ad a1)), some (.int a2), none, none, none] [] M := by
  intro n
  induction n with
  | zero => intro a2 M hf; cases hf
  | succ n ih =>
    intro a2 M hf
    rw [l_X3_layLists_2_s] at hf
    refine x_iload_n C dX3_layLists_2 rfl rfl ?_
    refine x_aload_n C dX3_layLists_3 rfl rfl ?_
    refine x_geti (Cn := RX3) (T := TX3) (N := 7) C tg_243 (by decide) rfl nX3_layLists_3 2 (by decide) rfl kX3_layLists_32 rfl dX3_layLists_4 ?_
    refine x_icmp_ge (tgt := 85) C dX3_layLists_7 (by decide) (fun q1 => ?_) (fun q1 => ?_)
    · have hf := ift q1 hf
      exact x_vret C hr hf dX3_layLists_85
    · have hf := iff_ q1 hf
      refine x_aload_n C dX3_layLists_10 rfl rfl ?_
      refine x_getr (Cn := RX3) (T := TX3) (N := 7) C tg_243 (by decide) rfl nX3_layLists_3 3 (by decide) rfl kX3_layLists_15 rfl dX3_layLists_11 245 rfl ?_
      refine x_iload_n C dX3_layLists_14 rfl rfl ?_
      obtain ⟨g2, hf⟩ := ck_of hf
      refine x_iald (j := (a2).toNatClampNeg) C tg_245 tl_245 g2 rfl dX3_layLists_15 ?_
      refine x_istore_n (lv' := [some (.ref (ad 243)), some (.ref (ad a1)), some (.int a2), some (.int (M 245 (a2).toNatClampNeg)), none, none]) C dX3_layLists_16 rfl (by decide) rfl ?_
      refine x_aload_n C dX3_layLists_17 rfl rfl ?_
      refine x_iload_n C dX3_layLists_18 rfl rfl ?_
      obtain ⟨r3, M4, e5, hf⟩ := bd_of hf
      refine x_callV (n := 1) (Cn := RX6) (T := TX6) (N := 8) (As := [.int (M 245 (a2).toNatClampNeg)]) (rest := []) (maxL := 2) (ret := (some .boolean)) C (c_X6_hasHousehold t1 e5) gX3_layLists_X6_hasHousehold rfl (by decide +kernel) ⟨Nat.le_of_ble_eq_true rfl, Nat.le_of_ble_eq_true rfl⟩ t1 (by decide) rfl rfl rfl rfl (Nat.le_of_ble_eq_true rfl) dX3_layLists_19 ?_
      refine x_if_ne (tgt := 28) C dX3_layLists_22 (by decide) (fun q6 => ?_) (fun q6 => ?_)
      · have hf := ift q6 hf
        refine x_goto (tgt := 79) C dX3_layLists_25 (by decide) ?_
        refine x_iinc (d := (1 : Int32)) (v := (a2 + (1 : Int32))) (lv' := [some (.ref (ad 243)), some (.ref (ad a1)), some (.int (a2 + (1 : Int32))), some (.int (M 245 (a2).toNatClampNeg)), none, none]) C dX3_layLists_79 rfl (by decide) rfl (by decide) rfl ?_
        refine x_goto (tgt := 2) C dX3_layLists_82 (by decide) ?_
        exact x_weak (ih _ _ hf) [0, 1, 2] rfl
      · have hf := iff_ q6 hf
        refine x_aload_n C dX3_layLists_28 rfl rfl ?_
        refine x_getr (Cn := RX6) (T := TX6) (N := 8) C t1 (by decide) rfl nX3_layLists_6 1 (by decide) rfl kX3_layLists_58 rfl dX3_layLists_29 (a1 + 2) rfl ?_
        refine x_iload_n C dX3_layLists_32 rfl rfl ?_
        obtain ⟨g7, hf⟩ := ck_of hf
        have w8 : (a1 + 2) + 14 + 2 * ((M 245 (a2).toNatClampNeg)).toNatClampNeg = (a1 + 16 + 2 * ((M 245 (a2).toNatClampNeg)).toNatClampNeg) := by omega
        have u9 : tg (a1 + 16 + 2 * ((M 245 (a2).toNatClampNeg)).toNatClampNeg) = 2 := te_H (x := (M 245 (a2).toNatClampNeg)) (tf_6_1 t1) g7 w8
        refine x_aaldH (j := ((M 245 (a2).toNatClampNeg)).toNatClampNeg) C (tf_6_1 t1) (tl_6_1 t1) g7 rfl dX3_layLists_33 (a1 + 16 + 2 * ((M 245 (a2).toNatClampNeg)).toNatClampNeg) w8 ?_
        refine x_astore (lv' := [some (.ref (ad 243)), some (.ref (ad a1)), some (.int a2), some (.int (M 245 (a2).toNatClampNeg)), some (.ref (ad (a1 + 16 + 2 * ((M 245 (a2).toNatClampNeg)).toNatClampNeg))), none]) C dX3_layLists_34 (by decide) rfl ?_
        refine x_aload C dX3_layLists_36 rfl ?_
        refine x_iconst (v := (0 : Int32)) C dX3_layLists_38 (by decide) ?_
        refine x_puti (ty := .int) (Cn := RX2) (T := TX2) (N := 9) C u9 (by decide) rfl nX3_layLists_2 tyX2 tyX2_ok nmX2 1 (by decide) rfl kX3_layLists_62 rfl rfl (by decide +kernel) rfl rfl dX3_layLists_39 ?_
        refine x_gen hf (fun M10 hf => ?_)
        refine x_iconst (v := (0 : Int32)) C dX3_layLists_42 (by decide) ?_
        refine x_istore (lv' := [some (.ref (ad 243)), some (.ref (ad a1)), some (.int a2), some (.int (M 245 (a2).toNatClampNeg)), some (.ref (ad (a1 + 16 + 2 * ((M 245 (a2).toNatClampNeg)).toNatClampNeg))), some (.int (0 : Int32))]) C dX3_layLists_43 (by decide) rfl ?_
        refine x_weak (cl_X3_layLists_45 C hr u9 (fun M17 hf => ?_) _ _ _ hf) [0, 1, 2, 4, 5] rfl
        refine x_iinc (d := (1 : Int32)) (v := (a2 + (1 : Int32))) (lv' := [some (.ref (ad 243)), some (.ref (ad a1)), some (.int (a2 + (1 : Int32))), none, none, none]) C dX3_layLists_79 rfl (by decide) rfl (by decide) rfl ?_
        refine x_goto (tgt := 2) C dX3_layLists_82 (by decide) ?_
        exact x_weak (ih _ _ hf) [0, 1, 2] rfl

set_option maxHeartbeats 4000000 in
set_option maxRecDepth 100000 in
theorem c_X3_layLists {a1 : Nat} {M : Mem} {r : Int32} {M' : Mem} (t1 : tg a1 = 6) (hf : f_X3_layLists a1 M = some (r, M')) : CnV yX3_layLists wsX3_layLists 1 (fun ad => [.ref (ad 243), .ref (ad a1)]) M M' := by
  unfold f_X3_layLists at hf
  refine x_metV (cc := cX3_layLists) (maxL := 6) RX3 rfl (by decide) rfl (fun ad => Nat.le_of_ble_eq_true rfl) (fun ad v hv => ?_) (fun p l e s m args below meth c D cs ad C hr => ?_)
  · simp only [List.mem_cons, List.not_mem_nil, or_false] at hv
    rcases hv with rfl | rfl <;> rfl
  · show V p l e (rmk 1) s m args below meth c 6 D cs ad (QV below s args D cs ad M') 0 [some (.ref (ad 243)), some (.ref (ad a1)), none, none, none, none] [] M
    refine x_iconst (v := (0 : Int32)) C dX3_layLists_0 (by decide) ?_
    refine x_istore_n (lv' := [some (.ref (ad 243)), some (.ref (ad a1)), some (.int (0 : Int32)), none, none, none]) C dX3_layLists_1 rfl (by decide) rfl ?_
    exact x_weak (cl_X3_layLists_2 C hr t1 _ _ _ hf) [0, 1, 2] rfl

theorem kX3_namesOnlyKnown_15 : Cond.fieldLink RX3 15 "FlatLottery$ListText" "listHousehold" "[I" ∈ wsX3_namesOnlyKnown := List.mem_of_getElem? (i := 2) rfl
theorem kX3_namesOnlyKnown_19 : Cond.fieldLink RX3 19 "FlatLottery$ListText" "listSize" "[I" ∈ wsX3_namesOnlyKnown := List.mem_of_getElem? (i := 3) rfl
theorem kX3_namesOnlyKnown_22 : Cond.fieldLink RX3 22 "FlatLottery$ListText" "listFlats" "[I" ∈ wsX3_namesOnlyKnown := List.mem_of_getElem? (i := 4) rfl
theorem kX3_namesOnlyKnown_32 : Cond.fieldLink RX3 32 "FlatLottery$ListText" "listCount" "I" ∈ wsX3_namesOnlyKnown := List.mem_of_getElem? (i := 1) rfl
theorem nX3_namesOnlyKnown_3 : ∀ w ∈ u_ws RX3 TX3 7, w ∈ wsX3_namesOnlyKnown := in_r [16, 17, 18, 19, 20, 21, 22] (by decide +kernel)
set_option maxHeartbeats 4000000 in
set_option maxRecDepth 100000 in
theorem cl_X3_namesOnlyKnown_27 {p : Program} {l : Launch} {e : Env} {s : State} {m : MethodId} {args : Array Value} {below : List Frame} {meth : Method} {c : Code} {D : va_G} {cs : Nat → ClassId} {ad : Nat → Nat} (C : Cx p s m args meth c RX3 cX3_namesOnlyKnown 4 wsX3_namesOnlyKnown D cs ad) (hr : meth.sig.returnType = some .boolean) {a1 : Nat} {a2 : Int32} {r : Int32} {M' : Mem} (t1 : tg a1 = 6) {k : Mem → Option (Int32 × Mem)} (hk : ∀ (M : Mem), k M = some (r, M') → V p l e (rmk 1) s m args below meth c 4 D cs ad (QI below s args D cs ad r M') 63 [some (.ref (ad 243)), some (.ref (ad a1)), some (.int a2), none] [] M) : ∀ (n : Nat) (a3 : Int32) (M : Mem), l_X3_namesOnlyKnown_27 a1 a2 k n a3 M = some (r, M') → V p l e (rmk 1) s m args below meth c 4 D cs ad (QI below s args D cs ad r M') 27 [some (.ref (ad 243)), some (.ref (ad a1)), some (.int a2), some (.int a3)] [] M := by
  intro n
  induction n with
  | zero => intro a3 M hf; cases hf
  | succ n ih =>
    intro a3 M hf
    rw [l_X3_namesOnlyKnown_27_s] at hf
    refine x_iload_n C dX3_namesOnlyKnown_27 rfl rfl ?_
    refine x_aload_n C dX3_namesOnlyKnown_28 rfl rfl ?_
    refine x_getr (Cn := RX3) (T := TX3) (N := 7) C tg_243 (by decide) rfl nX3_namesOnlyKnown_3 4 (by decide) rfl kX3_namesOnlyKnown_19 rfl dX3_namesOnlyKnown_29 246 rfl ?_
    refine x_iload_n C dX3_namesOnlyKnown_32 rfl rfl ?_
    obtain ⟨g7, hf⟩ := ck_of hf
    refine x_iald (j := (a2).toNatClampNeg) C tg_246 tl_246 g7 rfl dX3_namesOnlyKnown_33 ?_
    refine x_icmp_ge (tgt := 63) C dX3_namesOnlyKnown_34 (by decide) (fun q8 => ?_) (fun q8 => ?_)
    · have hf := ift q8 hf
      exact x_weak (hk _ hf) [0, 1, 2] rfl
    · have hf := iff_ q8 hf
      refine x_aload_n C dX3_namesOnlyKnown_37 rfl rfl ?_
      refine x_aload_n C dX3_namesOnlyKnown_38 rfl rfl ?_
      refine x_getr (Cn := RX3) (T := TX3) (N := 7) C tg_243 (by decide) rfl nX3_namesOnlyKnown_3 5 (by decide) rfl kX3_namesOnlyKnown_22 rfl dX3_namesOnlyKnown_39 247 rfl ?_
      refine x_iload_n C dX3_namesOnlyKnown_42 rfl rfl ?_
      refine x_bipush (v := (6 : Int32)) C dX3_namesOnlyKnown_43 (by decide) ?_
      refine x_imul C dX3_namesOnlyKnown_45 ?_
      refine x_iload_n C dX3_namesOnlyKnown_46 rfl rfl ?_
      refine x_iadd C dX3_namesOnlyKnown_47 ?_
      obtain ⟨g9, hf⟩ := ck_of hf
      refine x_iald (j := (((a2 * (6 : Int32)) + a3)).toNatClampNeg) C tg_247 tl_247 g9 rfl dX3_namesOnlyKnown_48 ?_
      obtain ⟨r10, M11, e12, hf⟩ := bd_of hf
      refine x_callV (n := 1) (Cn := RX6) (T := TX6) (N := 8) (As := [.int (M 247 (((a2 * (6 : Int32)) + a3)).toNatClampNeg)]) (rest := []) (maxL := 2) (ret := (some .boolean)) C (c_X6_hasFlat t1 e12) gX3_namesOnlyKnown_X6_hasFlat rfl (by decide +kernel) ⟨Nat.le_of_ble_eq_true rfl, Nat.le_of_ble_eq_true rfl⟩ t1 (by decide) rfl rfl rfl rfl (Nat.le_of_ble_eq_true rfl) dX3_namesOnlyKnown_49 ?_
      refine x_if_ne (tgt := 57) C dX3_namesOnlyKnown_52 (by decide) (fun q13 => ?_) (fun q13 => ?_)
      · have hf := ift q13 hf
        refine x_iconst (v := (0 : Int32)) C dX3_namesOnlyKnown_55 (by decide) ?_
        exact x_zret C hr rfl hf dX3_namesOnlyKnown_56
      · have hf := iff_ q13 hf
        refine x_iinc (d := (1 : Int32)) (v := (a3 + (1 : Int32))) (lv' := [some (.ref (ad 243)), some (.ref (ad a1)), some (.int a2), some (.int (a3 + (1 : Int32)))]) C dX3_namesOnlyKnown_57 rfl (by decide) rfl (by decide) rfl ?_
        refine x_goto (tgt := 27) C dX3_namesOnlyKnown_60 (by decide) ?_
        exact x_weak (ih _ _ hf) [0, 1, 2, 3] rfl

set_option maxHeartbeats 4000000 in
set_option maxRecDepth 100000 in
theorem cl_X3_namesOnlyKnown_2 {p : Program} {l : Launch} {e : Env} {s : State} {m : MethodId} {args : Array Value} {below : List Frame} {meth : Method} {c : Code} {D : va_G} {cs : Nat → ClassId} {ad : Nat → Nat} (C : Cx p s m args meth c RX3 cX3_namesOnlyKnown 4 wsX3_namesOnlyKnown D cs ad) (hr : meth.sig.returnType = some .boolean) {a1 : Nat} {r : Int32} {M' : Mem} (t1 : tg a1 = 6) : ∀ (n : Nat) (a2 : Int32) (M : Mem), l_X3_namesOnlyKnown_2 a1 n a2 M = some (r, M') → V p l e (rmk 1) s m args below meth c 4 D cs ad (QI below s args D cs ad r M') 2 [some (.ref (ad 243)), some (.ref (ad a1)), some (.int a2), none] [] M := by
  intro n
  induction n with
  | zero => intro a2 M hf; cases hf
  | succ n ih =>
    intro a2 M hf
    rw [l_X3_namesOnlyKnown_2_s] at hf
    refine x_iload_n C dX3_namesOnlyKnown_2 rfl rfl ?_
    refine x_aload_n C dX3_namesOnlyKnown_3 rfl rfl ?_
    refine x_geti (Cn := RX3) (T := TX3) (N := 7) C tg_243 (by decide) rfl nX3_namesOnlyKnown_3 2 (by decide) rfl kX3_namesOnlyKnown_32 rfl dX3_namesOnlyKnown_4 ?_
    refine x_icmp_ge (tgt := 69) C dX3_namesOnlyKnown_7 (by decide) (fun q1 => ?_) (fun q1 => ?_)
    · have hf := ift q1 hf
      refine x_iconst (v := (1 : Int32)) C dX3_namesOnlyKnown_69 (by decide) ?_
      exact x_zret C hr rfl hf dX3_namesOnlyKnown_70
    · have hf := iff_ q1 hf
      refine x_aload_n C dX3_namesOnlyKnown_10 rfl rfl ?_
      refine x_aload_n C dX3_namesOnlyKnown_11 rfl rfl ?_
      refine x_getr (Cn := RX3) (T := TX3) (N := 7) C tg_243 (by decide) rfl nX3_namesOnlyKnown_3 3 (by decide) rfl kX3_namesOnlyKnown_15 rfl dX3_namesOnlyKnown_12 245 rfl ?_
      refine x_iload_n C dX3_namesOnlyKnown_15 rfl rfl ?_
      obtain ⟨g2, hf⟩ := ck_of hf
      refine x_iald (j := (a2).toNatClampNeg) C tg_245 tl_245 g2 rfl dX3_namesOnlyKnown_16 ?_
      obtain ⟨r3, M4, e5, hf⟩ := bd_of hf
      refine x_callV (n := 1) (Cn := RX6) (T := TX6) (N := 8) (As := [.int (M 245 (a2).toNatClampNeg)]) (rest := []) (maxL := 2) (ret := (some .boolean)) C (c_X6_hasHousehold t1 e5) gX3_namesOnlyKnown_X6_hasHousehold rfl (by decide +kernel) ⟨Nat.le_of_ble_eq_true rfl, Nat.le_of_ble_eq_true rfl⟩ t1 (by decide) rfl rfl rfl rfl (Nat.le_of_ble_eq_true rfl) dX3_namesOnlyKnown_17 ?_
      refine x_if_ne (tgt := 25) C dX3_namesOnlyKnown_20 (by decide) (fun q6 => ?_) (fun q6 => ?_)
      · have hf := ift q6 hf
        refine x_iconst (v := (0 : Int32)) C dX3_namesOnlyKnown_23 (by decide) ?_
        exact x_zret C hr rfl hf dX3_namesOnlyKnown_24
      · have hf := iff_ q6 hf
        refine x_iconst (v := (0 : Int32)) C dX3_namesOnlyKnown_25 (by decide) ?_
        refine x_istore_n (lv' := [some (.ref (ad 243)), some (.ref (ad a1)), some (.int a2), some (.int (0 : Int32))]) C dX3_namesOnlyKnown_26 rfl (by decide) rfl ?_
        refine x_weak (cl_X3_namesOnlyKnown_27 C hr t1 (fun M14 hf => ?_) _ _ _ hf) [0, 1, 2, 3] rfl
        refine x_iinc (d := (1 : Int32)) (v := (a2 + (1 : Int32))) (lv' := [some (.ref (ad 243)), some (.ref (ad a1)), some (.int (a2 + (1 : Int32))), none]) C dX3_namesOnlyKnown_63 rfl (by decide) rfl (by decide) rfl ?_
        refine x_goto (tgt := 2) C dX3_namesOnlyKnown_66 (by decide) ?_
        exact x_weak (ih _ _ hf) [0, 1, 2] rfl

set_option maxHeartbeats 4000000 in
set_option maxRecDepth 100000 in
theorem c_X3_namesOnlyKnown {a1 : Nat} {M : Mem} {r : Int32} {M' : Mem} (t1 : tg a1 = 6) (hf : f_X3_namesOnlyKnown a1 M = some (r, M')) : CnI yX3_namesOnlyKnown wsX3_namesOnlyKnown 1 (fun ad => [.ref (ad 243), .ref (ad a1)]) M r M' := by
  unfold f_X3_namesOnlyKnown at hf
  refine x_metI (cc := cX3_namesOnlyKnown) (maxL := 4) RX3 rfl (by decide) rfl (fun ad => Nat.le_of_ble_eq_true rfl) (fun ad v hv => ?_) (fun p l e s m args below meth c D cs ad C hr => ?_)
  · simp only [List.mem_cons, List.not_mem_nil, or_false] at hv
    rcases hv with rfl | rfl <;> rfl
  · show V p l e (rmk 1) s m args below meth c 4 D cs ad (QI below s args D cs ad r M') 0 [some (.ref (ad 243)), some (.ref (ad a1)), none, none] [] M
    refine x_iconst (v := (0 : Int32)) C dX3_namesOnlyKnown_0 (by decide) ?_
    refine x_istore_n (lv' := [some (.ref (ad 243)), some (.ref (ad a1)), some (.int (0 : Int32)), none]) C dX3_namesOnlyKnown_1 rfl (by decide) rfl ?_
    exact x_weak (cl_X3_namesOnlyKnown_2 C hr t1 _ _ _ hf) [0, 1, 2] rfl

theorem kX5_isInRing_21 : Cond.fieldLink RX5 21 "FlatLottery$Rings" "size" "I" ∈ wsX5_isInRing := List.mem_of_getElem? (i := 1) rfl
theorem nX5_isInRing_5 : ∀ w ∈ u_ws RX5 TX5 2, w ∈ wsX5_isInRing := in_r [8, 9] (by decide +kernel)
set_option maxHeartbeats 4000000 in
set_option maxRecDepth 100000 in
theorem cl_X5_isInRing_4 {p : Program} {l : Launch} {e : Env} {s : State} {m : MethodId} {args : Array Value} {below : List Frame} {meth : Method} {c : Code} {D : va_G} {cs : Nat → ClassId} {ad : Nat → Nat} (C : Cx p s m args meth c RX5 cX5_isInRing 4 wsX5_isInRing D cs ad) (hr : meth.sig.returnType = some .boolean) {a1 : Int32} {r : Int32} {M' : Mem}  : ∀ (n : Nat) (a2 : Int32) (a3 : Int32) (M : Mem), l_X5_isInRing_4 a1 n a2 a3 M = some (r, M') → V p l e (rmk 1) s m args below meth c 4 D cs ad (QI below s args D cs ad r M') 4 [some (.ref (ad 248)), some (.int a1), some (.int a2), some (.int a3)] [] M := by
  intro n
  induction n with
  | zero => intro a2 a3 M hf; cases hf
  | succ n ih =>
    intro a2 a3 M hf
    rw [l_X5_isInRing_4_s] at hf
    refine x_iload_n C dX5_isInRing_4 rfl rfl ?_
    refine x_aload_n C dX5_isInRing_5 rfl rfl ?_
    refine x_geti (Cn := RX5) (T := TX5) (N := 2) C tg_248 (by decide) rfl nX5_isInRing_5 1 (by decide) rfl kX5_isInRing_21 rfl dX5_isInRing_6 ?_
    refine x_icmp_ge (tgt := 31) C dX5_isInRing_9 (by decide) (fun q1 => ?_) (fun q1 => ?_)
    · have hf := ift q1 hf
      refine x_iconst (v := (0 : Int32)) C dX5_isInRing_31 (by decide) ?_
      exact x_zret C hr rfl hf dX5_isInRing_32
    · have hf := iff_ q1 hf
      refine x_aload_n C dX5_isInRing_12 rfl rfl ?_
      refine x_iload_n C dX5_isInRing_13 rfl rfl ?_
      obtain ⟨r2, M3, e4, hf⟩ := bd_of hf
      refine x_callV (n := 1) (Cn := RX5) (T := TX5) (N := 2) (As := [.int a2]) (rest := []) (maxL := 2) (ret := (some .int)) C (c_X5_after  e4) gX5_isInRing_X5_after rfl (by decide +kernel) ⟨Nat.le_of_ble_eq_true rfl, Nat.le_of_ble_eq_true rfl⟩ tg_248 (by decide) rfl rfl rfl rfl (Nat.le_of_ble_eq_true rfl) dX5_isInRing_14 ?_
      refine x_istore_n (lv' := [some (.ref (ad 248)), some (.int a1), some (.int r2), some (.int a3)]) C dX5_isInRing_17 rfl (by decide) rfl ?_
      refine x_iload_n C dX5_isInRing_18 rfl rfl ?_
      refine x_iload_n C dX5_isInRing_19 rfl rfl ?_
      refine x_icmp_ne (tgt := 25) C dX5_isInRing_20 (by decide) (fun q5 => ?_) (fun q5 => ?_)
      · have hf := ift q5 hf
        refine x_iconst (v := (1 : Int32)) C dX5_isInRing_23 (by decide) ?_
        exact x_zret C hr rfl hf dX5_isInRing_24
      · have hf := iff_ q5 hf
        refine x_iinc (d := (1 : Int32)) (v := (a3 + (1 : Int32))) (lv' := [some (.ref (ad 248)), some (.int a1), some (.int r2), some (.int (a3 + (1 : Int32)))]) C dX5_isInRing_25 rfl (by decide) rfl (by decide) rfl ?_
        refine x_goto (tgt := 4) C dX5_isInRing_28 (by decide) ?_
        exact x_weak (ih _ _ _ hf) [0, 1, 2, 3] rfl

set_option maxHeartbeats 4000000 in
set_option maxRecDepth 100000 in
theorem c_X5_isInRing {a1 : Int32} {M : Mem} {r : Int32} {M' : Mem}  (hf : f_X5_isInRing a1 M = some (r, M')) : CnI yX5_isInRing wsX5_isInRing 1 (fun ad => [.ref (ad 248), .int a1]) M r M' := by
  unfold f_X5_isInRing at hf
  refine x_metI (cc := cX5_isInRing) (maxL := 4) RX5 rfl (by decide) rfl (fun ad => Nat.le_of_ble_eq_true rfl) (fun ad v hv => ?_) (fun p l e s m args below meth c D cs ad C hr => ?_)
  · simp only [List.mem_cons, List.not_mem_nil, or_false] at hv
    rcases hv with rfl | rfl <;> rfl
  · show V p l e (rmk 1) s m args below meth c 4 D cs ad (QI below s args D cs ad r M') 0 [some (.ref (ad 248)), some (.int a1), none, none] [] M
    refine x_iload_n C dX5_isInRing_0 rfl rfl ?_
    refine x_istore_n (lv' := [some (.ref (ad 248)), some (.int a1), some (.int a1), none]) C dX5_isInRing_1 rfl (by decide) rfl ?_
    refine x_iconst (v := (0 : Int32)) C dX5_isInRing_2 (by decide) ?_
    refine x_istore_n (lv' := [some (.ref (ad 248)), some (.int a1), some (.int a1), some (.int (0 : Int32))]) C dX5_isInRing_3 rfl (by decide) rfl ?_
    exact x_weak (cl_X5_isInRing_4 C hr  _ _ _ _ hf) [0, 1, 2, 3] rfl

theorem kX5_swapRingOf_21 : Cond.fieldLink RX5 21 "FlatLottery$Rings" "size" "I" ∈ wsX5_swapRingOf := List.mem_of_getElem? (i := 3) rfl
theorem kX5_swapRingOf_24 : Cond.fieldLink RX5 24 "FlatLottery$State" "households" "[LFlatLottery$Household;" ∈ wsX5_swapRingOf := List.mem_of_getElem? (i := 1) rfl
theorem kX5_swapRingOf_52 : Cond.fieldLink RX5 52 "FlatLottery$Household" "held" "I" ∈ wsX5_swapRingOf := List.mem_of_getElem? (i := 2) rfl
theorem nX5_swapRingOf_2 : ∀ w ∈ u_ws RX2 TX2 9, w ∈ wsX5_swapRingOf := in_r [18, 19, 20, 21, 22, 23, 24, 25, 26] (by decide +kernel)
theorem nX5_swapRingOf_5 : ∀ w ∈ u_ws RX5 TX5 2, w ∈ wsX5_swapRingOf := in_r [27, 28] (by decide +kernel)
theorem nX5_swapRingOf_6 : ∀ w ∈ u_ws RX6 TX6 8, w ∈ wsX5_swapRingOf := in_r [10, 11, 12, 13, 14, 15, 16, 17] (by decide +kernel)
set_option maxHeartbeats 4000000 in
set_option maxRecDepth 100000 in
theorem cl_X5_swapRingOf_16 {p : Program} {l : Launch} {e : Env} {s : State} {m : MethodId} {args : Array Value} {below : List Frame} {meth : Method} {c : Code} {D : va_G} {cs : Nat → ClassId} {ad : Nat → Nat} (C : Cx p s m args meth c RX5 cX5_swapRingOf 7 wsX5_swapRingOf D cs ad) (hr : meth.sig.returnType = some .int) {a1 : Int32} {a2 : Nat} {a3 : Int32} {r : Int32} {M' : Mem} (t2 : tg a2 = 6) : ∀ (n : Nat) (a4 : Int32) (a5 : Int32) (M : Mem), l_X5_swapRingOf_16 a1 a2 a3 n a4 a5 M = some (r, M') → V p l e (rmk 1) s m args below meth c 7 D cs ad (QI below s args D cs ad r M') 16 [some (.ref (ad 248)), some (.int a1), some (.ref (ad a2)), some (.int a3), some (.int a4), some (.int a5), none] [] M := by
  intro n
  induction n with
  | zero => intro a4 a5 M hf; cases hf
  | succ n ih =>
    intro a4 a5 M hf
    rw [l_X5_swapRingOf_16_s] at hf
    refine x_iload C dX5_swapRingOf_16 rfl ?_
    refine x_aload_n C dX5_swapRingOf_18 rfl rfl ?_
    refine x_geti (Cn := RX5) (T := TX5) (N := 2) C tg_248 (by decide) rfl nX5_swapRingOf_5 1 (by decide) rfl kX5_swapRingOf_21 rfl dX5_swapRingOf_19 ?_
    refine x_icmp_gt (tgt := 90) C dX5_swapRingOf_22 (by decide) (fun q4 => ?_) (fun q4 => ?_)
    · have hf := ift q4 hf
      refine x_aload_n C dX5_swapRingOf_90 rfl rfl ?_
      refine x_geti (Cn := RX5) (T := TX5) (N := 2) C tg_248 (by decide) rfl nX5_swapRingOf_5 1 (by decide) rfl kX5_swapRingOf_21 rfl dX5_swapRingOf_91 ?_
      exact x_iret C hr hf dX5_swapRingOf_94
    · have hf := iff_ q4 hf
      refine x_aload_n C dX5_swapRingOf_25 rfl rfl ?_
      refine x_iload C dX5_swapRingOf_26 rfl ?_
      obtain ⟨r5, M6, e7, hf⟩ := bd_of hf
      refine x_callV (n := 1) (Cn := RX5) (T := TX5) (N := 2) (As := [.int a4]) (rest := []) (maxL := 2) (ret := (some .int)) C (c_X5_after  e7) gX5_swapRingOf_X5_after rfl (by decide +kernel) ⟨Nat.le_of_ble_eq_true rfl, Nat.le_of_ble_eq_true rfl⟩ tg_248 (by decide) rfl rfl rfl rfl (Nat.le_of_ble_eq_true rfl) dX5_swapRingOf_28 ?_
      refine x_istore (lv' := [some (.ref (ad 248)), some (.int a1), some (.ref (ad a2)), some (.int a3), some (.int a4), some (.int a5), some (.int r5)]) C dX5_swapRingOf_31 (by decide) rfl ?_
      refine x_iload C dX5_swapRingOf_33 rfl ?_
      refine x_bipush (v := (-5 : Int32)) C dX5_swapRingOf_35 (by decide) ?_
      refine x_icmp_eq (tgt := 46) C dX5_swapRingOf_37 (by decide) (fun q8 => ?_) (fun q8 => ?_)
      · have hf := ift q8 hf
        refine x_aload_n C dX5_swapRingOf_46 rfl rfl ?_
        refine x_getr (Cn := RX6) (T := TX6) (N := 8) C t2 (by decide) rfl nX5_swapRingOf_6 1 (by decide) rfl kX5_swapRingOf_24 rfl dX5_swapRingOf_47 (a2 + 2) rfl ?_
        refine x_iload C dX5_swapRingOf_50 rfl ?_
        obtain ⟨g9, hf⟩ := ck_of hf
        have w10 : (a2 + 2) + 14 + 2 * (a4).toNatClampNeg = (a2 + 16 + 2 * (a4).toNatClampNeg) := by omega
        have u11 : tg (a2 + 16 + 2 * (a4).toNatClampNeg) = 2 := te_H (x := a4) (tf_6_1 t2) g9 w10
        refine x_aaldH (j := (a4).toNatClampNeg) C (tf_6_1 t2) (tl_6_1 t2) g9 rfl dX5_swapRingOf_52 (a2 + 16 + 2 * (a4).toNatClampNeg) w10 ?_
        refine x_iload_n C dX5_swapRingOf_53 rfl rfl ?_
        refine x_puti (ty := .int) (Cn := RX2) (T := TX2) (N := 9) C u11 (by decide) rfl nX5_swapRingOf_2 tyX2 tyX2_ok nmX2 6 (by decide) rfl kX5_swapRingOf_52 rfl rfl (by decide +kernel) rfl rfl dX5_swapRingOf_54 ?_
        refine x_gen hf (fun M12 hf => ?_)
        refine x_iload C dX5_swapRingOf_57 rfl ?_
        exact x_iret C hr hf dX5_swapRingOf_59
      · have hf := iff_ q8 hf
        refine x_iload C dX5_swapRingOf_40 rfl ?_
        refine x_iload_n C dX5_swapRingOf_42 rfl rfl ?_
        refine x_icmp_ne (tgt := 60) C dX5_swapRingOf_43 (by decide) (fun q13 => ?_) (fun q13 => ?_)
        · have hf := ift q13 hf
          refine x_aload_n C dX5_swapRingOf_46 rfl rfl ?_
          refine x_getr (Cn := RX6) (T := TX6) (N := 8) C t2 (by decide) rfl nX5_swapRingOf_6 1 (by decide) rfl kX5_swapRingOf_24 rfl dX5_swapRingOf_47 (a2 + 2) rfl ?_
          refine x_iload C dX5_swapRingOf_50 rfl ?_
          obtain ⟨g14, hf⟩ := ck_of hf
          have w15 : (a2 + 2) + 14 + 2 * (a4).toNatClampNeg = (a2 + 16 + 2 * (a4).toNatClampNeg) := by omega
          have u16 : tg (a2 + 16 + 2 * (a4).toNatClampNeg) = 2 := te_H (x := a4) (tf_6_1 t2) g14 w15
          refine x_aaldH (j := (a4).toNatClampNeg) C (tf_6_1 t2) (tl_6_1 t2) g14 rfl dX5_swapRingOf_52 (a2 + 16 + 2 * (a4).toNatClampNeg) w15 ?_
          refine x_iload_n C dX5_swapRingOf_53 rfl rfl ?_
          refine x_puti (ty := .int) (Cn := RX2) (T := TX2) (N := 9) C u16 (by decide) rfl nX5_swapRingOf_2 tyX2 tyX2_ok nmX2 6 (by decide) rfl kX5_swapRingOf_52 rfl rfl (by decide +kernel) rfl rfl dX5_swapRingOf_54 ?_
          refine x_gen hf (fun M17 hf => ?_)
          refine x_iload C dX5_swapRingOf_57 rfl ?_
          exact x_iret C hr hf dX5_swapRingOf_59
        · have hf := iff_ q13 hf
          refine x_aload_n C dX5_swapRingOf_60 rfl rfl ?_
          refine x_getr (Cn := RX6) (T := TX6) (N := 8) C t2 (by decide) rfl nX5_swapRingOf_6 1 (by decide) rfl kX5_swapRingOf_24 rfl dX5_swapRingOf_61 (a2 + 2) rfl ?_
          refine x_iload C dX5_swapRingOf_64 rfl ?_
          obtain ⟨g18, hf⟩ := ck_of hf
          have w19 : (a2 + 2) + 14 + 2 * (a4).toNatClampNeg = (a2 + 16 + 2 * (a4).toNatClampNeg) := by omega
          have u20 : tg (a2 + 16 + 2 * (a4).toNatClampNeg) = 2 := te_H (x := a4) (tf_6_1 t2) g18 w19
          refine x_aaldH (j := (a4).toNatClampNeg) C (tf_6_1 t2) (tl_6_1 t2) g18 rfl dX5_swapRingOf_66 (a2 + 16 + 2 * (a4).toNatClampNeg) w19 ?_
          refine x_aload_n C dX5_swapRingOf_67 rfl rfl ?_
          refine x_getr (Cn := RX6) (T := TX6) (N := 8) C t2 (by decide) rfl nX5_swapRingOf_6 1 (by decide) rfl kX5_swapRingOf_24 rfl dX5_swapRingOf_68 (a2 + 2) rfl ?_
          refine x_iload C dX5_swapRingOf_71 rfl ?_
          obtain ⟨g21, hf⟩ := ck_of hf
          have w22 : (a2 + 2) + 14 + 2 * (r5).toNatClampNeg = (a2 + 16 + 2 * (r5).toNatClampNeg) := by omega
          have u23 : tg (a2 + 16 + 2 * (r5).toNatClampNeg) = 2 := te_H (x := r5) (tf_6_1 t2) g21 w22
          refine x_aaldH (j := (r5).toNatClampNeg) C (tf_6_1 t2) (tl_6_1 t2) g21 rfl dX5_swapRingOf_73 (a2 + 16 + 2 * (r5).toNatClampNeg) w22 ?_
          refine x_geti (Cn := RX2) (T := TX2) (N := 9) C u23 (by decide) rfl nX5_swapRingOf_2 6 (by decide) rfl kX5_swapRingOf_52 rfl dX5_swapRingOf_74 ?_
          refine x_puti (ty := .int) (Cn := RX2) (T := TX2) (N := 9) C u20 (by decide) rfl nX5_swapRingOf_2 tyX2 tyX2_ok nmX2 6 (by decide) rfl kX5_swapRingOf_52 rfl rfl (by decide +kernel) rfl rfl dX5_swapRingOf_77 ?_
          refine x_gen hf (fun M24 hf => ?_)
          refine x_iload C dX5_swapRingOf_80 rfl ?_
          refine x_istore (lv' := [some (.ref (ad 248)), some (.int a1), some (.ref (ad a2)), some (.int a3), some (.int r5), some (.int a5), some (.int r5)]) C dX5_swapRingOf_82 (by decide) rfl ?_
          refine x_iinc (d := (1 : Int32)) (v := (a5 + (1 : Int32))) (lv' := [some (.ref (ad 248)), some (.int a1), some (.ref (ad a2)), some (.int a3), some (.int r5), some (.int (a5 + (1 : Int32))), some (.int r5)]) C dX5_swapRingOf_84 rfl (by decide) rfl (by decide) rfl ?_
          refine x_goto (tgt := 16) C dX5_swapRingOf_87 (by decide) ?_
          exact x_weak (ih _ _ _ hf) [0, 1, 2, 3, 4, 5] rfl

set_option maxHeartbeats 4000000 in
set_option maxRecDepth 100000 in
theorem c_X5_swapRingOf {a1 : Int32} {a2 : Nat} {M : Mem} {r : Int32} {M' : Mem} (t2 : tg a2 = 6) (hf : f_X5_swapRingOf a1 a2 M = some (r, M')) : CnI yX5_swapRingOf wsX5_swapRingOf 1 (fun ad => [.ref (ad 248), .int a1, .ref (ad a2)]) M r M' := by
  unfold f_X5_swapRingOf at hf
  refine x_metI (cc := cX5_swapRingOf) (maxL := 7) RX5 rfl (by decide) rfl (fun ad => Nat.le_of_ble_eq_true rfl) (fun ad v hv => ?_) (fun p l e s m args below meth c D cs ad C hr => ?_)
  · simp only [List.mem_cons, List.not_mem_nil, or_false] at hv
    rcases hv with rfl | rfl | rfl <;> rfl
  · show V p l e (rmk 1) s m args below meth c 7 D cs ad (QI below s args D cs ad r M') 0 [some (.ref (ad 248)), some (.int a1), some (.ref (ad a2)), none, none, none, none] [] M
    refine x_aload_n C dX5_swapRingOf_0 rfl rfl ?_
    refine x_getr (Cn := RX6) (T := TX6) (N := 8) C t2 (by decide) rfl nX5_swapRingOf_6 1 (by decide) rfl kX5_swapRingOf_24 rfl dX5_swapRingOf_1 (a2 + 2) rfl ?_
    refine x_iload_n C dX5_swapRingOf_4 rfl rfl ?_
    obtain ⟨g1, hf⟩ := ck_of hf
    have w2 : (a2 + 2) + 14 + 2 * (a1).toNatClampNeg = (a2 + 16 + 2 * (a1).toNatClampNeg) := by omega
    have u3 : tg (a2 + 16 + 2 * (a1).toNatClampNeg) = 2 := te_H (x := a1) (tf_6_1 t2) g1 w2
    refine x_aaldH (j := (a1).toNatClampNeg) C (tf_6_1 t2) (tl_6_1 t2) g1 rfl dX5_swapRingOf_5 (a2 + 16 + 2 * (a1).toNatClampNeg) w2 ?_
    refine x_geti (Cn := RX2) (T := TX2) (N := 9) C u3 (by decide) rfl nX5_swapRingOf_2 6 (by decide) rfl kX5_swapRingOf_52 rfl dX5_swapRingOf_6 ?_
    refine x_istore_n (lv' := [some (.ref (ad 248)), some (.int a1), some (.ref (ad a2)), some (.int (M (a2 + 16 + 2 * (a1).toNatClampNeg) 6)), none, none, none]) C dX5_swapRingOf_9 rfl (by decide) rfl ?_
    refine x_iload_n C dX5_swapRingOf_10 rfl rfl ?_
    refine x_istore (lv' := [some (.ref (ad 248)), some (.int a1), some (.ref (ad a2)), some (.int (M (a2 + 16 + 2 * (a1).toNatClampNeg) 6)), some (.int a1), none, none]) C dX5_swapRingOf_11 (by decide) rfl ?_
    refine x_iconst (v := (1 : Int32)) C dX5_swapRingOf_13 (by decide) ?_
    refine x_istore (lv' := [some (.ref (ad 248)), some (.int a1), some (.ref (ad a2)), some (.int (M (a2 + 16 + 2 * (a1).toNatClampNeg) 6)), some (.int a1), some (.int (1 : Int32)), none]) C dX5_swapRingOf_14 (by decide) rfl ?_
    exact x_weak (cl_X5_swapRingOf_16 C hr t2 _ _ _ _ hf) [0, 1, 2, 3, 4, 5] rfl

theorem kX6_copyFrom_11 : Cond.fieldLink RX6 11 "FlatLottery$State" "flats" "[LFlatLottery$Flat;" ∈ wsX6_copyFrom := List.mem_of_getElem? (i := 2) rfl
theorem kX6_copyFrom_19 : Cond.fieldLink RX6 19 "FlatLottery$State" "households" "[LFlatLottery$Household;" ∈ wsX6_copyFrom := List.mem_of_getElem? (i := 4) rfl
theorem kX6_copyFrom_29 : Cond.fieldLink RX6 29 "FlatLottery$State" "flatCount" "I" ∈ wsX6_copyFrom := List.mem_of_getElem? (i := 1) rfl
theorem kX6_copyFrom_37 : Cond.fieldLink RX6 37 "FlatLottery$State" "householdCount" "I" ∈ wsX6_copyFrom := List.mem_of_getElem? (i := 3) rfl
theorem kX6_copyFrom_43 : Cond.fieldLink RX6 43 "FlatLottery$State" "rounds" "I" ∈ wsX6_copyFrom := List.mem_of_getElem? (i := 5) rfl
theorem kX6_copyFrom_46 : Cond.fieldLink RX6 46 "FlatLottery$State" "refused" "I" ∈ wsX6_copyFrom := List.mem_of_getElem? (i := 6) rfl
theorem kX6_copyFrom_49 : Cond.fieldLink RX6 49 "FlatLottery$State" "declined" "I" ∈ wsX6_copyFrom := List.mem_of_getElem? (i := 7) rfl
theorem nX6_copyFrom_6 : ∀ w ∈ u_ws RX6 TX6 8, w ∈ wsX6_copyFrom := in_r [29, 30, 31, 32, 33, 34, 35, 36] (by decide +kernel)
set_option maxHeartbeats 4000000 in
set_option maxRecDepth 100000 in
theorem cl_X6_copyFrom_10 {p : Program} {l : Launch} {e : Env} {s : State} {m : MethodId} {args : Array Value} {below : List Frame} {meth : Method} {c : Code} {D : va_G} {cs : Nat → ClassId} {ad : Nat → Nat} (C : Cx p s m args meth c RX6 cX6_copyFrom 3 wsX6_copyFrom D cs ad) (hr : meth.sig.returnType = none) {a0 : Nat} {a1 : Nat} {r : Int32} {M' : Mem} (t0 : tg a0 = 6) (t1 : tg a1 = 6) {k : Mem → Option (Int32 × Mem)} (hk : ∀ (M : Mem), k M = some (r, M') → V p l e (rmk 1) s m args below meth c 3 D cs ad (QV below s args D cs ad M') 39 [some (.ref (ad a0)), some (.ref (ad a1)), none] [] M) : ∀ (n : Nat) (a2 : Int32) (M : Mem), l_X6_copyFrom_10 a0 a1 k n a2 M = some (r, M') → V p l e (rmk 1) s m args below meth c 3 D cs ad (QV below s args D cs ad M') 10 [some (.ref (ad a0)), some (.ref (ad a1)), some (.int a2)] [] M := by
  intro n
  induction n with
  | zero => intro a2 M hf; cases hf
  | succ n ih =>
    intro a2 M hf
    rw [l_X6_copyFrom_10_s] at hf
    refine x_iload_n C dX6_copyFrom_10 rfl rfl ?_
    refine x_aload_n C dX6_copyFrom_11 rfl rfl ?_
    refine x_geti (Cn := RX6) (T := TX6) (N := 8) C t0 (by decide) rfl nX6_copyFrom_6 2 (by decide) rfl kX6_copyFrom_29 rfl dX6_copyFrom_12 ?_
    refine x_icmp_ge (tgt := 39) C dX6_copyFrom_15 (by decide) (fun q2 => ?_) (fun q2 => ?_)
    · have hf := ift q2 hf
      exact x_weak (hk _ hf) [0, 1] rfl
    · have hf := iff_ q2 hf
      refine x_aload_n C dX6_copyFrom_18 rfl rfl ?_
      refine x_getr (Cn := RX6) (T := TX6) (N := 8) C t0 (by decide) rfl nX6_copyFrom_6 0 (by decide) rfl kX6_copyFrom_11 rfl dX6_copyFrom_19 (a0 + 1) rfl ?_
      refine x_iload_n C dX6_copyFrom_22 rfl rfl ?_
      obtain ⟨g3, hf⟩ := ck_of hf
      have w4 : (a0 + 1) + 3 + (a2).toNatClampNeg = (a0 + 4 + (a2).toNatClampNeg) := by omega
      have u5 : tg (a0 + 4 + (a2).toNatClampNeg) = 0 := te_F (x := a2) (tf_6_0 t0) g3 w4
      refine x_aaldF (j := (a2).toNatClampNeg) C (tf_6_0 t0) (tl_6_0 t0) g3 rfl dX6_copyFrom_23 (a0 + 4 + (a2).toNatClampNeg) w4 ?_
      refine x_aload_n C dX6_copyFrom_24 rfl rfl ?_
      refine x_getr (Cn := RX6) (T := TX6) (N := 8) C t1 (by decide) rfl nX6_copyFrom_6 0 (by decide) rfl kX6_copyFrom_11 rfl dX6_copyFrom_25 (a1 + 1) rfl ?_
      refine x_iload_n C dX6_copyFrom_28 rfl rfl ?_
      obtain ⟨g6, hf⟩ := ck_of hf
      have w7 : (a1 + 1) + 3 + (a2).toNatClampNeg = (a1 + 4 + (a2).toNatClampNeg) := by omega
      have u8 : tg (a1 + 4 + (a2).toNatClampNeg) = 0 := te_F (x := a2) (tf_6_0 t1) g6 w7
      refine x_aaldF (j := (a2).toNatClampNeg) C (tf_6_0 t1) (tl_6_0 t1) g6 rfl dX6_copyFrom_29 (a1 + 4 + (a2).toNatClampNeg) w7 ?_
      obtain ⟨r9, M10, e11, hf⟩ := bd_of hf
      refine x_callVv (n := 1) (Cn := RX0) (T := TX0) (N := 2) (As := [.ref (ad (a1 + 4 + (a2).toNatClampNeg))]) (rest := []) (maxL := 2) (ret := none) C (c_X0_copyFrom u5 u8 e11) gX6_copyFrom_X0_copyFrom rfl (by decide +kernel) ⟨Nat.le_of_ble_eq_true rfl, Nat.le_of_ble_eq_true rfl⟩ u5 (by decide) rfl rfl rfl rfl (Nat.le_of_ble_eq_true rfl) dX6_copyFrom_30 ?_
      refine x_iinc (d := (1 : Int32)) (v := (a2 + (1 : Int32))) (lv' := [some (.ref (ad a0)), some (.ref (ad a1)), some (.int (a2 + (1 : Int32)))]) C dX6_copyFrom_33 rfl (by decide) rfl (by decide) rfl ?_
      refine x_goto (tgt := 10) C dX6_copyFrom_36 (by decide) ?_
      exact x_weak (ih _ _ hf) [0, 1, 2] rfl

set_option maxHeartbeats 4000000 in
set_option maxRecDepth 100000 in
theorem cl_X6_copyFrom_49 {p : Program} {l : Launch} {e : Env} {s : State} {m : MethodId} {args : Array Value} {below : List Frame} {meth : Method} {c : Code} {D : va_G} {cs : Nat → ClassId} {ad : Nat → Nat} (C : Cx p s m args meth c RX6 cX6_copyFrom 3 wsX6_copyFrom D cs ad) (hr : meth.sig.returnType = none) {a0 : Nat} {a1 : Nat} {r : Int32} {M' : Mem} (t0 : tg a0 = 6) (t1 : tg a1 = 6) : ∀ (n : Nat) (a2 : Int32) (M : Mem), l_X6_copyFrom_49 a0 a1 n a2 M = some (r, M') → V p l e (rmk 1) s m args below meth c 3 D cs ad (QV below s args D cs ad M') 49 [some (.ref (ad a0)), some (.ref (ad a1)), some (.int a2)] [] M := by
  intro n
  induction n with
  | zero => intro a2 M hf; cases hf
  | succ n ih =>
    intro a2 M hf
    rw [l_X6_copyFrom_49_s] at hf
    refine x_iload_n C dX6_copyFrom_49 rfl rfl ?_
    refine x_aload_n C dX6_copyFrom_50 rfl rfl ?_
    refine x_geti (Cn := RX6) (T := TX6) (N := 8) C t0 (by decide) rfl nX6_copyFrom_6 3 (by decide) rfl kX6_copyFrom_37 rfl dX6_copyFrom_51 ?_
    refine x_icmp_ge (tgt := 78) C dX6_copyFrom_54 (by decide) (fun q14 => ?_) (fun q14 => ?_)
    · have hf := ift q14 hf
      refine x_aload_n C dX6_copyFrom_78 rfl rfl ?_
      refine x_aload_n C dX6_copyFrom_79 rfl rfl ?_
      refine x_geti (Cn := RX6) (T := TX6) (N := 8) C t1 (by decide) rfl nX6_copyFrom_6 4 (by decide) rfl kX6_copyFrom_43 rfl dX6_copyFrom_80 ?_
      refine x_puti (ty := .int) (Cn := RX6) (T := TX6) (N := 8) C t0 (by decide) rfl nX6_copyFrom_6 tyX6 tyX6_ok nmX6 4 (by decide) rfl kX6_copyFrom_43 rfl rfl (by decide +kernel) rfl rfl dX6_copyFrom_83 ?_
      refine x_gen hf (fun M15 hf => ?_)
      refine x_aload_n C dX6_copyFrom_86 rfl rfl ?_
      refine x_aload_n C dX6_copyFrom_87 rfl rfl ?_
      refine x_geti (Cn := RX6) (T := TX6) (N := 8) C t1 (by decide) rfl nX6_copyFrom_6 5 (by decide) rfl kX6_copyFrom_46 rfl dX6_copyFrom_88 ?_
      refine x_puti (ty := .int) (Cn := RX6) (T := TX6) (N := 8) C t0 (by decide) rfl nX6_copyFrom_6 tyX6 tyX6_ok nmX6 5 (by decide) rfl kX6_copyFrom_46 rfl rfl (by decide +kernel) rfl rfl dX6_copyFrom_91 ?_
      refine x_gen hf (fun M16 hf => ?_)
      refine x_aload_n C dX6_copyFrom_94 rfl rfl ?_
      refine x_aload_n C dX6_copyFrom_95 rfl rfl ?_
      refine x_geti (Cn := RX6) (T := TX6) (N := 8) C t1 (by decide) rfl nX6_copyFrom_6 6 (by decide) rfl kX6_copyFrom_49 rfl dX6_copyFrom_96 ?_
      refine x_puti (ty := .int) (Cn := RX6) (T := TX6) (N := 8) C t0 (by decide) rfl nX6_copyFrom_6 tyX6 tyX6_ok nmX6 6 (by decide) rfl kX6_copyFrom_49 rfl rfl (by decide +kernel) rfl rfl dX6_copyFrom_99 ?_
      refine x_gen hf (fun M17 hf => ?_)
      exact x_vret C hr hf dX6_copyFrom_102
    · have hf := iff_ q14 hf
      refine x_aload_n C dX6_copyFrom_57 rfl rfl ?_
      refine x_getr (Cn := RX6) (T := TX6) (N := 8) C t0 (by decide) rfl nX6_copyFrom_6 1 (by decide) rfl kX6_copyFrom_19 rfl dX6_copyFrom_58 (a0 + 2) rfl ?_
      refine x_iload_n C dX6_copyFrom_61 rfl rfl ?_
      obtain ⟨g18, hf⟩ := ck_of hf
      have w19 : (a0 + 2) + 14 + 2 * (a2).toNatClampNeg = (a0 + 16 + 2 * (a2).toNatClampNeg) := by omega
      have u20 : tg (a0 + 16 + 2 * (a2).toNatClampNeg) = 2 := te_H (x := a2) (tf_6_1 t0) g18 w19
      refine x_aaldH (j := (a2).toNatClampNeg) C (tf_6_1 t0) (tl_6_1 t0) g18 rfl dX6_copyFrom_62 (a0 + 16 + 2 * (a2).toNatClampNeg) w19 ?_
      refine x_aload_n C dX6_copyFrom_63 rfl rfl ?_
      refine x_getr (Cn := RX6) (T := TX6) (N := 8) C t1 (by decide) rfl nX6_copyFrom_6 1 (by decide) rfl kX6_copyFrom_19 rfl dX6_copyFrom_64 (a1 + 2) rfl ?_
      refine x_iload_n C dX6_copyFrom_67 rfl rfl ?_
      obtain ⟨g21, hf⟩ := ck_of hf
      have w22 : (a1 + 2) + 14 + 2 * (a2).toNatClampNeg = (a1 + 16 + 2 * (a2).toNatClampNeg) := by omega
      have u23 : tg (a1 + 16 + 2 * (a2).toNatClampNeg) = 2 := te_H (x := a2) (tf_6_1 t1) g21 w22
      refine x_aaldH (j := (a2).toNatClampNeg) C (tf_6_1 t1) (tl_6_1 t1) g21 rfl dX6_copyFrom_68 (a1 + 16 + 2 * (a2).toNatClampNeg) w22 ?_
      obtain ⟨r24, M25, e26, hf⟩ := bd_of hf
      refine x_callVv (n := 1) (Cn := RX2) (T := TX2) (N := 9) (As := [.ref (ad (a1 + 16 + 2 * (a2).toNatClampNeg))]) (rest := []) (maxL := 3) (ret := none) C (c_X2_copyFrom u20 u23 e26) gX6_copyFrom_X2_copyFrom rfl (by decide +kernel) ⟨Nat.le_of_ble_eq_true rfl, Nat.le_of_ble_eq_true rfl⟩ u20 (by decide) rfl rfl rfl rfl (Nat.le_of_ble_eq_true rfl) dX6_copyFrom_69 ?_
      refine x_iinc (d := (1 : Int32)) (v := (a2 + (1 : Int32))) (lv' := [some (.ref (ad a0)), some (.ref (ad a1)), some (.int (a2 + (1 : Int32)))]) C dX6_copyFrom_72 rfl (by decide) rfl (by decide) rfl ?_
      refine x_goto (tgt := 49) C dX6_copyFrom_75 (by decide) ?_
      exact x_weak (ih _ _ hf) [0, 1, 2] rfl

set_option maxHeartbeats 4000000 in
set_option maxRecDepth 100000 in
theorem c_X6_copyFrom {a0 : Nat} {a1 : Nat} {M : Mem} {r : Int32} {M' : Mem} (t0 : tg a0 = 6) (t1 : tg a1 = 6) (hf : f_X6_copyFrom a0 a1 M = some (r, M')) : CnV yX6_copyFrom wsX6_copyFrom 1 (fun ad => [.ref (ad a0), .ref (ad a1)]) M M' := by
  unfold f_X6_copyFrom at hf
  refine x_metV (cc := cX6_copyFrom) (maxL := 3) RX6 rfl (by decide) rfl (fun ad => Nat.le_of_ble_eq_true rfl) (fun ad v hv => ?_) (fun p l e s m args below meth c D cs ad C hr => ?_)
  · simp only [List.mem_cons, List.not_mem_nil, or_false] at hv
    rcases hv with rfl | rfl <;> rfl
  · show V p l e (rmk 1) s m args below meth c 3 D cs ad (QV below s args D cs ad M') 0 [some (.ref (ad a0)), some (.ref (ad a1)), none] [] M
    refine x_aload_n C dX6_copyFrom_0 rfl rfl ?_
    refine x_aload_n C dX6_copyFrom_1 rfl rfl ?_
    refine x_geti (Cn := RX6) (T := TX6) (N := 8) C t1 (by decide) rfl nX6_copyFrom_6 2 (by decide) rfl kX6_copyFrom_29 rfl dX6_copyFrom_2 ?_
    refine x_puti (ty := .int) (Cn := RX6) (T := TX6) (N := 8) C t0 (by decide) rfl nX6_copyFrom_6 tyX6 tyX6_ok nmX6 2 (by decide) rfl kX6_copyFrom_29 rfl rfl (by decide +kernel) rfl rfl dX6_copyFrom_5 ?_
    refine x_gen hf (fun M1 hf => ?_)
    refine x_iconst (v := (0 : Int32)) C dX6_copyFrom_8 (by decide) ?_
    refine x_istore_n (lv' := [some (.ref (ad a0)), some (.ref (ad a1)), some (.int (0 : Int32))]) C dX6_copyFrom_9 rfl (by decide) rfl ?_
    refine x_weak (cl_X6_copyFrom_10 C hr t0 t1 (fun M12 hf => ?_) _ _ _ hf) [0, 1, 2] rfl
    refine x_aload_n C dX6_copyFrom_39 rfl rfl ?_
    refine x_aload_n C dX6_copyFrom_40 rfl rfl ?_
    refine x_geti (Cn := RX6) (T := TX6) (N := 8) C t1 (by decide) rfl nX6_copyFrom_6 3 (by decide) rfl kX6_copyFrom_37 rfl dX6_copyFrom_41 ?_
    refine x_puti (ty := .int) (Cn := RX6) (T := TX6) (N := 8) C t0 (by decide) rfl nX6_copyFrom_6 tyX6 tyX6_ok nmX6 3 (by decide) rfl kX6_copyFrom_37 rfl rfl (by decide +kernel) rfl rfl dX6_copyFrom_44 ?_
    refine x_gen hf (fun M13 hf => ?_)
    refine x_iconst (v := (0 : Int32)) C dX6_copyFrom_47 (by decide) ?_
    refine x_istore_n (lv' := [some (.ref (ad a0)), some (.ref (ad a1)), some (.int (0 : Int32))]) C dX6_copyFrom_48 rfl (by decide) rfl ?_
    exact x_weak (cl_X6_copyFrom_49 C hr t0 t1 _ _ _ hf) [0, 1, 2] rfl

theorem kX6_isCrowded_11 : Cond.fieldLink RX6 11 "FlatLottery$State" "flats" "[LFlatLottery$Flat;" ∈ wsX6_isCrowded := List.mem_of_getElem? (i := 3) rfl
theorem kX6_isCrowded_52 : Cond.fieldLink RX6 52 "FlatLottery$Household" "held" "I" ∈ wsX6_isCrowded := List.mem_of_getElem? (i := 1) rfl
theorem kX6_isCrowded_114 : Cond.fieldLink RX6 114 "FlatLottery$Household" "members" "I" ∈ wsX6_isCrowded := List.mem_of_getElem? (i := 2) rfl
theorem kX6_isCrowded_117 : Cond.fieldLink RX6 117 "FlatLottery$Flat" "rooms" "I" ∈ wsX6_isCrowded := List.mem_of_getElem? (i := 4) rfl
theorem nX6_isCrowded_0 : ∀ w ∈ u_ws RX0 TX0 2, w ∈ wsX6_isCrowded := in_r [28, 29] (by decide +kernel)
theorem nX6_isCrowded_2 : ∀ w ∈ u_ws RX2 TX2 9, w ∈ wsX6_isCrowded := in_r [11, 12, 13, 14, 15, 16, 17, 18, 19] (by decide +kernel)
theorem nX6_isCrowded_6 : ∀ w ∈ u_ws RX6 TX6 8, w ∈ wsX6_isCrowded := in_r [20, 21, 22, 23, 24, 25, 26, 27] (by decide +kernel)
set_option maxHeartbeats 4000000 in
set_option maxRecDepth 100000 in
theorem c_X6_isCrowded {a0 : Nat} {a1 : Nat} {M : Mem} {r : Int32} {M' : Mem} (t0 : tg a0 = 6) (t1 : tg a1 = 2) (hf : f_X6_isCrowded a0 a1 M = some (r, M')) : CnI yX6_isCrowded wsX6_isCrowded 1 (fun ad => [.ref (ad a0), .ref (ad a1)]) M r M' := by
  unfold f_X6_isCrowded at hf
  refine x_metI (cc := cX6_isCrowded) (maxL := 2) RX6 rfl (by decide) rfl (fun ad => Nat.le_of_ble_eq_true rfl) (fun ad v hv => ?_) (fun p l e s m args below meth c D cs ad C hr => ?_)
  · simp only [List.mem_cons, List.not_mem_nil, or_false] at hv
    rcases hv with rfl | rfl <;> rfl
  · show V p l e (rmk 1) s m args below meth c 2 D cs ad (QI below s args D cs ad r M') 0 [some (.ref (ad a0)), some (.ref (ad a1))] [] M
    refine x_aload_n C dX6_isCrowded_0 rfl rfl ?_
    refine x_aload_n C dX6_isCrowded_1 rfl rfl ?_
    refine x_geti (Cn := RX2) (T := TX2) (N := 9) C t1 (by decide) rfl nX6_isCrowded_2 6 (by decide) rfl kX6_isCrowded_52 rfl dX6_isCrowded_2 ?_
    obtain ⟨r1, M2, e3, hf⟩ := bd_of hf
    refine x_callV (n := 1) (Cn := RX6) (T := TX6) (N := 8) (As := [.int (M a1 6)]) (rest := []) (maxL := 2) (ret := (some .boolean)) C (c_X6_hasFlat t0 e3) gX6_isCrowded_X6_hasFlat rfl (by decide +kernel) ⟨Nat.le_of_ble_eq_true rfl, Nat.le_of_ble_eq_true rfl⟩ t0 (by decide) rfl rfl rfl rfl (Nat.le_of_ble_eq_true rfl) dX6_isCrowded_5 ?_
    refine x_if_eq (tgt := 36) C dX6_isCrowded_8 (by decide) (fun q4 => ?_) (fun q4 => ?_)
    · have hf := ift q4 hf
      refine x_iconst (v := (0 : Int32)) C dX6_isCrowded_36 (by decide) ?_
      exact x_zret C hr rfl hf dX6_isCrowded_37
    · have hf := iff_ q4 hf
      refine x_aload_n C dX6_isCrowded_11 rfl rfl ?_
      refine x_geti (Cn := RX2) (T := TX2) (N := 9) C t1 (by decide) rfl nX6_isCrowded_2 2 (by decide) rfl kX6_isCrowded_114 rfl dX6_isCrowded_12 ?_
      refine x_aload_n C dX6_isCrowded_15 rfl rfl ?_
      refine x_getr (Cn := RX6) (T := TX6) (N := 8) C t0 (by decide) rfl nX6_isCrowded_6 0 (by decide) rfl kX6_isCrowded_11 rfl dX6_isCrowded_16 (a0 + 1) rfl ?_
      refine x_aload_n C dX6_isCrowded_19 rfl rfl ?_
      refine x_geti (Cn := RX2) (T := TX2) (N := 9) C t1 (by decide) rfl nX6_isCrowded_2 6 (by decide) rfl kX6_isCrowded_52 rfl dX6_isCrowded_20 ?_
      obtain ⟨g5, hf⟩ := ck_of hf
      have w6 : (a0 + 1) + 3 + ((M2 a1 6)).toNatClampNeg = (a0 + 4 + ((M2 a1 6)).toNatClampNeg) := by omega
      have u7 : tg (a0 + 4 + ((M2 a1 6)).toNatClampNeg) = 0 := te_F (x := (M2 a1 6)) (tf_6_0 t0) g5 w6
      refine x_aaldF (j := ((M2 a1 6)).toNatClampNeg) C (tf_6_0 t0) (tl_6_0 t0) g5 rfl dX6_isCrowded_23 (a0 + 4 + ((M2 a1 6)).toNatClampNeg) w6 ?_
      refine x_geti (Cn := RX0) (T := TX0) (N := 2) C u7 (by decide) rfl nX6_isCrowded_0 0 (by decide) rfl kX6_isCrowded_117 rfl dX6_isCrowded_24 ?_
      refine x_iconst (v := (1 : Int32)) C dX6_isCrowded_27 (by decide) ?_
      refine x_iadd C dX6_isCrowded_28 ?_
      refine x_icmp_le (tgt := 36) C dX6_isCrowded_29 (by decide) (fun q8 => ?_) (fun q8 => ?_)
      · have hf := ift q8 hf
        refine x_iconst (v := (0 : Int32)) C dX6_isCrowded_36 (by decide) ?_
        exact x_zret C hr rfl hf dX6_isCrowded_37
      · have hf := iff_ q8 hf
        refine x_iconst (v := (1 : Int32)) C dX6_isCrowded_32 (by decide) ?_
        refine x_goto (tgt := 37) C dX6_isCrowded_33 (by decide) ?_
        exact x_zret C hr rfl hf dX6_isCrowded_37

theorem kX6_isEligible_11 : Cond.fieldLink RX6 11 "FlatLottery$State" "flats" "[LFlatLottery$Flat;" ∈ wsX6_isEligible := List.mem_of_getElem? (i := 1) rfl
theorem nX6_isEligible_6 : ∀ w ∈ u_ws RX6 TX6 8, w ∈ wsX6_isEligible := in_r [17, 18, 19, 20, 21, 22, 23, 24] (by decide +kernel)
set_option maxHeartbeats 4000000 in
set_option maxRecDepth 100000 in
theorem c_X6_isEligible {a0 : Nat} {a1 : Nat} {a2 : Int32} {M : Mem} {r : Int32} {M' : Mem} (t0 : tg a0 = 6) (t1 : tg a1 = 2) (hf : f_X6_isEligible a0 a1 a2 M = some (r, M')) : CnI yX6_isEligible wsX6_isEligible 1 (fun ad => [.ref (ad a0), .ref (ad a1), .int a2]) M r M' := by
  unfold f_X6_isEligible at hf
  refine x_metI (cc := cX6_isEligible) (maxL := 3) RX6 rfl (by decide) rfl (fun ad => Nat.le_of_ble_eq_true rfl) (fun ad v hv => ?_) (fun p l e s m args below meth c D cs ad C hr => ?_)
  · simp only [List.mem_cons, List.not_mem_nil, or_false] at hv
    rcases hv with rfl | rfl | rfl <;> rfl
  · show V p l e (rmk 1) s m args below meth c 3 D cs ad (QI below s args D cs ad r M') 0 [some (.ref (ad a0)), some (.ref (ad a1)), some (.int a2)] [] M
    refine x_aload_n C dX6_isEligible_0 rfl rfl ?_
    refine x_iload_n C dX6_isEligible_1 rfl rfl ?_
    obtain ⟨r1, M2, e3, hf⟩ := bd_of hf
    refine x_callV (n := 1) (Cn := RX6) (T := TX6) (N := 8) (As := [.int a2]) (rest := []) (maxL := 2) (ret := (some .boolean)) C (c_X6_hasFlat t0 e3) gX6_isEligible_X6_hasFlat rfl (by decide +kernel) ⟨Nat.le_of_ble_eq_true rfl, Nat.le_of_ble_eq_true rfl⟩ t0 (by decide) rfl rfl rfl rfl (Nat.le_of_ble_eq_true rfl) dX6_isEligible_2 ?_
    refine x_if_eq (tgt := 25) C dX6_isEligible_5 (by decide) (fun q4 => ?_) (fun q4 => ?_)
    · have hf := ift q4 hf
      refine x_iconst (v := (0 : Int32)) C dX6_isEligible_25 (by decide) ?_
      exact x_zret C hr rfl hf dX6_isEligible_26
    · have hf := iff_ q4 hf
      refine x_aload_n C dX6_isEligible_8 rfl rfl ?_
      refine x_aload_n C dX6_isEligible_9 rfl rfl ?_
      refine x_getr (Cn := RX6) (T := TX6) (N := 8) C t0 (by decide) rfl nX6_isEligible_6 0 (by decide) rfl kX6_isEligible_11 rfl dX6_isEligible_10 (a0 + 1) rfl ?_
      refine x_iload_n C dX6_isEligible_13 rfl rfl ?_
      obtain ⟨g5, hf⟩ := ck_of hf
      have w6 : (a0 + 1) + 3 + (a2).toNatClampNeg = (a0 + 4 + (a2).toNatClampNeg) := by omega
      have u7 : tg (a0 + 4 + (a2).toNatClampNeg) = 0 := te_F (x := a2) (tf_6_0 t0) g5 w6
      refine x_aaldF (j := (a2).toNatClampNeg) C (tf_6_0 t0) (tl_6_0 t0) g5 rfl dX6_isEligible_14 (a0 + 4 + (a2).toNatClampNeg) w6 ?_
      obtain ⟨r8, M9, e10, hf⟩ := bd_of hf
      refine x_callV (n := 1) (Cn := RX2) (T := TX2) (N := 9) (As := [.ref (ad (a0 + 4 + (a2).toNatClampNeg))]) (rest := []) (maxL := 2) (ret := (some .boolean)) C (c_X2_isEligibleFor t1 u7 e10) gX6_isEligible_X2_isEligibleFor rfl (by decide +kernel) ⟨Nat.le_of_ble_eq_true rfl, Nat.le_of_ble_eq_true rfl⟩ t1 (by decide) rfl rfl rfl rfl (Nat.le_of_ble_eq_true rfl) dX6_isEligible_15 ?_
      refine x_if_eq (tgt := 25) C dX6_isEligible_18 (by decide) (fun q11 => ?_) (fun q11 => ?_)
      · have hf := ift q11 hf
        refine x_iconst (v := (0 : Int32)) C dX6_isEligible_25 (by decide) ?_
        exact x_zret C hr rfl hf dX6_isEligible_26
      · have hf := iff_ q11 hf
        refine x_iconst (v := (1 : Int32)) C dX6_isEligible_21 (by decide) ?_
        refine x_goto (tgt := 26) C dX6_isEligible_22 (by decide) ?_
        exact x_zret C hr rfl hf dX6_isEligible_26

theorem kX6_placeInOrder_19 : Cond.fieldLink RX6 19 "FlatLottery$State" "households" "[LFlatLottery$Household;" ∈ wsX6_placeInOrder := List.mem_of_getElem? (i := 3) rfl
theorem kX6_placeInOrder_37 : Cond.fieldLink RX6 37 "FlatLottery$State" "householdCount" "I" ∈ wsX6_placeInOrder := List.mem_of_getElem? (i := 2) rfl
theorem kX6_placeInOrder_55 : Cond.fieldLink RX6 55 "FlatLottery$Household" "number" "I" ∈ wsX6_placeInOrder := List.mem_of_getElem? (i := 1) rfl
theorem nX6_placeInOrder_2 : ∀ w ∈ u_ws RX2 TX2 9, w ∈ wsX6_placeInOrder := in_r [11, 12, 13, 14, 15, 16, 17, 18, 19] (by decide +kernel)
theorem nX6_placeInOrder_6 : ∀ w ∈ u_ws RX6 TX6 8, w ∈ wsX6_placeInOrder := in_r [20, 21, 22, 23, 24, 25, 26, 27] (by decide +kernel)
set_option maxHeartbeats 4000000 in
set_option maxRecDepth 100000 in
theorem cl_X6_placeInOrder_16 {p : Program} {l : Launch} {e : Env} {s : State} {m : MethodId} {args : Array Value} {below : List Frame} {meth : Method} {c : Code} {D : va_G} {cs : Nat → ClassId} {ad : Nat → Nat} (C : Cx p s m args meth c RX6 cX6_placeInOrder 4 wsX6_placeInOrder D cs ad) (hr : meth.sig.returnType = some .int) {a0 : Nat} {a1 : Nat} {r : Int32} {M' : Mem} (t0 : tg a0 = 6) (t1 : tg a1 = 2) : ∀ (n : Nat) (a2 : Int32) (a3 : Int32) (M : Mem), l_X6_placeInOrder_16 a0 a1 n a2 a3 M = some (r, M') → V p l e (rmk 1) s m args below meth c 4 D cs ad (QI below s args D cs ad r M') 16 [some (.ref (ad a0)), some (.ref (ad a1)), some (.int a2), some (.int a3)] [] M := by
  intro n
  induction n with
  | zero => intro a2 a3 M hf; cases hf
  | succ n ih =>
    intro a2 a3 M hf
    rw [l_X6_placeInOrder_16_s] at hf
    refine x_iload_n C dX6_placeInOrder_16 rfl rfl ?_
    refine x_aload_n C dX6_placeInOrder_17 rfl rfl ?_
    refine x_geti (Cn := RX6) (T := TX6) (N := 8) C t0 (by decide) rfl nX6_placeInOrder_6 3 (by decide) rfl kX6_placeInOrder_37 rfl dX6_placeInOrder_18 ?_
    refine x_icmp_ge (tgt := 46) C dX6_placeInOrder_21 (by decide) (fun q2 => ?_) (fun q2 => ?_)
    · have hf := ift q2 hf
      refine x_iload_n C dX6_placeInOrder_46 rfl rfl ?_
      exact x_iret C hr hf dX6_placeInOrder_47
    · have hf := iff_ q2 hf
      refine x_aload_n C dX6_placeInOrder_24 rfl rfl ?_
      refine x_getr (Cn := RX6) (T := TX6) (N := 8) C t0 (by decide) rfl nX6_placeInOrder_6 1 (by decide) rfl kX6_placeInOrder_19 rfl dX6_placeInOrder_25 (a0 + 2) rfl ?_
      refine x_iload_n C dX6_placeInOrder_28 rfl rfl ?_
      obtain ⟨g3, hf⟩ := ck_of hf
      have w4 : (a0 + 2) + 14 + 2 * (a3).toNatClampNeg = (a0 + 16 + 2 * (a3).toNatClampNeg) := by omega
      have u5 : tg (a0 + 16 + 2 * (a3).toNatClampNeg) = 2 := te_H (x := a3) (tf_6_1 t0) g3 w4
      refine x_aaldH (j := (a3).toNatClampNeg) C (tf_6_1 t0) (tl_6_1 t0) g3 rfl dX6_placeInOrder_29 (a0 + 16 + 2 * (a3).toNatClampNeg) w4 ?_
      refine x_aload_n C dX6_placeInOrder_30 rfl rfl ?_
      obtain ⟨r6, M7, e8, hf⟩ := bd_of hf
      refine x_callV (n := 1) (Cn := RX2) (T := TX2) (N := 9) (As := [.ref (ad a1)]) (rest := []) (maxL := 2) (ret := (some .boolean)) C (c_X2_standsAheadOf u5 t1 e8) gX6_placeInOrder_X2_standsAheadOf rfl (by decide +kernel) ⟨Nat.le_of_ble_eq_true rfl, Nat.le_of_ble_eq_true rfl⟩ u5 (by decide) rfl rfl rfl rfl (Nat.le_of_ble_eq_true rfl) dX6_placeInOrder_31 ?_
      refine x_if_eq (tgt := 40) C dX6_placeInOrder_34 (by decide) (fun q9 => ?_) (fun q9 => ?_)
      · have hf := ift q9 hf
        refine x_iinc (d := (1 : Int32)) (v := (a3 + (1 : Int32))) (lv' := [some (.ref (ad a0)), some (.ref (ad a1)), some (.int a2), some (.int (a3 + (1 : Int32)))]) C dX6_placeInOrder_40 rfl (by decide) rfl (by decide) rfl ?_
        refine x_goto (tgt := 16) C dX6_placeInOrder_43 (by decide) ?_
        exact x_weak (ih _ _ _ hf) [0, 1, 2, 3] rfl
      · have hf := iff_ q9 hf
        refine x_iinc (d := (1 : Int32)) (v := (a2 + (1 : Int32))) (lv' := [some (.ref (ad a0)), some (.ref (ad a1)), some (.int (a2 + (1 : Int32))), some (.int a3)]) C dX6_placeInOrder_37 rfl (by decide) rfl (by decide) rfl ?_
        refine x_iinc (d := (1 : Int32)) (v := (a3 + (1 : Int32))) (lv' := [some (.ref (ad a0)), some (.ref (ad a1)), some (.int (a2 + (1 : Int32))), some (.int (a3 + (1 : Int32)))]) C dX6_placeInOrder_40 rfl (by decide) rfl (by decide) rfl ?_
        refine x_goto (tgt := 16) C dX6_placeInOrder_43 (by decide) ?_
        exact x_weak (ih _ _ _ hf) [0, 1, 2, 3] rfl

set_option maxHeartbeats 4000000 in
set_option maxRecDepth 100000 in
theorem c_X6_placeInOrder {a0 : Nat} {a1 : Nat} {M : Mem} {r : Int32} {M' : Mem} (t0 : tg a0 = 6) (t1 : tg a1 = 2) (hf : f_X6_placeInOrder a0 a1 M = some (r, M')) : CnI yX6_placeInOrder wsX6_placeInOrder 1 (fun ad => [.ref (ad a0), .ref (ad a1)]) M r M' := by
  unfold f_X6_placeInOrder at hf
  refine x_metI (cc := cX6_placeInOrder) (maxL := 4) RX6 rfl (by decide) rfl (fun ad => Nat.le_of_ble_eq_true rfl) (fun ad v hv => ?_) (fun p l e s m args below meth c D cs ad C hr => ?_)
  · simp only [List.mem_cons, List.not_mem_nil, or_false] at hv
    rcases hv with rfl | rfl <;> rfl
  · show V p l e (rmk 1) s m args below meth c 4 D cs ad (QI below s args D cs ad r M') 0 [some (.ref (ad a0)), some (.ref (ad a1)), none, none] [] M
    refine x_aload_n C dX6_placeInOrder_0 rfl rfl ?_
    refine x_geti (Cn := RX2) (T := TX2) (N := 9) C t1 (by decide) rfl nX6_placeInOrder_2 4 (by decide) rfl kX6_placeInOrder_55 rfl dX6_placeInOrder_1 ?_
    refine x_bipush (v := (-5 : Int32)) C dX6_placeInOrder_4 (by decide) ?_
    refine x_icmp_ne (tgt := 12) C dX6_placeInOrder_6 (by decide) (fun q1 => ?_) (fun q1 => ?_)
    · have hf := ift q1 hf
      refine x_bipush (v := (-5 : Int32)) C dX6_placeInOrder_9 (by decide) ?_
      exact x_iret C hr hf dX6_placeInOrder_11
    · have hf := iff_ q1 hf
      refine x_iconst (v := (0 : Int32)) C dX6_placeInOrder_12 (by decide) ?_
      refine x_istore_n (lv' := [some (.ref (ad a0)), some (.ref (ad a1)), some (.int (0 : Int32)), none]) C dX6_placeInOrder_13 rfl (by decide) rfl ?_
      refine x_iconst (v := (0 : Int32)) C dX6_placeInOrder_14 (by decide) ?_
      refine x_istore_n (lv' := [some (.ref (ad a0)), some (.ref (ad a1)), some (.int (0 : Int32)), some (.int (0 : Int32))]) C dX6_placeInOrder_15 rfl (by decide) rfl ?_
      exact x_weak (cl_X6_placeInOrder_16 C hr t0 t1 _ _ _ _ hf) [0, 1, 2, 3] rfl

theorem kX6_wishersOf_19 : Cond.fieldLink RX6 19 "FlatLottery$State" "households" "[LFlatLottery$Household;" ∈ wsX6_wishersOf := List.mem_of_getElem? (i := 2) rfl
theorem kX6_wishersOf_37 : Cond.fieldLink RX6 37 "FlatLottery$State" "householdCount" "I" ∈ wsX6_wishersOf := List.mem_of_getElem? (i := 1) rfl
theorem nX6_wishersOf_6 : ∀ w ∈ u_ws RX6 TX6 8, w ∈ wsX6_wishersOf := in_r [10, 11, 12, 13, 14, 15, 16, 17] (by decide +kernel)
set_option maxHeartbeats 4000000 in
set_option maxRecDepth 100000 in
theorem cl_X6_wishersOf_4 {p : Program} {l : Launch} {e : Env} {s : State} {m : MethodId} {args : Array Value} {below : List Frame} {meth : Method} {c : Code} {D : va_G} {cs : Nat → ClassId} {ad : Nat → Nat} (C : Cx p s m args meth c RX6 cX6_wishersOf 4 wsX6_wishersOf D cs ad) (hr : meth.sig.returnType = some .int) {a0 : Nat} {a1 : Int32} {r : Int32} {M' : Mem} (t0 : tg a0 = 6) : ∀ (n : Nat) (a2 : Int32) (a3 : Int32) (M : Mem), l_X6_wishersOf_4 a0 a1 n a2 a3 M = some (r, M') → V p l e (rmk 1) s m args below meth c 4 D cs ad (QI below s args D cs ad r M') 4 [some (.ref (ad a0)), some (.int a1), some (.int a2), some (.int a3)] [] M := by
  intro n
  induction n with
  | zero => intro a2 a3 M hf; cases hf
  | succ n ih =>
    intro a2 a3 M hf
    rw [l_X6_wishersOf_4_s] at hf
    refine x_iload_n C dX6_wishersOf_4 rfl rfl ?_
    refine x_aload_n C dX6_wishersOf_5 rfl rfl ?_
    refine x_geti (Cn := RX6) (T := TX6) (N := 8) C t0 (by decide) rfl nX6_wishersOf_6 3 (by decide) rfl kX6_wishersOf_37 rfl dX6_wishersOf_6 ?_
    refine x_icmp_ge (tgt := 39) C dX6_wishersOf_9 (by decide) (fun q1 => ?_) (fun q1 => ?_)
    · have hf := ift q1 hf
      refine x_iload_n C dX6_wishersOf_39 rfl rfl ?_
      exact x_iret C hr hf dX6_wishersOf_40
    · have hf := iff_ q1 hf
      refine x_aload_n C dX6_wishersOf_12 rfl rfl ?_
      refine x_getr (Cn := RX6) (T := TX6) (N := 8) C t0 (by decide) rfl nX6_wishersOf_6 1 (by decide) rfl kX6_wishersOf_19 rfl dX6_wishersOf_13 (a0 + 2) rfl ?_
      refine x_iload_n C dX6_wishersOf_16 rfl rfl ?_
      obtain ⟨g2, hf⟩ := ck_of hf
      have w3 : (a0 + 2) + 14 + 2 * (a3).toNatClampNeg = (a0 + 16 + 2 * (a3).toNatClampNeg) := by omega
      have u4 : tg (a0 + 16 + 2 * (a3).toNatClampNeg) = 2 := te_H (x := a3) (tf_6_1 t0) g2 w3
      refine x_aaldH (j := (a3).toNatClampNeg) C (tf_6_1 t0) (tl_6_1 t0) g2 rfl dX6_wishersOf_17 (a0 + 16 + 2 * (a3).toNatClampNeg) w3 ?_
      refine x_iload_n C dX6_wishersOf_18 rfl rfl ?_
      obtain ⟨r5, M6, e7, hf⟩ := bd_of hf
      refine x_callV (n := 1) (Cn := RX2) (T := TX2) (N := 9) (As := [.int a1]) (rest := []) (maxL := 3) (ret := (some .int)) C (c_X2_placeOf u4 e7) gX6_wishersOf_X2_placeOf rfl (by decide +kernel) ⟨Nat.le_of_ble_eq_true rfl, Nat.le_of_ble_eq_true rfl⟩ u4 (by decide) rfl rfl rfl rfl (Nat.le_of_ble_eq_true rfl) dX6_wishersOf_19 ?_
      refine x_bipush (v := (-5 : Int32)) C dX6_wishersOf_22 (by decide) ?_
      refine x_icmp_eq (tgt := 33) C dX6_wishersOf_24 (by decide) (fun q8 => ?_) (fun q8 => ?_)
      · have hf := ift q8 hf
        refine x_iinc (d := (1 : Int32)) (v := (a3 + (1 : Int32))) (lv' := [some (.ref (ad a0)), some (.int a1), some (.int a2), some (.int (a3 + (1 : Int32)))]) C dX6_wishersOf_33 rfl (by decide) rfl (by decide) rfl ?_
        refine x_goto (tgt := 4) C dX6_wishersOf_36 (by decide) ?_
        exact x_weak (ih _ _ _ hf) [0, 1, 2, 3] rfl
      · have hf := iff_ q8 hf
        refine x_iload_n C dX6_wishersOf_27 rfl rfl ?_
        refine x_iconst (v := (1 : Int32)) C dX6_wishersOf_28 (by decide) ?_
        refine x_iload_n C dX6_wishersOf_29 rfl rfl ?_
        refine x_ishl C dX6_wishersOf_30 ?_
        refine x_ior C dX6_wishersOf_31 ?_
        refine x_istore_n (lv' := [some (.ref (ad a0)), some (.int a1), some (.int (a2 ||| ((1 : Int32) <<< (a3 &&& (31 : Int32))))), some (.int a3)]) C dX6_wishersOf_32 rfl (by decide) rfl ?_
        refine x_iinc (d := (1 : Int32)) (v := (a3 + (1 : Int32))) (lv' := [some (.ref (ad a0)), some (.int a1), some (.int (a2 ||| ((1 : Int32) <<< (a3 &&& (31 : Int32))))), some (.int (a3 + (1 : Int32)))]) C dX6_wishersOf_33 rfl (by decide) rfl (by decide) rfl ?_
        refine x_goto (tgt := 4) C dX6_wishersOf_36 (by decide) ?_
        exact x_weak (ih _ _ _ hf) [0, 1, 2, 3] rfl

set_option maxHeartbeats 4000000 in
set_option maxRecDepth 100000 in
theorem c_X6_wishersOf {a0 : Nat} {a1 : Int32} {M : Mem} {r : Int32} {M' : Mem} (t0 : tg a0 = 6) (hf : f_X6_wishersOf a0 a1 M = some (r, M')) : CnI yX6_wishersOf wsX6_wishersOf 1 (fun ad => [.ref (ad a0), .int a1]) M r M' := by
  unfold f_X6_wishersOf at hf
  refine x_metI (cc := cX6_wishersOf) (maxL := 4) RX6 rfl (by decide) rfl (fun ad => Nat.le_of_ble_eq_true rfl) (fun ad v hv => ?_) (fun p l e s m args below meth c D cs ad C hr => ?_)
  · simp only [List.mem_cons, List.not_mem_nil, or_false] at hv
    rcases hv with rfl | rfl <;> rfl
  · show V p l e (rmk 1) s m args below meth c 4 D cs ad (QI below s args D cs ad r M') 0 [some (.ref (ad a0)), some (.int a1), none, none] [] M
    refine x_iconst (v := (0 : Int32)) C dX6_wishersOf_0 (by decide) ?_
    refine x_istore_n (lv' := [some (.ref (ad a0)), some (.int a1), some (.int (0 : Int32)), none]) C dX6_wishersOf_1 rfl (by decide) rfl ?_
    refine x_iconst (v := (0 : Int32)) C dX6_wishersOf_2 (by decide) ?_
    refine x_istore_n (lv' := [some (.ref (ad a0)), some (.int a1), some (.int (0 : Int32)), some (.int (0 : Int32))]) C dX6_wishersOf_3 rfl (by decide) rfl ?_
    exact x_weak (cl_X6_wishersOf_4 C hr t0 _ _ _ _ hf) [0, 1, 2, 3] rfl

theorem kX7_type_33 : Cond.fieldLink RX7 33 "FlatLottery" "text" "LFlatLottery$ListText;" ∈ wsX7_type := List.mem_of_getElem? (i := 1) rfl
theorem kX7_type_187 : Cond.fieldLink RX7 187 "FlatLottery$ListText" "length" "I" ∈ wsX7_type := List.mem_of_getElem? (i := 2) rfl
theorem nX7_type_3 : ∀ w ∈ u_ws RX3 TX3 7, w ∈ wsX7_type := in_r [17, 18, 19, 20, 21, 22, 23] (by decide +kernel)
theorem nX7_type_7 : ∀ w ∈ u_ws RX7 TX7 7, w ∈ wsX7_type := in_r [10, 11, 12, 13, 14, 15, 16] (by decide +kernel)
set_option maxHeartbeats 4000000 in
set_option maxRecDepth 100000 in
theorem c_X7_type {a1 : Int32} {M : Mem} {r : Int32} {M' : Mem}  (hf : f_X7_type a1 M = some (r, M')) : CnI yX7_type wsX7_type 1 (fun ad => [.ref (ad 0), .int a1]) M r M' := by
  unfold f_X7_type at hf
  refine x_metI (cc := cX7_type) (maxL := 2) RX7 rfl (by decide) rfl (fun ad => Nat.le_of_ble_eq_true rfl) (fun ad v hv => ?_) (fun p l e s m args below meth c D cs ad C hr => ?_)
  · simp only [List.mem_cons, List.not_mem_nil, or_false] at hv
    rcases hv with rfl | rfl <;> rfl
  · show V p l e (rmk 1) s m args below meth c 2 D cs ad (QI below s args D cs ad r M') 0 [some (.ref (ad 0)), some (.int a1)] [] M
    refine x_aload_n C dX7_type_0 rfl rfl ?_
    refine x_getr (Cn := RX7) (T := TX7) (N := 7) C tg_0 (by decide) rfl nX7_type_7 4 (by decide) rfl kX7_type_33 rfl dX7_type_1 243 rfl ?_
    refine x_iload_n C dX7_type_4 rfl rfl ?_
    obtain ⟨r1, M2, e3, hf⟩ := bd_of hf
    refine x_callV (n := 1) (Cn := RX3) (T := TX3) (N := 7) (As := [.int a1]) (rest := []) (maxL := 2) (ret := (some .boolean)) C (c_X3_append  e3) gX7_type_X3_append rfl (by decide +kernel) ⟨Nat.le_of_ble_eq_true rfl, Nat.le_of_ble_eq_true rfl⟩ tg_243 (by decide) rfl rfl rfl rfl (Nat.le_of_ble_eq_true rfl) dX7_type_5 ?_
    refine x_if_eq (tgt := 21) C dX7_type_8 (by decide) (fun q4 => ?_) (fun q4 => ?_)
    · have hf := ift q4 hf
      refine x_bipush (v := (-3 : Int32)) C dX7_type_21 (by decide) ?_
      exact x_iret C hr hf dX7_type_23
    · have hf := iff_ q4 hf
      refine x_aload_n C dX7_type_11 rfl rfl ?_
      refine x_getr (Cn := RX7) (T := TX7) (N := 7) C tg_0 (by decide) rfl nX7_type_7 4 (by decide) rfl kX7_type_33 rfl dX7_type_12 243 rfl ?_
      refine x_geti (Cn := RX3) (T := TX3) (N := 7) C tg_243 (by decide) rfl nX7_type_3 1 (by decide) rfl kX7_type_187 rfl dX7_type_15 ?_
      refine x_goto (tgt := 23) C dX7_type_18 (by decide) ?_
      exact x_iret C hr hf dX7_type_23

theorem kX7_wished_10 : Cond.fieldLink RX7 10 "FlatLottery" "state" "LFlatLottery$State;" ∈ wsX7_wished := List.mem_of_getElem? (i := 1) rfl
theorem kX7_wished_78 : Cond.fieldLink RX7 78 "FlatLottery$State" "households" "[LFlatLottery$Household;" ∈ wsX7_wished := List.mem_of_getElem? (i := 2) rfl
theorem kX7_wished_101 : Cond.fieldLink RX7 101 "FlatLottery$Household" "wishCount" "I" ∈ wsX7_wished := List.mem_of_getElem? (i := 3) rfl
theorem kX7_wished_221 : Cond.fieldLink RX7 221 "FlatLottery$Household" "wishes" "[I" ∈ wsX7_wished := List.mem_of_getElem? (i := 4) rfl
theorem nX7_wished_2 : ∀ w ∈ u_ws RX2 TX2 9, w ∈ wsX7_wished := in_r [26, 27, 28, 29, 30, 31, 32, 33, 34] (by decide +kernel)
theorem nX7_wished_6 : ∀ w ∈ u_ws RX6 TX6 8, w ∈ wsX7_wished := in_r [18, 19, 20, 21, 22, 23, 24, 25] (by decide +kernel)
theorem nX7_wished_7 : ∀ w ∈ u_ws RX7 TX7 7, w ∈ wsX7_wished := in_r [11, 12, 13, 14, 15, 16, 17] (by decide +kernel)
set_option maxHeartbeats 4000000 in
set_option maxRecDepth 100000 in
theorem c_X7_wished {a1 : Int32} {a2 : Int32} {M : Mem} {r : Int32} {M' : Mem}  (hf : f_X7_wished a1 a2 M = some (r, M')) : CnI yX7_wished wsX7_wished 1 (fun ad => [.ref (ad 0), .int a1, .int a2]) M r M' := by
  unfold f_X7_wished at hf
  refine x_metI (cc := cX7_wished) (maxL := 4) RX7 rfl (by decide) rfl (fun ad => Nat.le_of_ble_eq_true rfl) (fun ad v hv => ?_) (fun p l e s m args below meth c D cs ad C hr => ?_)
  · simp only [List.mem_cons, List.not_mem_nil, or_false] at hv
    rcases hv with rfl | rfl | rfl <;> rfl
  · show V p l e (rmk 1) s m args below meth c 4 D cs ad (QI below s args D cs ad r M') 0 [some (.ref (ad 0)), some (.int a1), some (.int a2), none] [] M
    refine x_aload_n C dX7_wished_0 rfl rfl ?_
    refine x_getr (Cn := RX7) (T := TX7) (N := 7) C tg_0 (by decide) rfl nX7_wished_7 0 (by decide) rfl kX7_wished_10 rfl dX7_wished_1 1 rfl ?_
    refine x_iload_n C dX7_wished_4 rfl rfl ?_
    obtain ⟨r1, M2, e3, hf⟩ := bd_of hf
    refine x_callV (n := 1) (Cn := RX6) (T := TX6) (N := 8) (As := [.int a1]) (rest := []) (maxL := 2) (ret := (some .boolean)) C (c_X6_hasHousehold tg_1 e3) gX7_wished_X6_hasHousehold rfl (by decide +kernel) ⟨Nat.le_of_ble_eq_true rfl, Nat.le_of_ble_eq_true rfl⟩ tg_1 (by decide) rfl rfl rfl rfl (Nat.le_of_ble_eq_true rfl) dX7_wished_5 ?_
    refine x_if_ne (tgt := 13) C dX7_wished_8 (by decide) (fun q4 => ?_) (fun q4 => ?_)
    · have hf := ift q4 hf
      refine x_iconst (v := (-1 : Int32)) C dX7_wished_11 (by decide) ?_
      exact x_iret C hr hf dX7_wished_12
    · have hf := iff_ q4 hf
      refine x_iload_n C dX7_wished_13 rfl rfl ?_
      refine x_if_ge (tgt := 20) C dX7_wished_14 (by decide) (fun q5 => ?_) (fun q5 => ?_)
      · have hf := ift q5 hf
        refine x_aload_n C dX7_wished_20 rfl rfl ?_
        refine x_getr (Cn := RX7) (T := TX7) (N := 7) C tg_0 (by decide) rfl nX7_wished_7 0 (by decide) rfl kX7_wished_10 rfl dX7_wished_21 1 rfl ?_
        refine x_getr (Cn := RX6) (T := TX6) (N := 8) C tg_1 (by decide) rfl nX7_wished_6 1 (by decide) rfl kX7_wished_78 rfl dX7_wished_24 3 rfl ?_
        refine x_iload_n C dX7_wished_27 rfl rfl ?_
        obtain ⟨g6, hf⟩ := ck_of hf
        have w7 : 3 + 14 + 2 * (a1).toNatClampNeg = (17 + 2 * (a1).toNatClampNeg) := by omega
        have u8 : tg (17 + 2 * (a1).toNatClampNeg) = 2 := te_H (x := a1) tg_3 g6 w7
        refine x_aaldH (j := (a1).toNatClampNeg) C tg_3 tl_3 g6 rfl dX7_wished_28 (17 + 2 * (a1).toNatClampNeg) w7 ?_
        refine x_astore_n (lv' := [some (.ref (ad 0)), some (.int a1), some (.int a2), some (.ref (ad (17 + 2 * (a1).toNatClampNeg)))]) C dX7_wished_29 rfl (by decide) rfl ?_
        refine x_iload_n C dX7_wished_30 rfl rfl ?_
        refine x_aload_n C dX7_wished_31 rfl rfl ?_
        refine x_geti (Cn := RX2) (T := TX2) (N := 9) C u8 (by decide) rfl nX7_wished_2 1 (by decide) rfl kX7_wished_101 rfl dX7_wished_32 ?_
        refine x_icmp_lt (tgt := 41) C dX7_wished_35 (by decide) (fun q9 => ?_) (fun q9 => ?_)
        · have hf := ift q9 hf
          refine x_aload_n C dX7_wished_41 rfl rfl ?_
          have w10 : (17 + 2 * (a1).toNatClampNeg) + 1 = (18 + 2 * (a1).toNatClampNeg) := by omega
          have u11 : tg (18 + 2 * (a1).toNatClampNeg) = 10 := by rw [← w10]; exact tf_2_0 u8
          have u12 : ln (18 + 2 * (a1).toNatClampNeg) = 6 := by rw [← w10]; exact tl_2_0 u8
          refine x_getr (Cn := RX2) (T := TX2) (N := 9) C u8 (by decide) rfl nX7_wished_2 0 (by decide) rfl kX7_wished_221 rfl dX7_wished_42 (18 + 2 * (a1).toNatClampNeg) w10 ?_
          refine x_iload_n C dX7_wished_45 rfl rfl ?_
          obtain ⟨g13, hf⟩ := ck_of hf
          refine x_iald (j := (a2).toNatClampNeg) C u11 u12 g13 rfl dX7_wished_46 ?_
          exact x_iret C hr hf dX7_wished_47
        · have hf := iff_ q9 hf
          refine x_bipush (v := (-5 : Int32)) C dX7_wished_38 (by decide) ?_
          exact x_iret C hr hf dX7_wished_40
      · have hf := iff_ q5 hf
        refine x_bipush (v := (-2 : Int32)) C dX7_wished_17 (by decide) ?_
        exact x_iret C hr hf dX7_wished_19

theorem kX1_record_11 : Cond.fieldLink RX1 11 "FlatLottery$History" "states" "[LFlatLottery$State;" ∈ wsX1_record := List.mem_of_getElem? (i := 2) rfl
theorem kX1_record_18 : Cond.fieldLink RX1 18 "FlatLottery$History" "size" "I" ∈ wsX1_record := List.mem_of_getElem? (i := 1) rfl
theorem nX1_record_1 : ∀ w ∈ u_ws RX1 TX1 2, w ∈ wsX1_record := in_r [41, 42] (by decide +kernel)
set_option maxHeartbeats 4000000 in
set_option maxRecDepth 100000 in
theorem c_X1_record {a1 : Nat} {M : Mem} {r : Int32} {M' : Mem} (t1 : tg a1 = 6) (hf : f_X1_record a1 M = some (r, M')) : CnV yX1_record wsX1_record 2 (fun ad => [.ref (ad 81), .ref (ad a1)]) M M' := by
  unfold f_X1_record at hf
  refine x_metV (cc := cX1_record) (maxL := 2) RX1 rfl (by decide) rfl (fun ad => Nat.le_of_ble_eq_true rfl) (fun ad v hv => ?_) (fun p l e s m args below meth c D cs ad C hr => ?_)
  · simp only [List.mem_cons, List.not_mem_nil, or_false] at hv
    rcases hv with rfl | rfl <;> rfl
  · show V p l e (rmk 2) s m args below meth c 2 D cs ad (QV below s args D cs ad M') 0 [some (.ref (ad 81)), some (.ref (ad a1))] [] M
    refine x_aload_n C dX1_record_0 rfl rfl ?_
    refine x_geti (Cn := RX1) (T := TX1) (N := 2) C tg_81 (by decide) rfl nX1_record_1 1 (by decide) rfl kX1_record_18 rfl dX1_record_1 ?_
    refine x_iconst (v := (4 : Int32)) C dX1_record_4 (by decide) ?_
    refine x_icmp_lt (tgt := 12) C dX1_record_5 (by decide) (fun q1 => ?_) (fun q1 => ?_)
    · have hf := ift q1 hf
      refine x_aload_n C dX1_record_12 rfl rfl ?_
      refine x_getr (Cn := RX1) (T := TX1) (N := 2) C tg_81 (by decide) rfl nX1_record_1 0 (by decide) rfl kX1_record_11 rfl dX1_record_13 82 rfl ?_
      refine x_aload_n C dX1_record_16 rfl rfl ?_
      refine x_geti (Cn := RX1) (T := TX1) (N := 2) C tg_81 (by decide) rfl nX1_record_1 1 (by decide) rfl kX1_record_18 rfl dX1_record_17 ?_
      obtain ⟨g2, hf⟩ := ck_of hf
      obtain ⟨g3, hf⟩ := ck_of hf
      have w4 : 82 + 1 + 40 * (M 82 ((M 81 1)).toNatClampNeg).toNatClampNeg = (83 + 40 * (M 82 ((M 81 1)).toNatClampNeg).toNatClampNeg) := by omega
      have u5 : tg (83 + 40 * (M 82 ((M 81 1)).toNatClampNeg).toNatClampNeg) = 6 := te_S tg_82 g3 w4
      refine x_aaldS (j := ((M 81 1)).toNatClampNeg) C tg_82 tl_82 g2 rfl dX1_record_20 (83 + 40 * (M 82 ((M 81 1)).toNatClampNeg).toNatClampNeg) w4 ?_
      refine x_aload_n C dX1_record_21 rfl rfl ?_
      obtain ⟨r6, M7, e8, hf⟩ := bd_of hf
      refine x_callVv (n := 1) (Cn := RX6) (T := TX6) (N := 8) (As := [.ref (ad a1)]) (rest := []) (maxL := 3) (ret := none) C (c_X6_copyFrom u5 t1 e8) gX1_record_X6_copyFrom rfl (by decide +kernel) ⟨Nat.le_of_ble_eq_true rfl, Nat.le_of_ble_eq_true rfl⟩ u5 (by decide) rfl rfl rfl rfl (Nat.le_of_ble_eq_true rfl) dX1_record_22 ?_
      refine x_aload_n C dX1_record_25 rfl rfl ?_
      refine x_dup C dX1_record_26 rfl ?_
      refine x_geti (Cn := RX1) (T := TX1) (N := 2) C tg_81 (by decide) rfl nX1_record_1 1 (by decide) rfl kX1_record_18 rfl dX1_record_27 ?_
      refine x_iconst (v := (1 : Int32)) C dX1_record_30 (by decide) ?_
      refine x_iadd C dX1_record_31 ?_
      refine x_puti (ty := .int) (Cn := RX1) (T := TX1) (N := 2) C tg_81 (by decide) rfl nX1_record_1 tyX1 tyX1_ok nmX1 1 (by decide) rfl kX1_record_18 rfl rfl (by decide +kernel) rfl rfl dX1_record_32 ?_
      refine x_gen hf (fun M9 hf => ?_)
      exact x_vret C hr hf dX1_record_35
    · have hf := iff_ q1 hf
      refine x_aload_n C dX1_record_8 rfl rfl ?_
      obtain ⟨r10, M11, e12, hf⟩ := bd_of hf
      refine x_callVv (n := 0) (Cn := RX1) (T := TX1) (N := 2) (As := []) (rest := []) (maxL := 3) (ret := none) C (c_X1_dropOldest  e12) gX1_record_X1_dropOldest rfl (by decide +kernel) ⟨Nat.le_of_ble_eq_true rfl, Nat.le_of_ble_eq_true rfl⟩ tg_81 (by decide) rfl rfl rfl rfl (Nat.le_of_ble_eq_true rfl) dX1_record_9 ?_
      refine x_aload_n C dX1_record_12 rfl rfl ?_
      refine x_getr (Cn := RX1) (T := TX1) (N := 2) C tg_81 (by decide) rfl nX1_record_1 0 (by decide) rfl kX1_record_11 rfl dX1_record_13 82 rfl ?_
      refine x_aload_n C dX1_record_16 rfl rfl ?_
      refine x_geti (Cn := RX1) (T := TX1) (N := 2) C tg_81 (by decide) rfl nX1_record_1 1 (by decide) rfl kX1_record_18 rfl dX1_record_17 ?_
      obtain ⟨g13, hf⟩ := ck_of hf
      obtain ⟨g14, hf⟩ := ck_of hf
      have w15 : 82 + 1 + 40 * (M11 82 ((M11 81 1)).toNatClampNeg).toNatClampNeg = (83 + 40 * (M11 82 ((M11 81 1)).toNatClampNeg).toNatClampNeg) := by omega
      have u16 : tg (83 + 40 * (M11 82 ((M11 81 1)).toNatClampNeg).toNatClampNeg) = 6 := te_S tg_82 g14 w15
      refine x_aaldS (j := ((M11 81 1)).toNatClampNeg) C tg_82 tl_82 g13 rfl dX1_record_20 (83 + 40 * (M11 82 ((M11 81 1)).toNatClampNeg).toNatClampNeg) w15 ?_
      refine x_aload_n C dX1_record_21 rfl rfl ?_
      obtain ⟨r17, M18, e19, hf⟩ := bd_of hf
      refine x_callVv (n := 1) (Cn := RX6) (T := TX6) (N := 8) (As := [.ref (ad a1)]) (rest := []) (maxL := 3) (ret := none) C (c_X6_copyFrom u16 t1 e19) gX1_record_X6_copyFrom rfl (by decide +kernel) ⟨Nat.le_of_ble_eq_true rfl, Nat.le_of_ble_eq_true rfl⟩ u16 (by decide) rfl rfl rfl rfl (Nat.le_of_ble_eq_true rfl) dX1_record_22 ?_
      refine x_aload_n C dX1_record_25 rfl rfl ?_
      refine x_dup C dX1_record_26 rfl ?_
      refine x_geti (Cn := RX1) (T := TX1) (N := 2) C tg_81 (by decide) rfl nX1_record_1 1 (by decide) rfl kX1_record_18 rfl dX1_record_27 ?_
      refine x_iconst (v := (1 : Int32)) C dX1_record_30 (by decide) ?_
      refine x_iadd C dX1_record_31 ?_
      refine x_puti (ty := .int) (Cn := RX1) (T := TX1) (N := 2) C tg_81 (by decide) rfl nX1_record_1 tyX1 tyX1_ok nmX1 1 (by decide) rfl kX1_record_18 rfl rfl (by decide +kernel) rfl rfl dX1_record_32 ?_
      refine x_gen hf (fun M20 hf => ?_)
      exact x_vret C hr hf dX1_record_35

theorem kX1_takeBack_11 : Cond.fieldLink RX1 11 "FlatLottery$History" "states" "[LFlatLottery$State;" ∈ wsX1_takeBack := List.mem_of_getElem? (i := 2) rfl
theorem kX1_takeBack_18 : Cond.fieldLink RX1 18 "FlatLottery$History" "size" "I" ∈ wsX1_takeBack := List.mem_of_getElem? (i := 1) rfl
theorem nX1_takeBack_1 : ∀ w ∈ u_ws RX1 TX1 2, w ∈ wsX1_takeBack := in_r [36, 37] (by decide +kernel)
set_option maxHeartbeats 4000000 in
set_option maxRecDepth 100000 in
theorem c_X1_takeBack {a1 : Nat} {M : Mem} {r : Int32} {M' : Mem} (t1 : tg a1 = 6) (hf : f_X1_takeBack a1 M = some (r, M')) : CnV yX1_takeBack wsX1_takeBack 2 (fun ad => [.ref (ad 81), .ref (ad a1)]) M M' := by
  unfold f_X1_takeBack at hf
  refine x_metV (cc := cX1_takeBack) (maxL := 2) RX1 rfl (by decide) rfl (fun ad => Nat.le_of_ble_eq_true rfl) (fun ad v hv => ?_) (fun p l e s m args below meth c D cs ad C hr => ?_)
  · simp only [List.mem_cons, List.not_mem_nil, or_false] at hv
    rcases hv with rfl | rfl <;> rfl
  · show V p l e (rmk 2) s m args below meth c 2 D cs ad (QV below s args D cs ad M') 0 [some (.ref (ad 81)), some (.ref (ad a1))] [] M
    refine x_aload_n C dX1_takeBack_0 rfl rfl ?_
    refine x_geti (Cn := RX1) (T := TX1) (N := 2) C tg_81 (by decide) rfl nX1_takeBack_1 1 (by decide) rfl kX1_takeBack_18 rfl dX1_takeBack_1 ?_
    refine x_if_le (tgt := 30) C dX1_takeBack_4 (by decide) (fun q1 => ?_) (fun q1 => ?_)
    · have hf := ift q1 hf
      exact x_vret C hr hf dX1_takeBack_30
    · have hf := iff_ q1 hf
      refine x_aload_n C dX1_takeBack_7 rfl rfl ?_
      refine x_dup C dX1_takeBack_8 rfl ?_
      refine x_geti (Cn := RX1) (T := TX1) (N := 2) C tg_81 (by decide) rfl nX1_takeBack_1 1 (by decide) rfl kX1_takeBack_18 rfl dX1_takeBack_9 ?_
      refine x_iconst (v := (1 : Int32)) C dX1_takeBack_12 (by decide) ?_
      refine x_isub C dX1_takeBack_13 ?_
      refine x_puti (ty := .int) (Cn := RX1) (T := TX1) (N := 2) C tg_81 (by decide) rfl nX1_takeBack_1 tyX1 tyX1_ok nmX1 1 (by decide) rfl kX1_takeBack_18 rfl rfl (by decide +kernel) rfl rfl dX1_takeBack_14 ?_
      refine x_gen hf (fun M2 hf => ?_)
      refine x_aload_n C dX1_takeBack_17 rfl rfl ?_
      refine x_aload_n C dX1_takeBack_18 rfl rfl ?_
      refine x_getr (Cn := RX1) (T := TX1) (N := 2) C tg_81 (by decide) rfl nX1_takeBack_1 0 (by decide) rfl kX1_takeBack_11 rfl dX1_takeBack_19 82 rfl ?_
      refine x_aload_n C dX1_takeBack_22 rfl rfl ?_
      refine x_geti (Cn := RX1) (T := TX1) (N := 2) C tg_81 (by decide) rfl nX1_takeBack_1 1 (by decide) rfl kX1_takeBack_18 rfl dX1_takeBack_23 ?_
      obtain ⟨g3, hf⟩ := ck_of hf
      obtain ⟨g4, hf⟩ := ck_of hf
      have w5 : 82 + 1 + 40 * (M2 82 ((M2 81 1)).toNatClampNeg).toNatClampNeg = (83 + 40 * (M2 82 ((M2 81 1)).toNatClampNeg).toNatClampNeg) := by omega
      have u6 : tg (83 + 40 * (M2 82 ((M2 81 1)).toNatClampNeg).toNatClampNeg) = 6 := te_S tg_82 g4 w5
      refine x_aaldS (j := ((M2 81 1)).toNatClampNeg) C tg_82 tl_82 g3 rfl dX1_takeBack_26 (83 + 40 * (M2 82 ((M2 81 1)).toNatClampNeg).toNatClampNeg) w5 ?_
      obtain ⟨r7, M8, e9, hf⟩ := bd_of hf
      refine x_callVv (n := 1) (Cn := RX6) (T := TX6) (N := 8) (As := [.ref (ad (83 + 40 * (M2 82 ((M2 81 1)).toNatClampNeg).toNatClampNeg))]) (rest := []) (maxL := 3) (ret := none) C (c_X6_copyFrom t1 u6 e9) gX1_takeBack_X6_copyFrom rfl (by decide +kernel) ⟨Nat.le_of_ble_eq_true rfl, Nat.le_of_ble_eq_true rfl⟩ t1 (by decide) rfl rfl rfl rfl (Nat.le_of_ble_eq_true rfl) dX1_takeBack_27 ?_
      exact x_vret C hr hf dX1_takeBack_30

theorem kX3_readNumber_29 : Cond.fieldLink RX3 29 "FlatLottery$ListText" "at" "I" ∈ wsX3_readNumber := List.mem_of_getElem? (i := 1) rfl
theorem nX3_readNumber_3 : ∀ w ∈ u_ws RX3 TX3 7, w ∈ wsX3_readNumber := in_r [13, 14, 15, 16, 17, 18, 19] (by decide +kernel)
set_option maxHeartbeats 4000000 in
set_option maxRecDepth 100000 in
theorem c_X3_readNumber  {M : Mem} {r : Int32} {M' : Mem}  (hf : f_X3_readNumber  M = some (r, M')) : CnI yX3_readNumber wsX3_readNumber 2 (fun ad => [.ref (ad 243)]) M r M' := by
  unfold f_X3_readNumber at hf
  refine x_metI (cc := cX3_readNumber) (maxL := 3) RX3 rfl (by decide) rfl (fun ad => Nat.le_of_ble_eq_true rfl) (fun ad v hv => ?_) (fun p l e s m args below meth c D cs ad C hr => ?_)
  · simp only [List.mem_cons, List.not_mem_nil, or_false] at hv
    rcases hv with rfl <;> rfl
  · show V p l e (rmk 2) s m args below meth c 3 D cs ad (QI below s args D cs ad r M') 0 [some (.ref (ad 243)), none, none] [] M
    refine x_aload_n C dX3_readNumber_0 rfl rfl ?_
    obtain ⟨r1, M2, e3, hf⟩ := bd_of hf
    refine x_callV (n := 0) (Cn := RX3) (T := TX3) (N := 7) (As := []) (rest := []) (maxL := 2) (ret := (some .int)) C (c_X3_digitAtHand  e3) gX3_readNumber_X3_digitAtHand rfl (by decide +kernel) ⟨Nat.le_of_ble_eq_true rfl, Nat.le_of_ble_eq_true rfl⟩ tg_243 (by decide) rfl rfl rfl rfl (Nat.le_of_ble_eq_true rfl) dX3_readNumber_1 ?_
    refine x_istore_n (lv' := [some (.ref (ad 243)), some (.int r1), none]) C dX3_readNumber_4 rfl (by decide) rfl ?_
    refine x_iload_n C dX3_readNumber_5 rfl rfl ?_
    refine x_bipush (v := (-5 : Int32)) C dX3_readNumber_6 (by decide) ?_
    refine x_icmp_ne (tgt := 14) C dX3_readNumber_8 (by decide) (fun q4 => ?_) (fun q4 => ?_)
    · have hf := ift q4 hf
      refine x_bipush (v := (-5 : Int32)) C dX3_readNumber_11 (by decide) ?_
      exact x_iret C hr hf dX3_readNumber_13
    · have hf := iff_ q4 hf
      refine x_aload_n C dX3_readNumber_14 rfl rfl ?_
      refine x_dup C dX3_readNumber_15 rfl ?_
      refine x_geti (Cn := RX3) (T := TX3) (N := 7) C tg_243 (by decide) rfl nX3_readNumber_3 6 (by decide) rfl kX3_readNumber_29 rfl dX3_readNumber_16 ?_
      refine x_iconst (v := (1 : Int32)) C dX3_readNumber_19 (by decide) ?_
      refine x_iadd C dX3_readNumber_20 ?_
      refine x_puti (ty := .int) (Cn := RX3) (T := TX3) (N := 7) C tg_243 (by decide) rfl nX3_readNumber_3 tyX3 tyX3_ok nmX3 6 (by decide) rfl kX3_readNumber_29 rfl rfl (by decide +kernel) rfl rfl dX3_readNumber_21 ?_
      refine x_gen hf (fun M5 hf => ?_)
      refine x_aload_n C dX3_readNumber_24 rfl rfl ?_
      obtain ⟨r6, M7, e8, hf⟩ := bd_of hf
      refine x_callV (n := 0) (Cn := RX3) (T := TX3) (N := 7) (As := []) (rest := []) (maxL := 2) (ret := (some .int)) C (c_X3_digitAtHand  e8) gX3_readNumber_X3_digitAtHand rfl (by decide +kernel) ⟨Nat.le_of_ble_eq_true rfl, Nat.le_of_ble_eq_true rfl⟩ tg_243 (by decide) rfl rfl rfl rfl (Nat.le_of_ble_eq_true rfl) dX3_readNumber_25 ?_
      refine x_istore_n (lv' := [some (.ref (ad 243)), some (.int r1), some (.int r6)]) C dX3_readNumber_28 rfl (by decide) rfl ?_
      refine x_iload_n C dX3_readNumber_29 rfl rfl ?_
      refine x_iconst (v := (1 : Int32)) C dX3_readNumber_30 (by decide) ?_
      refine x_icmp_ne (tgt := 45) C dX3_readNumber_31 (by decide) (fun q9 => ?_) (fun q9 => ?_)
      · have hf := ift q9 hf
        refine x_iload_n C dX3_readNumber_34 rfl rfl ?_
        refine x_bipush (v := (-5 : Int32)) C dX3_readNumber_35 (by decide) ?_
        refine x_icmp_eq (tgt := 45) C dX3_readNumber_37 (by decide) (fun q10 => ?_) (fun q10 => ?_)
        · have hf := ift q10 hf
          refine x_iload_n C dX3_readNumber_45 rfl rfl ?_
          exact x_iret C hr hf dX3_readNumber_46
        · have hf := iff_ q10 hf
          refine x_iload_n C dX3_readNumber_40 rfl rfl ?_
          refine x_iconst (v := (1 : Int32)) C dX3_readNumber_41 (by decide) ?_
          refine x_icmp_le (tgt := 47) C dX3_readNumber_42 (by decide) (fun q11 => ?_) (fun q11 => ?_)
          · have hf := ift q11 hf
            refine x_aload_n C dX3_readNumber_47 rfl rfl ?_
            refine x_dup C dX3_readNumber_48 rfl ?_
            refine x_geti (Cn := RX3) (T := TX3) (N := 7) C tg_243 (by decide) rfl nX3_readNumber_3 6 (by decide) rfl kX3_readNumber_29 rfl dX3_readNumber_49 ?_
            refine x_iconst (v := (1 : Int32)) C dX3_readNumber_52 (by decide) ?_
            refine x_iadd C dX3_readNumber_53 ?_
            refine x_puti (ty := .int) (Cn := RX3) (T := TX3) (N := 7) C tg_243 (by decide) rfl nX3_readNumber_3 tyX3 tyX3_ok nmX3 6 (by decide) rfl kX3_readNumber_29 rfl rfl (by decide +kernel) rfl rfl dX3_readNumber_54 ?_
            refine x_gen hf (fun M12 hf => ?_)
            refine x_bipush (v := (10 : Int32)) C dX3_readNumber_57 (by decide) ?_
            refine x_iload_n C dX3_readNumber_59 rfl rfl ?_
            refine x_iadd C dX3_readNumber_60 ?_
            exact x_iret C hr hf dX3_readNumber_61
          · have hf := iff_ q11 hf
            refine x_iload_n C dX3_readNumber_45 rfl rfl ?_
            exact x_iret C hr hf dX3_readNumber_46
      · have hf := iff_ q9 hf
        refine x_iload_n C dX3_readNumber_45 rfl rfl ?_
        exact x_iret C hr hf dX3_readNumber_46

theorem kX4_canHouse_15 : Cond.fieldLink RX4 15 "FlatLottery$Matching" "takenBy" "[I" ∈ wsX4_canHouse := List.mem_of_getElem? (i := 6) rfl
theorem kX4_canHouse_18 : Cond.fieldLink RX4 18 "FlatLottery$Matching" "askedBy" "[I" ∈ wsX4_canHouse := List.mem_of_getElem? (i := 1) rfl
theorem kX4_canHouse_21 : Cond.fieldLink RX4 21 "FlatLottery$Matching" "waiting" "[I" ∈ wsX4_canHouse := List.mem_of_getElem? (i := 2) rfl
theorem kX4_canHouse_34 : Cond.fieldLink RX4 34 "FlatLottery$State" "households" "[LFlatLottery$Household;" ∈ wsX4_canHouse := List.mem_of_getElem? (i := 3) rfl
theorem kX4_canHouse_38 : Cond.fieldLink RX4 38 "FlatLottery$Household" "wishCount" "I" ∈ wsX4_canHouse := List.mem_of_getElem? (i := 4) rfl
theorem kX4_canHouse_43 : Cond.fieldLink RX4 43 "FlatLottery$Household" "wishes" "[I" ∈ wsX4_canHouse := List.mem_of_getElem? (i := 5) rfl
theorem nX4_canHouse_2 : ∀ w ∈ u_ws RX2 TX2 9, w ∈ wsX4_canHouse := in_r [45, 46, 47, 48, 49, 50, 51, 52, 53] (by decide +kernel)
theorem nX4_canHouse_4 : ∀ w ∈ u_ws RX4 TX4 4, w ∈ wsX4_canHouse := in_r [33, 34, 35, 36] (by decide +kernel)
theorem nX4_canHouse_6 : ∀ w ∈ u_ws RX6 TX6 8, w ∈ wsX4_canHouse := in_r [37, 38, 39, 40, 41, 42, 43, 44] (by decide +kernel)
set_option maxHeartbeats 4000000 in
set_option maxRecDepth 100000 in
theorem cl_X4_canHouse_2 {p : Program} {l : Launch} {e : Env} {s : State} {m : MethodId} {args : Array Value} {below : List Frame} {meth : Method} {c : Code} {D : va_G} {cs : Nat → ClassId} {ad : Nat → Nat} (C : Cx p s m args meth c RX4 cX4_canHouse 9 wsX4_canHouse D cs ad) (hr : meth.sig.returnType = some .boolean)  {x1 : Value} {x2 : Value} {r : Int32} {M' : Mem}  {k : Mem → Option (Int32 × Mem)} (hk : ∀ (M : Mem), k M = some (r, M') → V p l e (rmk 2) s m args below meth c 9 D cs ad (QI below s args D cs ad r M') 22 [some (.ref (ad 250)), some (x1), some (x2), none, none, none, none, none, none] [] M) : ∀ (n : Nat) (a3 : Int32) (M : Mem), l_X4_canHouse_2 k n a3 M = some (r, M') → V p l e (rmk 2) s m args below meth c 9 D cs ad (QI below s args D cs ad r M') 2 [some (.ref (ad 250)), some (x1), some (x2), some (.int a3), none, none, none, none, none] [] M := by
  intro n
  induction n with
  | zero => intro a3 M hf; cases hf
  | succ n ih =>
    intro a3 M hf
    rw [l_X4_canHouse_2_s] at hf
    refine x_iload_n C dX4_canHouse_2 rfl rfl ?_
    refine x_bipush (v := (12 : Int32)) C dX4_canHouse_3 (by decide) ?_
    refine x_icmp_ge (tgt := 22) C dX4_canHouse_5 (by decide) (fun q1 => ?_) (fun q1 => ?_)
    · have hf := ift q1 hf
      exact x_weak (hk _ hf) [0, 1, 2] rfl
    · have hf := iff_ q1 hf
      refine x_aload_n C dX4_canHouse_8 rfl rfl ?_
      refine x_getr (Cn := RX4) (T := TX4) (N := 4) C tg_250 (by decide) rfl nX4_canHouse_4 2 (by decide) rfl kX4_canHouse_18 rfl dX4_canHouse_9 253 rfl ?_
      refine x_iload_n C dX4_canHouse_12 rfl rfl ?_
      refine x_bipush (v := (-5 : Int32)) C dX4_canHouse_13 (by decide) ?_
      obtain ⟨g2, hf⟩ := ck_of hf
      refine x_iast (j := (a3).toNatClampNeg) C tg_253 tl_253 g2 rfl dX4_canHouse_15 ?_
      refine x_gen hf (fun M3 hf => ?_)
      refine x_iinc (d := (1 : Int32)) (v := (a3 + (1 : Int32))) (lv' := [some (.ref (ad 250)), some (x1), some (x2), some (.int (a3 + (1 : Int32))), none, none, none, none, none]) C dX4_canHouse_16 rfl (by decide) rfl (by decide) rfl ?_
      refine x_goto (tgt := 2) C dX4_canHouse_19 (by decide) ?_
      exact x_weak (ih _ _ hf) [0, 1, 2, 3] rfl

set_option maxHeartbeats 4000000 in
set_option maxRecDepth 100000 in
theorem cl_X4_canHouse_61 {p : Program} {l : Launch} {e : Env} {s : State} {m : MethodId} {args : Array Value} {below : List Frame} {meth : Method} {c : Code} {D : va_G} {cs : Nat → ClassId} {ad : Nat → Nat} (C : Cx p s m args meth c RX4 cX4_canHouse 9 wsX4_canHouse D cs ad) (hr : meth.sig.returnType = some .boolean) {a2 : Nat} {a5 : Int32} {a6 : Nat} {x4 : Value} {r : Int32} {M' : Mem} (t2 : tg a2 = 6) (t6 : tg a6 = 2) {k : Int32 → Mem → Option (Int32 × Mem)} (hk : ∀ (b3 : Int32) (M : Mem), k b3 M = some (r, M') → V p l e (rmk 2) s m args below meth c 9 D cs ad (QI below s args D cs ad r M') 164 [some (.ref (ad 250)), none, some (.ref (ad a2)), some (.int b3), some (x4), none, none, none, none] [] M) : ∀ (n : Nat) (a3 : Int32) (a7 : Int32) (M : Mem), l_X4_canHouse_61 a2 a5 a6 k n a3 a7 M = some (r, M') → V p l e (rmk 2) s m args below meth c 9 D cs ad (QI below s args D cs ad r M') 61 [some (.ref (ad 250)), none, some (.ref (ad a2)), some (.int a3), some (x4), some (.int a5), some (.ref (ad a6)), some (.int a7), none] [] M := by
  intro n
  induction n with
  | zero => intro a3 a7 M hf; cases hf
  | succ n ih =>
    intro a3 a7 M hf
    rw [l_X4_canHouse_61_s] at hf
    refine x_iload C dX4_canHouse_61 rfl ?_
    refine x_aload C dX4_canHouse_63 rfl ?_
    refine x_geti (Cn := RX2) (T := TX2) (N := 9) C t6 (by decide) rfl nX4_canHouse_2 1 (by decide) rfl kX4_canHouse_38 rfl dX4_canHouse_65 ?_
    refine x_icmp_ge (tgt := 164) C dX4_canHouse_68 (by decide) (fun q11 => ?_) (fun q11 => ?_)
    · have hf := ift q11 hf
      exact x_weak (hk _ _ hf) [0, 2, 3, 4] rfl
    · have hf := iff_ q11 hf
      refine x_aload C dX4_canHouse_71 rfl ?_
      refine x_getr (Cn := RX2) (T := TX2) (N := 9) C t6 (by decide) rfl nX4_canHouse_2 0 (by decide) rfl kX4_canHouse_43 rfl dX4_canHouse_73 (a6 + 1) rfl ?_
      refine x_iload C dX4_canHouse_76 rfl ?_
      obtain ⟨g12, hf⟩ := ck_of hf
      refine x_iald (j := (a7).toNatClampNeg) C (tf_2_0 t6) (tl_2_0 t6) g12 rfl dX4_canHouse_78 ?_
      refine x_istore (lv' := [some (.ref (ad 250)), none, some (.ref (ad a2)), some (.int a3), some (x4), some (.int a5), some (.ref (ad a6)), some (.int a7), some (.int (M (a6 + 1) (a7).toNatClampNeg))]) C dX4_canHouse_79 (by decide) rfl ?_
      refine x_aload_n C dX4_canHouse_81 rfl rfl ?_
      refine x_aload C dX4_canHouse_82 rfl ?_
      refine x_iload C dX4_canHouse_84 rfl ?_
      obtain ⟨r13, M14, e15, hf⟩ := bd_of hf
      refine x_callV (n := 2) (Cn := RX6) (T := TX6) (N := 8) (As := [.ref (ad a6), .int (M (a6 + 1) (a7).toNatClampNeg)]) (rest := []) (maxL := 3) (ret := (some .boolean)) C (c_X6_isEligible t2 t6 e15) gX4_canHouse_X6_isEligible rfl (by decide +kernel) ⟨Nat.le_of_ble_eq_true rfl, Nat.le_of_ble_eq_true rfl⟩ t2 (by decide) rfl rfl rfl rfl (Nat.le_of_ble_eq_true rfl) dX4_canHouse_86 ?_
      refine x_if_eq (tgt := 158) C dX4_canHouse_89 (by decide) (fun q16 => ?_) (fun q16 => ?_)
      · have hf := ift q16 hf
        refine x_iinc (d := (1 : Int32)) (v := (a7 + (1 : Int32))) (lv' := [some (.ref (ad 250)), none, some (.ref (ad a2)), some (.int a3), some (x4), some (.int a5), some (.ref (ad a6)), some (.int (a7 + (1 : Int32))), some (.int (M (a6 + 1) (a7).toNatClampNeg))]) C dX4_canHouse_158 rfl (by decide) rfl (by decide) rfl ?_
        refine x_goto (tgt := 61) C dX4_canHouse_161 (by decide) ?_
        exact x_weak (ih _ _ _ hf) [0, 2, 3, 4, 5, 6, 7] rfl
      · have hf := iff_ q16 hf
        refine x_aload_n C dX4_canHouse_92 rfl rfl ?_
        refine x_getr (Cn := RX4) (T := TX4) (N := 4) C tg_250 (by decide) rfl nX4_canHouse_4 2 (by decide) rfl kX4_canHouse_18 rfl dX4_canHouse_93 253 rfl ?_
        refine x_iload C dX4_canHouse_96 rfl ?_
        obtain ⟨g17, hf⟩ := ck_of hf
        refine x_iald (j := ((M (a6 + 1) (a7).toNatClampNeg)).toNatClampNeg) C tg_253 tl_253 g17 rfl dX4_canHouse_98 ?_
        refine x_bipush (v := (-5 : Int32)) C dX4_canHouse_99 (by decide) ?_
        refine x_icmp_eq (tgt := 107) C dX4_canHouse_101 (by decide) (fun q18 => ?_) (fun q18 => ?_)
        · have hf := ift q18 hf
          refine x_aload_n C dX4_canHouse_107 rfl rfl ?_
          refine x_getr (Cn := RX4) (T := TX4) (N := 4) C tg_250 (by decide) rfl nX4_canHouse_4 2 (by decide) rfl kX4_canHouse_18 rfl dX4_canHouse_108 253 rfl ?_
          refine x_iload C dX4_canHouse_111 rfl ?_
          refine x_iload C dX4_canHouse_113 rfl ?_
          obtain ⟨g19, hf⟩ := ck_of hf
          refine x_iast (j := ((M (a6 + 1) (a7).toNatClampNeg)).toNatClampNeg) C tg_253 tl_253 g19 rfl dX4_canHouse_115 ?_
          refine x_gen hf (fun M20 hf => ?_)
          refine x_aload_n C dX4_canHouse_116 rfl rfl ?_
          refine x_getr (Cn := RX4) (T := TX4) (N := 4) C tg_250 (by decide) rfl nX4_canHouse_4 1 (by decide) rfl kX4_canHouse_15 rfl dX4_canHouse_117 252 rfl ?_
          refine x_iload C dX4_canHouse_120 rfl ?_
          obtain ⟨g21, hf⟩ := ck_of hf
          refine x_iald (j := ((M (a6 + 1) (a7).toNatClampNeg)).toNatClampNeg) C tg_252 tl_252 g21 rfl dX4_canHouse_122 ?_
          refine x_bipush (v := (-5 : Int32)) C dX4_canHouse_123 (by decide) ?_
          refine x_icmp_ne (tgt := 136) C dX4_canHouse_125 (by decide) (fun q22 => ?_) (fun q22 => ?_)
          · have hf := ift q22 hf
            refine x_aload_n C dX4_canHouse_128 rfl rfl ?_
            refine x_iload C dX4_canHouse_129 rfl ?_
            obtain ⟨r23, M24, e25, hf⟩ := bd_of hf
            refine x_callVv (n := 1) (Cn := RX4) (T := TX4) (N := 4) (As := [.int (M (a6 + 1) (a7).toNatClampNeg)]) (rest := []) (maxL := 6) (ret := none) C (c_X4_handOn  e25) gX4_canHouse_X4_handOn rfl (by decide +kernel) ⟨Nat.le_of_ble_eq_true rfl, Nat.le_of_ble_eq_true rfl⟩ tg_250 (by decide) rfl rfl rfl rfl (Nat.le_of_ble_eq_true rfl) dX4_canHouse_131 ?_
            refine x_iconst (v := (1 : Int32)) C dX4_canHouse_134 (by decide) ?_
            exact x_zret C hr rfl hf dX4_canHouse_135
          · have hf := iff_ q22 hf
            refine x_iload_n C dX4_canHouse_136 rfl rfl ?_
            refine x_bipush (v := (12 : Int32)) C dX4_canHouse_137 (by decide) ?_
            refine x_icmp_ge (tgt := 158) C dX4_canHouse_139 (by decide) (fun q26 => ?_) (fun q26 => ?_)
            · have hf := ift q26 hf
              refine x_iinc (d := (1 : Int32)) (v := (a7 + (1 : Int32))) (lv' := [some (.ref (ad 250)), none, some (.ref (ad a2)), some (.int a3), some (x4), some (.int a5), some (.ref (ad a6)), some (.int (a7 + (1 : Int32))), some (.int (M (a6 + 1) (a7).toNatClampNeg))]) C dX4_canHouse_158 rfl (by decide) rfl (by decide) rfl ?_
              refine x_goto (tgt := 61) C dX4_canHouse_161 (by decide) ?_
              exact x_weak (ih _ _ _ hf) [0, 2, 3, 4, 5, 6, 7] rfl
            · have hf := iff_ q26 hf
              refine x_aload_n C dX4_canHouse_142 rfl rfl ?_
              refine x_getr (Cn := RX4) (T := TX4) (N := 4) C tg_250 (by decide) rfl nX4_canHouse_4 3 (by decide) rfl kX4_canHouse_21 rfl dX4_canHouse_143 254 rfl ?_
              refine x_iload_n C dX4_canHouse_146 rfl rfl ?_
              refine x_aload_n C dX4_canHouse_147 rfl rfl ?_
              refine x_getr (Cn := RX4) (T := TX4) (N := 4) C tg_250 (by decide) rfl nX4_canHouse_4 1 (by decide) rfl kX4_canHouse_15 rfl dX4_canHouse_148 252 rfl ?_
              refine x_iload C dX4_canHouse_151 rfl ?_
              obtain ⟨g27, hf⟩ := ck_of hf
              refine x_iald (j := ((M (a6 + 1) (a7).toNatClampNeg)).toNatClampNeg) C tg_252 tl_252 g27 rfl dX4_canHouse_153 ?_
              obtain ⟨g28, hf⟩ := ck_of hf
              refine x_iast (j := (a3).toNatClampNeg) C tg_254 tl_254 g28 rfl dX4_canHouse_154 ?_
              refine x_gen hf (fun M29 hf => ?_)
              refine x_iinc (d := (1 : Int32)) (v := (a3 + (1 : Int32))) (lv' := [some (.ref (ad 250)), none, some (.ref (ad a2)), some (.int (a3 + (1 : Int32))), some (x4), some (.int a5), some (.ref (ad a6)), some (.int a7), some (.int (M (a6 + 1) (a7).toNatClampNeg))]) C dX4_canHouse_155 rfl (by decide) rfl (by decide) rfl ?_
              refine x_iinc (d := (1 : Int32)) (v := (a7 + (1 : Int32))) (lv' := [some (.ref (ad 250)), none, some (.ref (ad a2)), some (.int (a3 + (1 : Int32))), some (x4), some (.int a5), some (.ref (ad a6)), some (.int (a7 + (1 : Int32))), some (.int (M (a6 + 1) (a7).toNatClampNeg))]) C dX4_canHouse_158 rfl (by decide) rfl (by decide) rfl ?_
              refine x_goto (tgt := 61) C dX4_canHouse_161 (by decide) ?_
              exact x_weak (ih _ _ _ hf) [0, 2, 3, 4, 5, 6, 7] rfl
        · have hf := iff_ q18 hf
          refine x_goto (tgt := 158) C dX4_canHouse_104 (by decide) ?_
          refine x_iinc (d := (1 : Int32)) (v := (a7 + (1 : Int32))) (lv' := [some (.ref (ad 250)), none, some (.ref (ad a2)), some (.int a3), some (x4), some (.int a5), some (.ref (ad a6)), some (.int (a7 + (1 : Int32))), some (.int (M (a6 + 1) (a7).toNatClampNeg))]) C dX4_canHouse_158 rfl (by decide) rfl (by decide) rfl ?_
          refine x_goto (tgt := 61) C dX4_canHouse_161 (by decide) ?_
          exact x_weak (ih _ _ _ hf) [0, 2, 3, 4, 5, 6, 7] rfl

set_option maxHeartbeats 4000000 in
set_option maxRecDepth 100000 in
theorem cl_X4_canHouse_34 {p : Program} {l : Launch} {e : Env} {s : State} {m : MethodId} {args : Array Value} {below : List Frame} {meth : Method} {c : Code} {D : va_G} {cs : Nat → ClassId} {ad : Nat → Nat} (C : Cx p s m args meth c RX4 cX4_canHouse 9 wsX4_canHouse D cs ad) (hr : meth.sig.returnType = some .boolean) {a2 : Nat} {r : Int32} {M' : Mem} (t2 : tg a2 = 6) : ∀ (n : Nat) (a3 : Int32) (a4 : Int32) (M : Mem), l_X4_canHouse_34 a2 n a3 a4 M = some (r, M') → V p l e (rmk 2) s m args below meth c 9 D cs ad (QI below s args D cs ad r M') 34 [some (.ref (ad 250)), none, some (.ref (ad a2)), some (.int a3), some (.int a4), none, none, none, none] [] M := by
  intro n
  induction n with
  | zero => intro a3 a4 M hf; cases hf
  | succ n ih =>
    intro a3 a4 M hf
    rw [l_X4_canHouse_34_s] at hf
    refine x_iload C dX4_canHouse_34 rfl ?_
    refine x_iload_n C dX4_canHouse_36 rfl rfl ?_
    refine x_icmp_ge (tgt := 170) C dX4_canHouse_37 (by decide) (fun q6 => ?_) (fun q6 => ?_)
    · have hf := ift q6 hf
      refine x_iconst (v := (0 : Int32)) C dX4_canHouse_170 (by decide) ?_
      exact x_zret C hr rfl hf dX4_canHouse_171
    · have hf := iff_ q6 hf
      refine x_aload_n C dX4_canHouse_40 rfl rfl ?_
      refine x_getr (Cn := RX4) (T := TX4) (N := 4) C tg_250 (by decide) rfl nX4_canHouse_4 3 (by decide) rfl kX4_canHouse_21 rfl dX4_canHouse_41 254 rfl ?_
      refine x_iload C dX4_canHouse_44 rfl ?_
      obtain ⟨g7, hf⟩ := ck_of hf
      refine x_iald (j := (a4).toNatClampNeg) C tg_254 tl_254 g7 rfl dX4_canHouse_46 ?_
      refine x_istore (lv' := [some (.ref (ad 250)), none, some (.ref (ad a2)), some (.int a3), some (.int a4), some (.int (M 254 (a4).toNatClampNeg)), none, none, none]) C dX4_canHouse_47 (by decide) rfl ?_
      refine x_aload_n C dX4_canHouse_49 rfl rfl ?_
      refine x_getr (Cn := RX6) (T := TX6) (N := 8) C t2 (by decide) rfl nX4_canHouse_6 1 (by decide) rfl kX4_canHouse_34 rfl dX4_canHouse_50 (a2 + 2) rfl ?_
      refine x_iload C dX4_canHouse_53 rfl ?_
      obtain ⟨g8, hf⟩ := ck_of hf
      have w9 : (a2 + 2) + 14 + 2 * ((M 254 (a4).toNatClampNeg)).toNatClampNeg = (a2 + 16 + 2 * ((M 254 (a4).toNatClampNeg)).toNatClampNeg) := by omega
      have u10 : tg (a2 + 16 + 2 * ((M 254 (a4).toNatClampNeg)).toNatClampNeg) = 2 := te_H (x := (M 254 (a4).toNatClampNeg)) (tf_6_1 t2) g8 w9
      refine x_aaldH (j := ((M 254 (a4).toNatClampNeg)).toNatClampNeg) C (tf_6_1 t2) (tl_6_1 t2) g8 rfl dX4_canHouse_55 (a2 + 16 + 2 * ((M 254 (a4).toNatClampNeg)).toNatClampNeg) w9 ?_
      refine x_astore (lv' := [some (.ref (ad 250)), none, some (.ref (ad a2)), some (.int a3), some (.int a4), some (.int (M 254 (a4).toNatClampNeg)), some (.ref (ad (a2 + 16 + 2 * ((M 254 (a4).toNatClampNeg)).toNatClampNeg))), none, none]) C dX4_canHouse_56 (by decide) rfl ?_
      refine x_iconst (v := (0 : Int32)) C dX4_canHouse_58 (by decide) ?_
      refine x_istore (lv' := [some (.ref (ad 250)), none, some (.ref (ad a2)), some (.int a3), some (.int a4), some (.int (M 254 (a4).toNatClampNeg)), some (.ref (ad (a2 + 16 + 2 * ((M 254 (a4).toNatClampNeg)).toNatClampNeg))), some (.int (0 : Int32)), none]) C dX4_canHouse_59 (by decide) rfl ?_
      refine x_weak (cl_X4_canHouse_61 C hr t2 u10 (fun b3_61 M30 hf => ?_) _ _ _ _ hf) [0, 2, 3, 4, 5, 6, 7] rfl
      refine x_iinc (d := (1 : Int32)) (v := (a4 + (1 : Int32))) (lv' := [some (.ref (ad 250)), none, some (.ref (ad a2)), some (.int b3_61), some (.int (a4 + (1 : Int32))), none, none, none, none]) C dX4_canHouse_164 rfl (by decide) rfl (by decide) rfl ?_
      refine x_goto (tgt := 34) C dX4_canHouse_167 (by decide) ?_
      exact x_weak (ih _ _ _ hf) [0, 2, 3, 4] rfl

set_option maxHeartbeats 4000000 in
set_option maxRecDepth 100000 in
theorem c_X4_canHouse {a1 : Int32} {a2 : Nat} {M : Mem} {r : Int32} {M' : Mem} (t2 : tg a2 = 6) (hf : f_X4_canHouse a1 a2 M = some (r, M')) : CnI yX4_canHouse wsX4_canHouse 2 (fun ad => [.ref (ad 250), .int a1, .ref (ad a2)]) M r M' := by
  unfold f_X4_canHouse at hf
  refine x_metI (cc := cX4_canHouse) (maxL := 9) RX4 rfl (by decide) rfl (fun ad => Nat.le_of_ble_eq_true rfl) (fun ad v hv => ?_) (fun p l e s m args below meth c D cs ad C hr => ?_)
  · simp only [List.mem_cons, List.not_mem_nil, or_false] at hv
    rcases hv with rfl | rfl | rfl <;> rfl
  · show V p l e (rmk 2) s m args below meth c 9 D cs ad (QI below s args D cs ad r M') 0 [some (.ref (ad 250)), some (.int a1), some (.ref (ad a2)), none, none, none, none, none, none] [] M
    refine x_iconst (v := (0 : Int32)) C dX4_canHouse_0 (by decide) ?_
    refine x_istore_n (lv' := [some (.ref (ad 250)), some (.int a1), some (.ref (ad a2)), some (.int (0 : Int32)), none, none, none, none, none]) C dX4_canHouse_1 rfl (by decide) rfl ?_
    refine x_weak (cl_X4_canHouse_2 C hr  (fun M4 hf => ?_) _ _ _ hf) [0, 1, 2, 3] rfl
    refine x_aload_n C dX4_canHouse_22 rfl rfl ?_
    refine x_getr (Cn := RX4) (T := TX4) (N := 4) C tg_250 (by decide) rfl nX4_canHouse_4 3 (by decide) rfl kX4_canHouse_21 rfl dX4_canHouse_23 254 rfl ?_
    refine x_iconst (v := (0 : Int32)) C dX4_canHouse_26 (by decide) ?_
    refine x_iload_n C dX4_canHouse_27 rfl rfl ?_
    refine x_iast (j := 0) C tg_254 tl_254 (by decide) (by decide) dX4_canHouse_28 ?_
    refine x_gen hf (fun M5 hf => ?_)
    refine x_iconst (v := (1 : Int32)) C dX4_canHouse_29 (by decide) ?_
    refine x_istore_n (lv' := [some (.ref (ad 250)), some (.int a1), some (.ref (ad a2)), some (.int (1 : Int32)), none, none, none, none, none]) C dX4_canHouse_30 rfl (by decide) rfl ?_
    refine x_iconst (v := (0 : Int32)) C dX4_canHouse_31 (by decide) ?_
    refine x_istore (lv' := [some (.ref (ad 250)), some (.int a1), some (.ref (ad a2)), some (.int (1 : Int32)), some (.int (0 : Int32)), none, none, none, none]) C dX4_canHouse_32 (by decide) rfl ?_
    exact x_weak (cl_X4_canHouse_34 C hr t2 _ _ _ _ hf) [0, 2, 3, 4] rfl

theorem kX5_countHouseholds_21 : Cond.fieldLink RX5 21 "FlatLottery$Rings" "size" "I" ∈ wsX5_countHouseholds := List.mem_of_getElem? (i := 1) rfl
theorem nX5_countHouseholds_5 : ∀ w ∈ u_ws RX5 TX5 2, w ∈ wsX5_countHouseholds := in_r [12, 13] (by decide +kernel)
set_option maxHeartbeats 4000000 in
set_option maxRecDepth 100000 in
theorem cl_X5_countHouseholds_4 {p : Program} {l : Launch} {e : Env} {s : State} {m : MethodId} {args : Array Value} {below : List Frame} {meth : Method} {c : Code} {D : va_G} {cs : Nat → ClassId} {ad : Nat → Nat} (C : Cx p s m args meth c RX5 cX5_countHouseholds 3 wsX5_countHouseholds D cs ad) (hr : meth.sig.returnType = some .int)  {r : Int32} {M' : Mem}  : ∀ (n : Nat) (a1 : Int32) (a2 : Int32) (M : Mem), l_X5_countHouseholds_4 n a1 a2 M = some (r, M') → V p l e (rmk 2) s m args below meth c 3 D cs ad (QI below s args D cs ad r M') 4 [some (.ref (ad 248)), some (.int a1), some (.int a2)] [] M := by
  intro n
  induction n with
  | zero => intro a1 a2 M hf; cases hf
  | succ n ih =>
    intro a1 a2 M hf
    rw [l_X5_countHouseholds_4_s] at hf
    refine x_iload_n C dX5_countHouseholds_4 rfl rfl ?_
    refine x_aload_n C dX5_countHouseholds_5 rfl rfl ?_
    refine x_geti (Cn := RX5) (T := TX5) (N := 2) C tg_248 (by decide) rfl nX5_countHouseholds_5 1 (by decide) rfl kX5_countHouseholds_21 rfl dX5_countHouseholds_6 ?_
    refine x_icmp_ge (tgt := 29) C dX5_countHouseholds_9 (by decide) (fun q1 => ?_) (fun q1 => ?_)
    · have hf := ift q1 hf
      refine x_iload_n C dX5_countHouseholds_29 rfl rfl ?_
      exact x_iret C hr hf dX5_countHouseholds_30
    · have hf := iff_ q1 hf
      refine x_aload_n C dX5_countHouseholds_12 rfl rfl ?_
      refine x_iload_n C dX5_countHouseholds_13 rfl rfl ?_
      obtain ⟨r2, M3, e4, hf⟩ := bd_of hf
      refine x_callV (n := 1) (Cn := RX5) (T := TX5) (N := 2) (As := [.int a2]) (rest := []) (maxL := 4) (ret := (some .boolean)) C (c_X5_isInRing  e4) gX5_countHouseholds_X5_isInRing rfl (by decide +kernel) ⟨Nat.le_of_ble_eq_true rfl, Nat.le_of_ble_eq_true rfl⟩ tg_248 (by decide) rfl rfl rfl rfl (Nat.le_of_ble_eq_true rfl) dX5_countHouseholds_14 ?_
      refine x_if_eq (tgt := 23) C dX5_countHouseholds_17 (by decide) (fun q5 => ?_) (fun q5 => ?_)
      · have hf := ift q5 hf
        refine x_iinc (d := (1 : Int32)) (v := (a2 + (1 : Int32))) (lv' := [some (.ref (ad 248)), some (.int a1), some (.int (a2 + (1 : Int32)))]) C dX5_countHouseholds_23 rfl (by decide) rfl (by decide) rfl ?_
        refine x_goto (tgt := 4) C dX5_countHouseholds_26 (by decide) ?_
        exact x_weak (ih _ _ _ hf) [0, 1, 2] rfl
      · have hf := iff_ q5 hf
        refine x_iinc (d := (1 : Int32)) (v := (a1 + (1 : Int32))) (lv' := [some (.ref (ad 248)), some (.int (a1 + (1 : Int32))), some (.int a2)]) C dX5_countHouseholds_20 rfl (by decide) rfl (by decide) rfl ?_
        refine x_iinc (d := (1 : Int32)) (v := (a2 + (1 : Int32))) (lv' := [some (.ref (ad 248)), some (.int (a1 + (1 : Int32))), some (.int (a2 + (1 : Int32)))]) C dX5_countHouseholds_23 rfl (by decide) rfl (by decide) rfl ?_
        refine x_goto (tgt := 4) C dX5_countHouseholds_26 (by decide) ?_
        exact x_weak (ih _ _ _ hf) [0, 1, 2] rfl

set_option maxHeartbeats 4000000 in
set_option maxRecDepth 100000 in
theorem c_X5_countHouseholds  {M : Mem} {r : Int32} {M' : Mem}  (hf : f_X5_countHouseholds  M = some (r, M')) : CnI yX5_countHouseholds wsX5_countHouseholds 2 (fun ad => [.ref (ad 248)]) M r M' := by
  unfold f_X5_countHouseholds at hf
  refine x_metI (cc := cX5_countHouseholds) (maxL := 3) RX5 rfl (by decide) rfl (fun ad => Nat.le_of_ble_eq_true rfl) (fun ad v hv => ?_) (fun p l e s m args below meth c D cs ad C hr => ?_)
  · simp only [List.mem_cons, List.not_mem_nil, or_false] at hv
    rcases hv with rfl <;> rfl
  · show V p l e (rmk 2) s m args below meth c 3 D cs ad (QI below s args D cs ad r M') 0 [some (.ref (ad 248)), none, none] [] M
    refine x_iconst (v := (0 : Int32)) C dX5_countHouseholds_0 (by decide) ?_
    refine x_istore_n (lv' := [some (.ref (ad 248)), some (.int (0 : Int32)), none]) C dX5_countHouseholds_1 rfl (by decide) rfl ?_
    refine x_iconst (v := (0 : Int32)) C dX5_countHouseholds_2 (by decide) ?_
    refine x_istore_n (lv' := [some (.ref (ad 248)), some (.int (0 : Int32)), some (.int (0 : Int32))]) C dX5_countHouseholds_3 rfl (by decide) rfl ?_
    exact x_weak (cl_X5_countHouseholds_4 C hr  _ _ _ _ hf) [0, 1, 2] rfl

