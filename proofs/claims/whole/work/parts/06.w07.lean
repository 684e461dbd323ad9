theorem kX7_readLists_10 : Cond.fieldLink RX7 10 "FlatLottery" "state" "LFlatLottery$State;" ∈ wsX7_readLists := List.mem_of_getElem? (i := 2) rfl
theorem kX7_readLists_26 : Cond.fieldLink RX7 26 "FlatLottery" "history" "LFlatLottery$History;" ∈ wsX7_readLists := List.mem_of_getElem? (i := 3) rfl
theorem kX7_readLists_33 : Cond.fieldLink RX7 33 "FlatLottery" "text" "LFlatLottery$ListText;" ∈ wsX7_readLists := List.mem_of_getElem? (i := 1) rfl
theorem kX7_readLists_130 : Cond.fieldLink RX7 130 "FlatLottery$ListText" "listCount" "I" ∈ wsX7_readLists := List.mem_of_getElem? (i := 4) rfl
theorem nX7_readLists_3 : ∀ w ∈ u_ws RX3 TX3 7, w ∈ wsX7_readLists := in_r [110, 111, 112, 113, 114, 115, 116] (by decide +kernel)
theorem nX7_readLists_7 : ∀ w ∈ u_ws RX7 TX7 7, w ∈ wsX7_readLists := in_r [103, 104, 105, 106, 107, 108, 109] (by decide +kernel)
set_option maxHeartbeats 4000000 in
set_option maxRecDepth 100000 in
theorem c_X7_readLists  {M : Mem} {r : Int32} {M' : Mem}  (hf : f_X7_readLists  M = some (r, M')) : CnI yX7_readLists wsX7_readLists 5 (fun ad => [.ref (ad 0)]) M r M' := by
  unfold f_X7_readLists at hf
  refine x_metI (cc := cX7_readLists) (maxL := 2) RX7 rfl (by decide) rfl (fun ad => Nat.le_of_ble_eq_true rfl) (fun ad v hv => ?_) (fun p l e s m args below meth c D cs ad C hr => ?_)
  · simp only [List.mem_cons, List.not_mem_nil, or_false] at hv
    rcases hv with rfl <;> rfl
  · show V p l e (rmk 5) s m args below meth c 2 D cs ad (QI below s args D cs ad r M') 0 [some (.ref (ad 0)), none] [] M
    refine x_aload_n C dX7_readLists_0 rfl rfl ?_
    refine x_getr (Cn := RX7) (T := TX7) (N := 7) C tg_0 (by decide) rfl nX7_readLists_7 4 (by decide) rfl kX7_readLists_33 rfl dX7_readLists_1 243 rfl ?_
    obtain ⟨r1, M2, e3, hf⟩ := bd_of hf
    refine x_callV (n := 0) (Cn := RX3) (T := TX3) (N := 7) (As := []) (rest := []) (maxL := 1) (ret := (some .int)) C (c_X3_findFault  e3) gX7_readLists_X3_findFault rfl (by decide +kernel) ⟨Nat.le_of_ble_eq_true rfl, Nat.le_of_ble_eq_true rfl⟩ tg_243 (by decide) rfl rfl rfl rfl (Nat.le_of_ble_eq_true rfl) dX7_readLists_4 ?_
    refine x_istore_n (lv' := [some (.ref (ad 0)), some (.int r1)]) C dX7_readLists_7 rfl (by decide) rfl ?_
    refine x_iload_n C dX7_readLists_8 rfl rfl ?_
    refine x_bipush (v := (-5 : Int32)) C dX7_readLists_9 (by decide) ?_
    refine x_icmp_eq (tgt := 19) C dX7_readLists_11 (by decide) (fun q4 => ?_) (fun q4 => ?_)
    · have hf := ift q4 hf
      refine x_aload_n C dX7_readLists_19 rfl rfl ?_
      refine x_getr (Cn := RX7) (T := TX7) (N := 7) C tg_0 (by decide) rfl nX7_readLists_7 4 (by decide) rfl kX7_readLists_33 rfl dX7_readLists_20 243 rfl ?_
      refine x_aload_n C dX7_readLists_23 rfl rfl ?_
      refine x_getr (Cn := RX7) (T := TX7) (N := 7) C tg_0 (by decide) rfl nX7_readLists_7 0 (by decide) rfl kX7_readLists_10 rfl dX7_readLists_24 1 rfl ?_
      obtain ⟨r5, M6, e7, hf⟩ := bd_of hf
      refine x_callV (n := 1) (Cn := RX3) (T := TX3) (N := 7) (As := [.ref (ad 1)]) (rest := []) (maxL := 4) (ret := (some .boolean)) C (c_X3_namesOnlyKnown tg_1 e7) gX7_readLists_X3_namesOnlyKnown rfl (by decide +kernel) ⟨Nat.le_of_ble_eq_true rfl, Nat.le_of_ble_eq_true rfl⟩ tg_243 (by decide) rfl rfl rfl rfl (Nat.le_of_ble_eq_true rfl) dX7_readLists_27 ?_
      refine x_if_ne (tgt := 35) C dX7_readLists_30 (by decide) (fun q8 => ?_) (fun q8 => ?_)
      · have hf := ift q8 hf
        refine x_iconst (v := (-1 : Int32)) C dX7_readLists_33 (by decide) ?_
        exact x_iret C hr hf dX7_readLists_34
      · have hf := iff_ q8 hf
        refine x_aload_n C dX7_readLists_35 rfl rfl ?_
        refine x_getr (Cn := RX7) (T := TX7) (N := 7) C tg_0 (by decide) rfl nX7_readLists_7 4 (by decide) rfl kX7_readLists_33 rfl dX7_readLists_36 243 rfl ?_
        obtain ⟨r9, M10, e11, hf⟩ := bd_of hf
        refine x_callV (n := 0) (Cn := RX3) (T := TX3) (N := 7) (As := []) (rest := []) (maxL := 5) (ret := (some .boolean)) C (c_X3_hasFlatTwiceInList  e11) gX7_readLists_X3_hasFlatTwiceInList rfl (by decide +kernel) ⟨Nat.le_of_ble_eq_true rfl, Nat.le_of_ble_eq_true rfl⟩ tg_243 (by decide) rfl rfl rfl rfl (Nat.le_of_ble_eq_true rfl) dX7_readLists_39 ?_
        refine x_if_eq (tgt := 48) C dX7_readLists_42 (by decide) (fun q12 => ?_) (fun q12 => ?_)
        · have hf := ift q12 hf
          refine x_aload_n C dX7_readLists_48 rfl rfl ?_
          refine x_getr (Cn := RX7) (T := TX7) (N := 7) C tg_0 (by decide) rfl nX7_readLists_7 3 (by decide) rfl kX7_readLists_26 rfl dX7_readLists_49 81 rfl ?_
          refine x_aload_n C dX7_readLists_52 rfl rfl ?_
          refine x_getr (Cn := RX7) (T := TX7) (N := 7) C tg_0 (by decide) rfl nX7_readLists_7 0 (by decide) rfl kX7_readLists_10 rfl dX7_readLists_53 1 rfl ?_
          obtain ⟨r13, M14, e15, hf⟩ := bd_of hf
          refine x_callVv (n := 1) (Cn := RX1) (T := TX1) (N := 2) (As := [.ref (ad 1)]) (rest := []) (maxL := 2) (ret := none) C (c_X1_record tg_1 e15) gX7_readLists_X1_record rfl (by decide +kernel) ⟨Nat.le_of_ble_eq_true rfl, Nat.le_of_ble_eq_true rfl⟩ tg_81 (by decide) rfl rfl rfl rfl (Nat.le_of_ble_eq_true rfl) dX7_readLists_56 ?_
          refine x_aload_n C dX7_readLists_59 rfl rfl ?_
          refine x_getr (Cn := RX7) (T := TX7) (N := 7) C tg_0 (by decide) rfl nX7_readLists_7 4 (by decide) rfl kX7_readLists_33 rfl dX7_readLists_60 243 rfl ?_
          refine x_aload_n C dX7_readLists_63 rfl rfl ?_
          refine x_getr (Cn := RX7) (T := TX7) (N := 7) C tg_0 (by decide) rfl nX7_readLists_7 0 (by decide) rfl kX7_readLists_10 rfl dX7_readLists_64 1 rfl ?_
          obtain ⟨r16, M17, e18, hf⟩ := bd_of hf
          refine x_callVv (n := 1) (Cn := RX3) (T := TX3) (N := 7) (As := [.ref (ad 1)]) (rest := []) (maxL := 6) (ret := none) C (c_X3_layLists tg_1 e18) gX7_readLists_X3_layLists rfl (by decide +kernel) ⟨Nat.le_of_ble_eq_true rfl, Nat.le_of_ble_eq_true rfl⟩ tg_243 (by decide) rfl rfl rfl rfl (Nat.le_of_ble_eq_true rfl) dX7_readLists_67 ?_
          refine x_aload_n C dX7_readLists_70 rfl rfl ?_
          refine x_getr (Cn := RX7) (T := TX7) (N := 7) C tg_0 (by decide) rfl nX7_readLists_7 4 (by decide) rfl kX7_readLists_33 rfl dX7_readLists_71 243 rfl ?_
          refine x_geti (Cn := RX3) (T := TX3) (N := 7) C tg_243 (by decide) rfl nX7_readLists_3 2 (by decide) rfl kX7_readLists_130 rfl dX7_readLists_74 ?_
          exact x_iret C hr hf dX7_readLists_77
        · have hf := iff_ q12 hf
          refine x_bipush (v := (-2 : Int32)) C dX7_readLists_45 (by decide) ?_
          exact x_iret C hr hf dX7_readLists_47
    · have hf := iff_ q4 hf
      refine x_bipush (v := (-100 : Int32)) C dX7_readLists_14 (by decide) ?_
      refine x_iload_n C dX7_readLists_16 rfl rfl ?_
      refine x_isub C dX7_readLists_17 ?_
      exact x_iret C hr hf dX7_readLists_18

theorem kX7_swap_10 : Cond.fieldLink RX7 10 "FlatLottery" "state" "LFlatLottery$State;" ∈ wsX7_swap := List.mem_of_getElem? (i := 2) rfl
theorem kX7_swap_26 : Cond.fieldLink RX7 26 "FlatLottery" "history" "LFlatLottery$History;" ∈ wsX7_swap := List.mem_of_getElem? (i := 3) rfl
theorem kX7_swap_40 : Cond.fieldLink RX7 40 "FlatLottery" "rings" "LFlatLottery$Rings;" ∈ wsX7_swap := List.mem_of_getElem? (i := 1) rfl
theorem nX7_swap_7 : ∀ w ∈ u_ws RX7 TX7 7, w ∈ wsX7_swap := in_r [113, 114, 115, 116, 117, 118, 119] (by decide +kernel)
set_option maxHeartbeats 4000000 in
set_option maxRecDepth 100000 in
theorem c_X7_swap  {M : Mem} {r : Int32} {M' : Mem}  (hf : f_X7_swap  M = some (r, M')) : CnI yX7_swap wsX7_swap 5 (fun ad => [.ref (ad 0)]) M r M' := by
  unfold f_X7_swap at hf
  refine x_metI (cc := cX7_swap) (maxL := 1) RX7 rfl (by decide) rfl (fun ad => Nat.le_of_ble_eq_true rfl) (fun ad v hv => ?_) (fun p l e s m args below meth c D cs ad C hr => ?_)
  · simp only [List.mem_cons, List.not_mem_nil, or_false] at hv
    rcases hv with rfl <;> rfl
  · show V p l e (rmk 5) s m args below meth c 1 D cs ad (QI below s args D cs ad r M') 0 [some (.ref (ad 0))] [] M
    refine x_aload_n C dX7_swap_0 rfl rfl ?_
    refine x_getr (Cn := RX7) (T := TX7) (N := 7) C tg_0 (by decide) rfl nX7_swap_7 5 (by decide) rfl kX7_swap_40 rfl dX7_swap_1 248 rfl ?_
    refine x_aload_n C dX7_swap_4 rfl rfl ?_
    refine x_getr (Cn := RX7) (T := TX7) (N := 7) C tg_0 (by decide) rfl nX7_swap_7 0 (by decide) rfl kX7_swap_10 rfl dX7_swap_5 1 rfl ?_
    obtain ⟨r1, M2, e3, hf⟩ := bd_of hf
    refine x_callVv (n := 1) (Cn := RX5) (T := TX5) (N := 2) (As := [.ref (ad 1)]) (rest := []) (maxL := 3) (ret := none) C (c_X5_lookAt tg_1 e3) gX7_swap_X5_lookAt rfl (by decide +kernel) ⟨Nat.le_of_ble_eq_true rfl, Nat.le_of_ble_eq_true rfl⟩ tg_248 (by decide) rfl rfl rfl rfl (Nat.le_of_ble_eq_true rfl) dX7_swap_8 ?_
    refine x_aload_n C dX7_swap_11 rfl rfl ?_
    refine x_getr (Cn := RX7) (T := TX7) (N := 7) C tg_0 (by decide) rfl nX7_swap_7 5 (by decide) rfl kX7_swap_40 rfl dX7_swap_12 248 rfl ?_
    obtain ⟨r4, M5, e6, hf⟩ := bd_of hf
    refine x_callV (n := 0) (Cn := RX5) (T := TX5) (N := 2) (As := []) (rest := []) (maxL := 2) (ret := (some .int)) C (c_X5_lowestHousehold  e6) gX7_swap_X5_lowestHousehold rfl (by decide +kernel) ⟨Nat.le_of_ble_eq_true rfl, Nat.le_of_ble_eq_true rfl⟩ tg_248 (by decide) rfl rfl rfl rfl (Nat.le_of_ble_eq_true rfl) dX7_swap_15 ?_
    refine x_bipush (v := (-5 : Int32)) C dX7_swap_18 (by decide) ?_
    refine x_icmp_ne (tgt := 26) C dX7_swap_20 (by decide) (fun q7 => ?_) (fun q7 => ?_)
    · have hf := ift q7 hf
      refine x_bipush (v := (-5 : Int32)) C dX7_swap_23 (by decide) ?_
      exact x_iret C hr hf dX7_swap_25
    · have hf := iff_ q7 hf
      refine x_aload_n C dX7_swap_26 rfl rfl ?_
      refine x_getr (Cn := RX7) (T := TX7) (N := 7) C tg_0 (by decide) rfl nX7_swap_7 3 (by decide) rfl kX7_swap_26 rfl dX7_swap_27 81 rfl ?_
      refine x_aload_n C dX7_swap_30 rfl rfl ?_
      refine x_getr (Cn := RX7) (T := TX7) (N := 7) C tg_0 (by decide) rfl nX7_swap_7 0 (by decide) rfl kX7_swap_10 rfl dX7_swap_31 1 rfl ?_
      obtain ⟨r8, M9, e10, hf⟩ := bd_of hf
      refine x_callVv (n := 1) (Cn := RX1) (T := TX1) (N := 2) (As := [.ref (ad 1)]) (rest := []) (maxL := 2) (ret := none) C (c_X1_record tg_1 e10) gX7_swap_X1_record rfl (by decide +kernel) ⟨Nat.le_of_ble_eq_true rfl, Nat.le_of_ble_eq_true rfl⟩ tg_81 (by decide) rfl rfl rfl rfl (Nat.le_of_ble_eq_true rfl) dX7_swap_34 ?_
      refine x_aload_n C dX7_swap_37 rfl rfl ?_
      refine x_getr (Cn := RX7) (T := TX7) (N := 7) C tg_0 (by decide) rfl nX7_swap_7 5 (by decide) rfl kX7_swap_40 rfl dX7_swap_38 248 rfl ?_
      refine x_aload_n C dX7_swap_41 rfl rfl ?_
      refine x_getr (Cn := RX7) (T := TX7) (N := 7) C tg_0 (by decide) rfl nX7_swap_7 0 (by decide) rfl kX7_swap_10 rfl dX7_swap_42 1 rfl ?_
      obtain ⟨r11, M12, e13, hf⟩ := bd_of hf
      refine x_callV (n := 1) (Cn := RX5) (T := TX5) (N := 2) (As := [.ref (ad 1)]) (rest := []) (maxL := 5) (ret := (some .int)) C (c_X5_swapAll tg_1 e13) gX7_swap_X5_swapAll rfl (by decide +kernel) ⟨Nat.le_of_ble_eq_true rfl, Nat.le_of_ble_eq_true rfl⟩ tg_248 (by decide) rfl rfl rfl rfl (Nat.le_of_ble_eq_true rfl) dX7_swap_45 ?_
      exact x_iret C hr hf dX7_swap_48

set_option maxHeartbeats 4000000 in
set_option maxRecDepth 100000 in
theorem c_X8_envies {a1 : Int32} {a2 : Int32} {M : Mem} {r : Int32} {M' : Mem}  (hf : f_X8_envies a1 a2 M = some (r, M')) : CnI yX8_envies wsX8_envies 5 (fun ad => [.ref (ad 255), .int a1, .int a2]) M r M' := by
  unfold f_X8_envies at hf
  refine x_metI (cc := cX8_envies) (maxL := 3) RX8 rfl (by decide) rfl (fun ad => Nat.le_of_ble_eq_true rfl) (fun ad v hv => ?_) (fun p l e s m args below meth c D cs ad C hr => ?_)
  · simp only [List.mem_cons, List.not_mem_nil, or_false] at hv
    rcases hv with rfl | rfl | rfl <;> rfl
  · show V p l e (rmk 5) s m args below meth c 3 D cs ad (QI below s args D cs ad r M') 0 [some (.ref (ad 255)), some (.int a1), some (.int a2)] [] M
    refine x_aload_n C dX8_envies_0 rfl rfl ?_
    refine x_iload_n C dX8_envies_1 rfl rfl ?_
    obtain ⟨r1, M2, e3, hf⟩ := bd_of hf
    refine x_callV (n := 1) (Cn := RX8) (T := TX8) (N := 13) (As := [.int a1]) (rest := []) (maxL := 2) (ret := (some .boolean)) C (c_X8_isHome  e3) gX8_envies_X8_isHome rfl (by decide +kernel) ⟨Nat.le_of_ble_eq_true rfl, Nat.le_of_ble_eq_true rfl⟩ tg_255 (by decide) rfl rfl rfl rfl (Nat.le_of_ble_eq_true rfl) dX8_envies_2 ?_
    refine x_if_eq (tgt := 16) C dX8_envies_5 (by decide) (fun q4 => ?_) (fun q4 => ?_)
    · have hf := ift q4 hf
      refine x_iconst (v := (-1 : Int32)) C dX8_envies_16 (by decide) ?_
      exact x_iret C hr hf dX8_envies_17
    · have hf := iff_ q4 hf
      refine x_aload_n C dX8_envies_8 rfl rfl ?_
      refine x_iload_n C dX8_envies_9 rfl rfl ?_
      obtain ⟨r5, M6, e7, hf⟩ := bd_of hf
      refine x_callV (n := 1) (Cn := RX8) (T := TX8) (N := 13) (As := [.int a2]) (rest := []) (maxL := 2) (ret := (some .boolean)) C (c_X8_isHome  e7) gX8_envies_X8_isHome rfl (by decide +kernel) ⟨Nat.le_of_ble_eq_true rfl, Nat.le_of_ble_eq_true rfl⟩ tg_255 (by decide) rfl rfl rfl rfl (Nat.le_of_ble_eq_true rfl) dX8_envies_10 ?_
      refine x_if_ne (tgt := 18) C dX8_envies_13 (by decide) (fun q8 => ?_) (fun q8 => ?_)
      · have hf := ift q8 hf
        refine x_iconst (v := (-1 : Int32)) C dX8_envies_16 (by decide) ?_
        exact x_iret C hr hf dX8_envies_17
      · have hf := iff_ q8 hf
        refine x_iload_n C dX8_envies_18 rfl rfl ?_
        refine x_iload_n C dX8_envies_19 rfl rfl ?_
        refine x_icmp_ne (tgt := 28) C dX8_envies_20 (by decide) (fun q9 => ?_) (fun q9 => ?_)
        · have hf := ift q9 hf
          refine x_bipush (v := (-2 : Int32)) C dX8_envies_23 (by decide) ?_
          refine x_goto (tgt := 34) C dX8_envies_25 (by decide) ?_
          exact x_iret C hr hf dX8_envies_34
        · have hf := iff_ q9 hf
          refine x_aload_n C dX8_envies_28 rfl rfl ?_
          refine x_iload_n C dX8_envies_29 rfl rfl ?_
          refine x_iload_n C dX8_envies_30 rfl rfl ?_
          obtain ⟨r10, M11, e12, hf⟩ := bd_of hf
          refine x_callV (n := 2) (Cn := RX8) (T := TX8) (N := 13) (As := [.int a1, .int a2]) (rest := []) (maxL := 3) (ret := (some .int)) C (c_X8_envy  e12) gX8_envies_X8_envy rfl (by decide +kernel) ⟨Nat.le_of_ble_eq_true rfl, Nat.le_of_ble_eq_true rfl⟩ tg_255 (by decide) rfl rfl rfl rfl (Nat.le_of_ble_eq_true rfl) dX8_envies_31 ?_
          exact x_iret C hr hf dX8_envies_34

set_option maxHeartbeats 4000000 in
set_option maxRecDepth 100000 in
theorem c_X8_holds {a1 : Int32} {a2 : Int32} {M : Mem} {r : Int32} {M' : Mem}  (hf : f_X8_holds a1 a2 M = some (r, M')) : CnI yX8_holds wsX8_holds 5 (fun ad => [.ref (ad 255), .int a1, .int a2]) M r M' := by
  unfold f_X8_holds at hf
  refine x_metI (cc := cX8_holds) (maxL := 4) RX8 rfl (by decide) rfl (fun ad => Nat.le_of_ble_eq_true rfl) (fun ad v hv => ?_) (fun p l e s m args below meth c D cs ad C hr => ?_)
  · simp only [List.mem_cons, List.not_mem_nil, or_false] at hv
    rcases hv with rfl | rfl | rfl <;> rfl
  · show V p l e (rmk 5) s m args below meth c 4 D cs ad (QI below s args D cs ad r M') 0 [some (.ref (ad 255)), some (.int a1), some (.int a2), none] [] M
    refine x_aload_n C dX8_holds_0 rfl rfl ?_
    refine x_iload_n C dX8_holds_1 rfl rfl ?_
    refine x_iconst (v := (4 : Int32)) C dX8_holds_2 (by decide) ?_
    obtain ⟨r1, M2, e3, hf⟩ := bd_of hf
    refine x_callV (n := 2) (Cn := RX8) (T := TX8) (N := 13) (As := [.int a1, .int (4 : Int32)]) (rest := []) (maxL := 3) (ret := (some .int)) C (c_X8_of  e3) gX8_holds_X8_of rfl (by decide +kernel) ⟨Nat.le_of_ble_eq_true rfl, Nat.le_of_ble_eq_true rfl⟩ tg_255 (by decide) rfl rfl rfl rfl (Nat.le_of_ble_eq_true rfl) dX8_holds_3 ?_
    refine x_istore_n (lv' := [some (.ref (ad 255)), some (.int a1), some (.int a2), some (.int r1)]) C dX8_holds_6 rfl (by decide) rfl ?_
    refine x_iload_n C dX8_holds_7 rfl rfl ?_
    by_cases q4 : a2 = (0 : Int32)
    · have hf := ift q4 hf
      refine x_lookup (off := 28) (tgt := 36) C dX8_holds_8 (by decide) (by rw [q4]; rfl) (by decide) ?_
      refine x_aload_n C dX8_holds_36 rfl rfl ?_
      refine x_iload_n C dX8_holds_37 rfl rfl ?_
      obtain ⟨r5, M6, e7, hf⟩ := bd_of hf
      refine x_callV (n := 1) (Cn := RX8) (T := TX8) (N := 13) (As := [.int a1]) (rest := []) (maxL := 2) (ret := (some .boolean)) C (c_X8_isDrawn  e7) gX8_holds_X8_isDrawn rfl (by decide +kernel) ⟨Nat.le_of_ble_eq_true rfl, Nat.le_of_ble_eq_true rfl⟩ tg_255 (by decide) rfl rfl rfl rfl (Nat.le_of_ble_eq_true rfl) dX8_holds_38 ?_
      refine x_if_eq (tgt := 64) C dX8_holds_41 (by decide) (fun q8 => ?_) (fun q8 => ?_)
      · have hf := ift q8 hf
        refine x_iconst (v := (0 : Int32)) C dX8_holds_64 (by decide) ?_
        exact x_zret C hr rfl hf dX8_holds_65
      · have hf := iff_ q8 hf
        refine x_iload_n C dX8_holds_44 rfl rfl ?_
        refine x_bipush (v := (-5 : Int32)) C dX8_holds_45 (by decide) ?_
        refine x_icmp_ne (tgt := 64) C dX8_holds_47 (by decide) (fun q9 => ?_) (fun q9 => ?_)
        · have hf := ift q9 hf
          refine x_aload_n C dX8_holds_50 rfl rfl ?_
          refine x_iload_n C dX8_holds_51 rfl rfl ?_
          refine x_bipush (v := (6 : Int32)) C dX8_holds_52 (by decide) ?_
          obtain ⟨r10, M11, e12, hf⟩ := bd_of hf
          refine x_callV (n := 2) (Cn := RX8) (T := TX8) (N := 13) (As := [.int a1, .int (6 : Int32)]) (rest := []) (maxL := 3) (ret := (some .int)) C (c_X8_of  e12) gX8_holds_X8_of rfl (by decide +kernel) ⟨Nat.le_of_ble_eq_true rfl, Nat.le_of_ble_eq_true rfl⟩ tg_255 (by decide) rfl rfl rfl rfl (Nat.le_of_ble_eq_true rfl) dX8_holds_54 ?_
          refine x_if_le (tgt := 64) C dX8_holds_57 (by decide) (fun q13 => ?_) (fun q13 => ?_)
          · have hf := ift q13 hf
            refine x_iconst (v := (0 : Int32)) C dX8_holds_64 (by decide) ?_
            exact x_zret C hr rfl hf dX8_holds_65
          · have hf := iff_ q13 hf
            refine x_iconst (v := (1 : Int32)) C dX8_holds_60 (by decide) ?_
            refine x_goto (tgt := 65) C dX8_holds_61 (by decide) ?_
            exact x_zret C hr rfl hf dX8_holds_65
        · have hf := iff_ q9 hf
          refine x_iconst (v := (0 : Int32)) C dX8_holds_64 (by decide) ?_
          exact x_zret C hr rfl hf dX8_holds_65
    · have hf := iff_ q4 hf
      by_cases q14 : a2 = (1 : Int32)
      · have hf := ift q14 hf
        refine x_lookup (off := 58) (tgt := 66) C dX8_holds_8 (by decide) (by show Op.lookupswitch.offset [(0, 28), (1, 58)] _ _ = _; rw [lv_osw q4 (a := 0) (by decide)]; rw [q14]; rfl) (by decide) ?_
        refine x_iload_n C dX8_holds_66 rfl rfl ?_
        refine x_bipush (v := (-5 : Int32)) C dX8_holds_67 (by decide) ?_
        refine x_icmp_eq (tgt := 92) C dX8_holds_69 (by decide) (fun q15 => ?_) (fun q15 => ?_)
        · have hf := ift q15 hf
          refine x_iconst (v := (0 : Int32)) C dX8_holds_92 (by decide) ?_
          exact x_zret C hr rfl hf dX8_holds_93
        · have hf := iff_ q15 hf
          refine x_aload_n C dX8_holds_72 rfl rfl ?_
          refine x_iload_n C dX8_holds_73 rfl rfl ?_
          refine x_iconst (v := (0 : Int32)) C dX8_holds_74 (by decide) ?_
          obtain ⟨r16, M17, e18, hf⟩ := bd_of hf
          refine x_callV (n := 2) (Cn := RX8) (T := TX8) (N := 13) (As := [.int a1, .int (0 : Int32)]) (rest := []) (maxL := 3) (ret := (some .int)) C (c_X8_of  e18) gX8_holds_X8_of rfl (by decide +kernel) ⟨Nat.le_of_ble_eq_true rfl, Nat.le_of_ble_eq_true rfl⟩ tg_255 (by decide) rfl rfl rfl rfl (Nat.le_of_ble_eq_true rfl) dX8_holds_75 ?_
          refine x_aload_n C dX8_holds_78 rfl rfl ?_
          refine x_iload_n C dX8_holds_79 rfl rfl ?_
          obtain ⟨r19, M20, e21, hf⟩ := bd_of hf
          refine x_callV (n := 1) (Cn := RX8) (T := TX8) (N := 13) (As := [.int r1]) (rest := [.int r16]) (maxL := 2) (ret := (some .int)) C (c_X8_rooms  e21) gX8_holds_X8_rooms rfl (by decide +kernel) ⟨Nat.le_of_ble_eq_true rfl, Nat.le_of_ble_eq_true rfl⟩ tg_255 (by decide) rfl rfl rfl rfl (Nat.le_of_ble_eq_true rfl) dX8_holds_80 ?_
          refine x_iconst (v := (1 : Int32)) C dX8_holds_83 (by decide) ?_
          refine x_iadd C dX8_holds_84 ?_
          refine x_icmp_le (tgt := 92) C dX8_holds_85 (by decide) (fun q22 => ?_) (fun q22 => ?_)
          · have hf := ift q22 hf
            refine x_iconst (v := (0 : Int32)) C dX8_holds_92 (by decide) ?_
            exact x_zret C hr rfl hf dX8_holds_93
          · have hf := iff_ q22 hf
            refine x_iconst (v := (1 : Int32)) C dX8_holds_88 (by decide) ?_
            refine x_goto (tgt := 93) C dX8_holds_89 (by decide) ?_
            exact x_zret C hr rfl hf dX8_holds_93
      · have hf := iff_ q14 hf
        refine x_lookup (off := 86) (tgt := 94) C dX8_holds_8 (by decide) (by rw [show Op.lookupswitch.offset _ _ _ = _ from lv_osw q4 (a := 0) (by decide), show Op.lookupswitch.offset _ _ _ = _ from lv_osw q14 (a := 1) (by decide)]; rfl) (by decide) ?_
        refine x_aload_n C dX8_holds_94 rfl rfl ?_
        refine x_iload_n C dX8_holds_95 rfl rfl ?_
        obtain ⟨r23, M24, e25, hf⟩ := bd_of hf
        refine x_callV (n := 1) (Cn := RX8) (T := TX8) (N := 13) (As := [.int a1]) (rest := []) (maxL := 4) (ret := (some .boolean)) C (c_X8_isWronged  e25) gX8_holds_X8_isWronged rfl (by decide +kernel) ⟨Nat.le_of_ble_eq_true rfl, Nat.le_of_ble_eq_true rfl⟩ tg_255 (by decide) rfl rfl rfl rfl (Nat.le_of_ble_eq_true rfl) dX8_holds_96 ?_
        obtain ⟨g26, hf⟩ := ck_of hf
        exact x_zret C hr (isb_nar g26) hf dX8_holds_99

theorem kX8_inRings_7 : Cond.fieldLink RX8 7 "FlatLotteryModel" "s" "[I" ∈ wsX8_inRings := List.mem_of_getElem? (i := 1) rfl
theorem nX8_inRings_8 : ∀ w ∈ u_ws RX8 TX8 13, w ∈ wsX8_inRings := in_r [39, 40, 41, 42, 43, 44, 45, 46, 47, 48, 49, 50, 51] (by decide +kernel)
set_option maxHeartbeats 4000000 in
set_option maxRecDepth 100000 in
theorem cl_X8_inRings_4 {p : Program} {l : Launch} {e : Env} {s : State} {m : MethodId} {args : Array Value} {below : List Frame} {meth : Method} {c : Code} {D : va_G} {cs : Nat → ClassId} {ad : Nat → Nat} (C : Cx p s m args meth c RX8 cX8_inRings 3 wsX8_inRings D cs ad) (hr : meth.sig.returnType = some .int)  {r : Int32} {M' : Mem}  : ∀ (n : Nat) (a1 : Int32) (a2 : Int32) (M : Mem), l_X8_inRings_4 n a1 a2 M = some (r, M') → V p l e (rmk 5) s m args below meth c 3 D cs ad (QI below s args D cs ad r M') 4 [some (.ref (ad 255)), some (.int a1), some (.int a2)] [] M := by
  intro n
  induction n with
  | zero => intro a1 a2 M hf; cases hf
  | succ n ih =>
    intro a1 a2 M hf
    rw [l_X8_inRings_4_s] at hf
    refine x_iload_n C dX8_inRings_4 rfl rfl ?_
    refine x_aload_n C dX8_inRings_5 rfl rfl ?_
    refine x_getr (Cn := RX8) (T := TX8) (N := 13) C tg_255 (by decide) rfl nX8_inRings_8 0 (by decide) rfl kX8_inRings_7 rfl dX8_inRings_6 256 rfl ?_
    refine x_iconst (v := (1 : Int32)) C dX8_inRings_9 (by decide) ?_
    refine x_iald (j := 1) C tg_256 tl_256 (by decide) (by decide) dX8_inRings_10 ?_
    refine x_icmp_ge (tgt := 36) C dX8_inRings_11 (by decide) (fun q1 => ?_) (fun q1 => ?_)
    · have hf := ift q1 hf
      refine x_iload_n C dX8_inRings_36 rfl rfl ?_
      exact x_iret C hr hf dX8_inRings_37
    · have hf := iff_ q1 hf
      refine x_iload_n C dX8_inRings_14 rfl rfl ?_
      refine x_aload_n C dX8_inRings_15 rfl rfl ?_
      refine x_iload_n C dX8_inRings_16 rfl rfl ?_
      obtain ⟨r2, M3, e4, hf⟩ := bd_of hf
      refine x_callV (n := 1) (Cn := RX8) (T := TX8) (N := 13) (As := [.int a2]) (rest := [.int a1]) (maxL := 4) (ret := (some .boolean)) C (c_X8_isInRing  e4) gX8_inRings_X8_isInRing rfl (by decide +kernel) ⟨Nat.le_of_ble_eq_true rfl, Nat.le_of_ble_eq_true rfl⟩ tg_255 (by decide) rfl rfl rfl rfl (Nat.le_of_ble_eq_true rfl) dX8_inRings_17 ?_
      refine x_if_eq (tgt := 27) C dX8_inRings_20 (by decide) (fun q5 => ?_) (fun q5 => ?_)
      · have hf := ift q5 hf
        refine x_iconst (v := (0 : Int32)) C dX8_inRings_27 (by decide) ?_
        refine x_iadd C dX8_inRings_28 ?_
        refine x_istore_n (lv' := [some (.ref (ad 255)), some (.int (a1 + (0 : Int32))), some (.int a2)]) C dX8_inRings_29 rfl (by decide) rfl ?_
        refine x_iinc (d := (1 : Int32)) (v := (a2 + (1 : Int32))) (lv' := [some (.ref (ad 255)), some (.int (a1 + (0 : Int32))), some (.int (a2 + (1 : Int32)))]) C dX8_inRings_30 rfl (by decide) rfl (by decide) rfl ?_
        refine x_goto (tgt := 4) C dX8_inRings_33 (by decide) ?_
        exact x_weak (ih _ _ _ hf) [0, 1, 2] rfl
      · have hf := iff_ q5 hf
        refine x_iconst (v := (1 : Int32)) C dX8_inRings_23 (by decide) ?_
        refine x_goto (tgt := 28) C dX8_inRings_24 (by decide) ?_
        refine x_iadd C dX8_inRings_28 ?_
        refine x_istore_n (lv' := [some (.ref (ad 255)), some (.int (a1 + (1 : Int32))), some (.int a2)]) C dX8_inRings_29 rfl (by decide) rfl ?_
        refine x_iinc (d := (1 : Int32)) (v := (a2 + (1 : Int32))) (lv' := [some (.ref (ad 255)), some (.int (a1 + (1 : Int32))), some (.int (a2 + (1 : Int32)))]) C dX8_inRings_30 rfl (by decide) rfl (by decide) rfl ?_
        refine x_goto (tgt := 4) C dX8_inRings_33 (by decide) ?_
        exact x_weak (ih _ _ _ hf) [0, 1, 2] rfl

set_option maxHeartbeats 4000000 in
set_option maxRecDepth 100000 in
theorem c_X8_inRings  {M : Mem} {r : Int32} {M' : Mem}  (hf : f_X8_inRings  M = some (r, M')) : CnI yX8_inRings wsX8_inRings 5 (fun ad => [.ref (ad 255)]) M r M' := by
  unfold f_X8_inRings at hf
  refine x_metI (cc := cX8_inRings) (maxL := 3) RX8 rfl (by decide) rfl (fun ad => Nat.le_of_ble_eq_true rfl) (fun ad v hv => ?_) (fun p l e s m args below meth c D cs ad C hr => ?_)
  · simp only [List.mem_cons, List.not_mem_nil, or_false] at hv
    rcases hv with rfl <;> rfl
  · show V p l e (rmk 5) s m args below meth c 3 D cs ad (QI below s args D cs ad r M') 0 [some (.ref (ad 255)), none, none] [] M
    refine x_iconst (v := (0 : Int32)) C dX8_inRings_0 (by decide) ?_
    refine x_istore_n (lv' := [some (.ref (ad 255)), some (.int (0 : Int32)), none]) C dX8_inRings_1 rfl (by decide) rfl ?_
    refine x_iconst (v := (0 : Int32)) C dX8_inRings_2 (by decide) ?_
    refine x_istore_n (lv' := [some (.ref (ad 255)), some (.int (0 : Int32)), some (.int (0 : Int32))]) C dX8_inRings_3 rfl (by decide) rfl ?_
    exact x_weak (cl_X8_inRings_4 C hr  _ _ _ _ hf) [0, 1, 2] rfl

theorem kX8_lowestInRing_7 : Cond.fieldLink RX8 7 "FlatLotteryModel" "s" "[I" ∈ wsX8_lowestInRing := List.mem_of_getElem? (i := 1) rfl
theorem nX8_lowestInRing_8 : ∀ w ∈ u_ws RX8 TX8 13, w ∈ wsX8_lowestInRing := in_r [39, 40, 41, 42, 43, 44, 45, 46, 47, 48, 49, 50, 51] (by decide +kernel)
set_option maxHeartbeats 4000000 in
set_option maxRecDepth 100000 in
theorem cl_X8_lowestInRing_2 {p : Program} {l : Launch} {e : Env} {s : State} {m : MethodId} {args : Array Value} {below : List Frame} {meth : Method} {c : Code} {D : va_G} {cs : Nat → ClassId} {ad : Nat → Nat} (C : Cx p s m args meth c RX8 cX8_lowestInRing 2 wsX8_lowestInRing D cs ad) (hr : meth.sig.returnType = some .int)  {r : Int32} {M' : Mem}  : ∀ (n : Nat) (a1 : Int32) (M : Mem), l_X8_lowestInRing_2 n a1 M = some (r, M') → V p l e (rmk 5) s m args below meth c 2 D cs ad (QI below s args D cs ad r M') 2 [some (.ref (ad 255)), some (.int a1)] [] M := by
  intro n
  induction n with
  | zero => intro a1 M hf; cases hf
  | succ n ih =>
    intro a1 M hf
    rw [l_X8_lowestInRing_2_s] at hf
    refine x_iload_n C dX8_lowestInRing_2 rfl rfl ?_
    refine x_aload_n C dX8_lowestInRing_3 rfl rfl ?_
    refine x_getr (Cn := RX8) (T := TX8) (N := 13) C tg_255 (by decide) rfl nX8_lowestInRing_8 0 (by decide) rfl kX8_lowestInRing_7 rfl dX8_lowestInRing_4 256 rfl ?_
    refine x_iconst (v := (1 : Int32)) C dX8_lowestInRing_7 (by decide) ?_
    refine x_iald (j := 1) C tg_256 tl_256 (by decide) (by decide) dX8_lowestInRing_8 ?_
    refine x_icmp_ge (tgt := 28) C dX8_lowestInRing_9 (by decide) (fun q1 => ?_) (fun q1 => ?_)
    · have hf := ift q1 hf
      refine x_bipush (v := (-5 : Int32)) C dX8_lowestInRing_28 (by decide) ?_
      exact x_iret C hr hf dX8_lowestInRing_30
    · have hf := iff_ q1 hf
      refine x_aload_n C dX8_lowestInRing_12 rfl rfl ?_
      refine x_iload_n C dX8_lowestInRing_13 rfl rfl ?_
      obtain ⟨r2, M3, e4, hf⟩ := bd_of hf
      refine x_callV (n := 1) (Cn := RX8) (T := TX8) (N := 13) (As := [.int a1]) (rest := []) (maxL := 4) (ret := (some .boolean)) C (c_X8_isInRing  e4) gX8_lowestInRing_X8_isInRing rfl (by decide +kernel) ⟨Nat.le_of_ble_eq_true rfl, Nat.le_of_ble_eq_true rfl⟩ tg_255 (by decide) rfl rfl rfl rfl (Nat.le_of_ble_eq_true rfl) dX8_lowestInRing_14 ?_
      refine x_if_eq (tgt := 22) C dX8_lowestInRing_17 (by decide) (fun q5 => ?_) (fun q5 => ?_)
      · have hf := ift q5 hf
        refine x_iinc (d := (1 : Int32)) (v := (a1 + (1 : Int32))) (lv' := [some (.ref (ad 255)), some (.int (a1 + (1 : Int32)))]) C dX8_lowestInRing_22 rfl (by decide) rfl (by decide) rfl ?_
        refine x_goto (tgt := 2) C dX8_lowestInRing_25 (by decide) ?_
        exact x_weak (ih _ _ hf) [0, 1] rfl
      · have hf := iff_ q5 hf
        refine x_iload_n C dX8_lowestInRing_20 rfl rfl ?_
        exact x_iret C hr hf dX8_lowestInRing_21

set_option maxHeartbeats 4000000 in
set_option maxRecDepth 100000 in
theorem c_X8_lowestInRing  {M : Mem} {r : Int32} {M' : Mem}  (hf : f_X8_lowestInRing  M = some (r, M')) : CnI yX8_lowestInRing wsX8_lowestInRing 5 (fun ad => [.ref (ad 255)]) M r M' := by
  unfold f_X8_lowestInRing at hf
  refine x_metI (cc := cX8_lowestInRing) (maxL := 2) RX8 rfl (by decide) rfl (fun ad => Nat.le_of_ble_eq_true rfl) (fun ad v hv => ?_) (fun p l e s m args below meth c D cs ad C hr => ?_)
  · simp only [List.mem_cons, List.not_mem_nil, or_false] at hv
    rcases hv with rfl <;> rfl
  · show V p l e (rmk 5) s m args below meth c 2 D cs ad (QI below s args D cs ad r M') 0 [some (.ref (ad 255)), none] [] M
    refine x_iconst (v := (0 : Int32)) C dX8_lowestInRing_0 (by decide) ?_
    refine x_istore_n (lv' := [some (.ref (ad 255)), some (.int (0 : Int32))]) C dX8_lowestInRing_1 rfl (by decide) rfl ?_
    exact x_weak (cl_X8_lowestInRing_2 C hr  _ _ _ hf) [0, 1] rfl

set_option maxHeartbeats 4000000 in
set_option maxRecDepth 100000 in
theorem c_X8_ordered {a1 : Int32} {M : Mem} {r : Int32} {M' : Mem}  (hf : f_X8_ordered a1 M = some (r, M')) : CnI yX8_ordered wsX8_ordered 5 (fun ad => [.ref (ad 255), .int a1]) M r M' := by
  unfold f_X8_ordered at hf
  refine x_metI (cc := cX8_ordered) (maxL := 2) RX8 rfl (by decide) rfl (fun ad => Nat.le_of_ble_eq_true rfl) (fun ad v hv => ?_) (fun p l e s m args below meth c D cs ad C hr => ?_)
  · simp only [List.mem_cons, List.not_mem_nil, or_false] at hv
    rcases hv with rfl | rfl <;> rfl
  · show V p l e (rmk 5) s m args below meth c 2 D cs ad (QI below s args D cs ad r M') 0 [some (.ref (ad 255)), some (.int a1)] [] M
    refine x_iload_n C dX8_ordered_0 rfl rfl ?_
    refine x_if_ge (tgt := 9) C dX8_ordered_1 (by decide) (fun q1 => ?_) (fun q1 => ?_)
    · have hf := ift q1 hf
      refine x_aload_n C dX8_ordered_9 rfl rfl ?_
      refine x_iload_n C dX8_ordered_10 rfl rfl ?_
      obtain ⟨r2, M3, e4, hf⟩ := bd_of hf
      refine x_callV (n := 1) (Cn := RX8) (T := TX8) (N := 13) (As := [.int a1]) (rest := []) (maxL := 4) (ret := (some .int)) C (c_X8_at  e4) gX8_ordered_X8_at rfl (by decide +kernel) ⟨Nat.le_of_ble_eq_true rfl, Nat.le_of_ble_eq_true rfl⟩ tg_255 (by decide) rfl rfl rfl rfl (Nat.le_of_ble_eq_true rfl) dX8_ordered_11 ?_
      exact x_iret C hr hf dX8_ordered_14
    · have hf := iff_ q1 hf
      refine x_bipush (v := (-2 : Int32)) C dX8_ordered_4 (by decide) ?_
      refine x_goto (tgt := 14) C dX8_ordered_6 (by decide) ?_
      exact x_iret C hr hf dX8_ordered_14

theorem kX8_pairs_7 : Cond.fieldLink RX8 7 "FlatLotteryModel" "s" "[I" ∈ wsX8_pairs := List.mem_of_getElem? (i := 1) rfl
theorem nX8_pairs_8 : ∀ w ∈ u_ws RX8 TX8 13, w ∈ wsX8_pairs := in_r [43, 44, 45, 46, 47, 48, 49, 50, 51, 52, 53, 54, 55] (by decide +kernel)
set_option maxHeartbeats 4000000 in
set_option maxRecDepth 100000 in
theorem cl_X8_pairs_4 {p : Program} {l : Launch} {e : Env} {s : State} {m : MethodId} {args : Array Value} {below : List Frame} {meth : Method} {c : Code} {D : va_G} {cs : Nat → ClassId} {ad : Nat → Nat} (C : Cx p s m args meth c RX8 cX8_pairs 4 wsX8_pairs D cs ad) (hr : meth.sig.returnType = some .int) {a1 : Int32} {r : Int32} {M' : Mem}  : ∀ (n : Nat) (a2 : Int32) (a3 : Int32) (M : Mem), l_X8_pairs_4 a1 n a2 a3 M = some (r, M') → V p l e (rmk 5) s m args below meth c 4 D cs ad (QI below s args D cs ad r M') 4 [some (.ref (ad 255)), some (.int a1), some (.int a2), some (.int a3)] [] M := by
  intro n
  induction n with
  | zero => intro a2 a3 M hf; cases hf
  | succ n ih =>
    intro a2 a3 M hf
    rw [l_X8_pairs_4_s] at hf
    refine x_iload_n C dX8_pairs_4 rfl rfl ?_
    refine x_aload_n C dX8_pairs_5 rfl rfl ?_
    refine x_getr (Cn := RX8) (T := TX8) (N := 13) C tg_255 (by decide) rfl nX8_pairs_8 0 (by decide) rfl kX8_pairs_7 rfl dX8_pairs_6 256 rfl ?_
    refine x_iconst (v := (1 : Int32)) C dX8_pairs_9 (by decide) ?_
    refine x_iald (j := 1) C tg_256 tl_256 (by decide) (by decide) dX8_pairs_10 ?_
    refine x_aload_n C dX8_pairs_11 rfl rfl ?_
    refine x_getr (Cn := RX8) (T := TX8) (N := 13) C tg_255 (by decide) rfl nX8_pairs_8 0 (by decide) rfl kX8_pairs_7 rfl dX8_pairs_12 256 rfl ?_
    refine x_iconst (v := (1 : Int32)) C dX8_pairs_15 (by decide) ?_
    refine x_iald (j := 1) C tg_256 tl_256 (by decide) (by decide) dX8_pairs_16 ?_
    refine x_imul C dX8_pairs_17 ?_
    refine x_icmp_ge (tgt := 59) C dX8_pairs_18 (by decide) (fun q1 => ?_) (fun q1 => ?_)
    · have hf := ift q1 hf
      refine x_iload_n C dX8_pairs_59 rfl rfl ?_
      exact x_iret C hr hf dX8_pairs_60
    · have hf := iff_ q1 hf
      refine x_iload_n C dX8_pairs_21 rfl rfl ?_
      refine x_aload_n C dX8_pairs_22 rfl rfl ?_
      refine x_iload_n C dX8_pairs_23 rfl rfl ?_
      refine x_aload_n C dX8_pairs_24 rfl rfl ?_
      refine x_getr (Cn := RX8) (T := TX8) (N := 13) C tg_255 (by decide) rfl nX8_pairs_8 0 (by decide) rfl kX8_pairs_7 rfl dX8_pairs_25 256 rfl ?_
      refine x_iconst (v := (1 : Int32)) C dX8_pairs_28 (by decide) ?_
      refine x_iald (j := 1) C tg_256 tl_256 (by decide) (by decide) dX8_pairs_29 ?_
      obtain ⟨g2, hf⟩ := ck_of hf
      refine x_idiv C dX8_pairs_30 (of_decide_eq_true g2) ?_
      refine x_iload_n C dX8_pairs_31 rfl rfl ?_
      refine x_aload_n C dX8_pairs_32 rfl rfl ?_
      refine x_getr (Cn := RX8) (T := TX8) (N := 13) C tg_255 (by decide) rfl nX8_pairs_8 0 (by decide) rfl kX8_pairs_7 rfl dX8_pairs_33 256 rfl ?_
      refine x_iconst (v := (1 : Int32)) C dX8_pairs_36 (by decide) ?_
      refine x_iald (j := 1) C tg_256 tl_256 (by decide) (by decide) dX8_pairs_37 ?_
      obtain ⟨g3, hf⟩ := ck_of hf
      refine x_irem C dX8_pairs_38 (of_decide_eq_true g3) ?_
      obtain ⟨r4, M5, e6, hf⟩ := bd_of hf
      refine x_callV (n := 2) (Cn := RX8) (T := TX8) (N := 13) (As := [.int (a3 / (M 256 1)), .int (a3 - a3 / (M 256 1) * (M 256 1))]) (rest := [.int a2]) (maxL := 3) (ret := (some .int)) C (c_X8_envy  e6) gX8_pairs_X8_envy rfl (by decide +kernel) ⟨Nat.le_of_ble_eq_true rfl, Nat.le_of_ble_eq_true rfl⟩ tg_255 (by decide) rfl rfl rfl rfl (Nat.le_of_ble_eq_true rfl) dX8_pairs_39 ?_
      refine x_iload_n C dX8_pairs_42 rfl rfl ?_
      refine x_icmp_lt (tgt := 50) C dX8_pairs_43 (by decide) (fun q7 => ?_) (fun q7 => ?_)
      · have hf := ift q7 hf
        refine x_iconst (v := (0 : Int32)) C dX8_pairs_50 (by decide) ?_
        refine x_iadd C dX8_pairs_51 ?_
        refine x_istore_n (lv' := [some (.ref (ad 255)), some (.int a1), some (.int (a2 + (0 : Int32))), some (.int a3)]) C dX8_pairs_52 rfl (by decide) rfl ?_
        refine x_iinc (d := (1 : Int32)) (v := (a3 + (1 : Int32))) (lv' := [some (.ref (ad 255)), some (.int a1), some (.int (a2 + (0 : Int32))), some (.int (a3 + (1 : Int32)))]) C dX8_pairs_53 rfl (by decide) rfl (by decide) rfl ?_
        refine x_goto (tgt := 4) C dX8_pairs_56 (by decide) ?_
        exact x_weak (ih _ _ _ hf) [0, 1, 2, 3] rfl
      · have hf := iff_ q7 hf
        refine x_iconst (v := (1 : Int32)) C dX8_pairs_46 (by decide) ?_
        refine x_goto (tgt := 51) C dX8_pairs_47 (by decide) ?_
        refine x_iadd C dX8_pairs_51 ?_
        refine x_istore_n (lv' := [some (.ref (ad 255)), some (.int a1), some (.int (a2 + (1 : Int32))), some (.int a3)]) C dX8_pairs_52 rfl (by decide) rfl ?_
        refine x_iinc (d := (1 : Int32)) (v := (a3 + (1 : Int32))) (lv' := [some (.ref (ad 255)), some (.int a1), some (.int (a2 + (1 : Int32))), some (.int (a3 + (1 : Int32)))]) C dX8_pairs_53 rfl (by decide) rfl (by decide) rfl ?_
        refine x_goto (tgt := 4) C dX8_pairs_56 (by decide) ?_
        exact x_weak (ih _ _ _ hf) [0, 1, 2, 3] rfl

set_option maxHeartbeats 4000000 in
set_option maxRecDepth 100000 in
theorem c_X8_pairs {a1 : Int32} {M : Mem} {r : Int32} {M' : Mem}  (hf : f_X8_pairs a1 M = some (r, M')) : CnI yX8_pairs wsX8_pairs 5 (fun ad => [.ref (ad 255), .int a1]) M r M' := by
  unfold f_X8_pairs at hf
  refine x_metI (cc := cX8_pairs) (maxL := 4) RX8 rfl (by decide) rfl (fun ad => Nat.le_of_ble_eq_true rfl) (fun ad v hv => ?_) (fun p l e s m args below meth c D cs ad C hr => ?_)
  · simp only [List.mem_cons, List.not_mem_nil, or_false] at hv
    rcases hv with rfl | rfl <;> rfl
  · show V p l e (rmk 5) s m args below meth c 4 D cs ad (QI below s args D cs ad r M') 0 [some (.ref (ad 255)), some (.int a1), none, none] [] M
    refine x_iconst (v := (0 : Int32)) C dX8_pairs_0 (by decide) ?_
    refine x_istore_n (lv' := [some (.ref (ad 255)), some (.int a1), some (.int (0 : Int32)), none]) C dX8_pairs_1 rfl (by decide) rfl ?_
    refine x_iconst (v := (0 : Int32)) C dX8_pairs_2 (by decide) ?_
    refine x_istore_n (lv' := [some (.ref (ad 255)), some (.int a1), some (.int (0 : Int32)), some (.int (0 : Int32))]) C dX8_pairs_3 rfl (by decide) rfl ?_
    exact x_weak (cl_X8_pairs_4 C hr  _ _ _ _ hf) [0, 1, 2, 3] rfl

theorem kX8_readLists_29 : Cond.fieldLink RX8 29 "FlatLotteryModel" "told" "[I" ∈ wsX8_readLists := List.mem_of_getElem? (i := 3) rfl
theorem kX8_readLists_147 : Cond.fieldLink RX8 147 "FlatLotteryModel" "spot" "I" ∈ wsX8_readLists := List.mem_of_getElem? (i := 1) rfl
theorem kX8_readLists_154 : Cond.fieldLink RX8 154 "FlatLotteryModel" "tolds" "I" ∈ wsX8_readLists := List.mem_of_getElem? (i := 2) rfl
theorem nX8_readLists_8 : ∀ w ∈ u_ws RX8 TX8 13, w ∈ wsX8_readLists := in_r [60, 61, 62, 63, 64, 65, 66, 67, 68, 69, 70, 71, 72] (by decide +kernel)
set_option maxHeartbeats 4000000 in
set_option maxRecDepth 100000 in
theorem cl_X8_readLists_76 {p : Program} {l : Launch} {e : Env} {s : State} {m : MethodId} {args : Array Value} {below : List Frame} {meth : Method} {c : Code} {D : va_G} {cs : Nat → ClassId} {ad : Nat → Nat} (C : Cx p s m args meth c RX8 cX8_readLists 3 wsX8_readLists D cs ad) (hr : meth.sig.returnType = some .int) {a1 : Int32} {r : Int32} {M' : Mem}  {k : Mem → Option (Int32 × Mem)} (hk : ∀ (M : Mem), k M = some (r, M') → V p l e (rmk 5) s m args below meth c 3 D cs ad (QI below s args D cs ad r M') 127 [some (.ref (ad 255)), some (.int a1), none] [] M) : ∀ (n : Nat) (a2 : Int32) (M : Mem), l_X8_readLists_76 a1 k n a2 M = some (r, M') → V p l e (rmk 5) s m args below meth c 3 D cs ad (QI below s args D cs ad r M') 76 [some (.ref (ad 255)), some (.int a1), some (.int a2)] [] M := by
  intro n
  induction n with
  | zero => intro a2 M hf; cases hf
  | succ n ih =>
    intro a2 M hf
    rw [l_X8_readLists_76_s] at hf
    refine x_iload_n C dX8_readLists_76 rfl rfl ?_
    refine x_aload_n C dX8_readLists_77 rfl rfl ?_
    refine x_getr (Cn := RX8) (T := TX8) (N := 13) C tg_255 (by decide) rfl nX8_readLists_8 10 (by decide) rfl kX8_readLists_29 rfl dX8_readLists_78 262 rfl ?_
    refine x_bipush (v := (8 : Int32)) C dX8_readLists_81 (by decide) ?_
    refine x_iload_n C dX8_readLists_83 rfl rfl ?_
    refine x_imul C dX8_readLists_84 ?_
    refine x_iconst (v := (1 : Int32)) C dX8_readLists_85 (by decide) ?_
    refine x_iadd C dX8_readLists_86 ?_
    obtain ⟨g22, hf⟩ := ck_of hf
    refine x_iald (j := ((((8 : Int32) * a1) + (1 : Int32))).toNatClampNeg) C tg_262 tl_262 g22 rfl dX8_readLists_87 ?_
    refine x_icmp_ge (tgt := 127) C dX8_readLists_88 (by decide) (fun q23 => ?_) (fun q23 => ?_)
    · have hf := ift q23 hf
      exact x_weak (hk _ hf) [0, 1] rfl
    · have hf := iff_ q23 hf
      refine x_aload_n C dX8_readLists_91 rfl rfl ?_
      refine x_aload_n C dX8_readLists_92 rfl rfl ?_
      refine x_getr (Cn := RX8) (T := TX8) (N := 13) C tg_255 (by decide) rfl nX8_readLists_8 10 (by decide) rfl kX8_readLists_29 rfl dX8_readLists_93 262 rfl ?_
      refine x_bipush (v := (8 : Int32)) C dX8_readLists_96 (by decide) ?_
      refine x_iload_n C dX8_readLists_98 rfl rfl ?_
      refine x_imul C dX8_readLists_99 ?_
      obtain ⟨g24, hf⟩ := ck_of hf
      refine x_iald (j := (((8 : Int32) * a1)).toNatClampNeg) C tg_262 tl_262 g24 rfl dX8_readLists_100 ?_
      refine x_bipush (v := (8 : Int32)) C dX8_readLists_101 (by decide) ?_
      refine x_iload_n C dX8_readLists_103 rfl rfl ?_
      refine x_iadd C dX8_readLists_104 ?_
      refine x_aload_n C dX8_readLists_105 rfl rfl ?_
      refine x_getr (Cn := RX8) (T := TX8) (N := 13) C tg_255 (by decide) rfl nX8_readLists_8 10 (by decide) rfl kX8_readLists_29 rfl dX8_readLists_106 262 rfl ?_
      refine x_bipush (v := (8 : Int32)) C dX8_readLists_109 (by decide) ?_
      refine x_iload_n C dX8_readLists_111 rfl rfl ?_
      refine x_imul C dX8_readLists_112 ?_
      refine x_iconst (v := (2 : Int32)) C dX8_readLists_113 (by decide) ?_
      refine x_iadd C dX8_readLists_114 ?_
      refine x_iload_n C dX8_readLists_115 rfl rfl ?_
      refine x_iadd C dX8_readLists_116 ?_
      obtain ⟨g25, hf⟩ := ck_of hf
      refine x_iald (j := (((((8 : Int32) * a1) + (2 : Int32)) + a2)).toNatClampNeg) C tg_262 tl_262 g25 rfl dX8_readLists_117 ?_
      obtain ⟨r26, M27, e28, hf⟩ := bd_of hf
      refine x_callVv (n := 3) (Cn := RX8) (T := TX8) (N := 13) (As := [.int (M 262 (((8 : Int32) * a1)).toNatClampNeg), .int ((8 : Int32) + a2), .int (M 262 (((((8 : Int32) * a1) + (2 : Int32)) + a2)).toNatClampNeg)]) (rest := []) (maxL := 4) (ret := none) C (c_X8_puts  e28) gX8_readLists_X8_puts rfl (by decide +kernel) ⟨Nat.le_of_ble_eq_true rfl, Nat.le_of_ble_eq_true rfl⟩ tg_255 (by decide) rfl rfl rfl rfl (Nat.le_of_ble_eq_true rfl) dX8_readLists_118 ?_
      refine x_iinc (d := (1 : Int32)) (v := (a2 + (1 : Int32))) (lv' := [some (.ref (ad 255)), some (.int a1), some (.int (a2 + (1 : Int32)))]) C dX8_readLists_121 rfl (by decide) rfl (by decide) rfl ?_
      refine x_goto (tgt := 76) C dX8_readLists_124 (by decide) ?_
      exact x_weak (ih _ _ hf) [0, 1, 2] rfl

set_option maxHeartbeats 4000000 in
set_option maxRecDepth 100000 in
theorem cl_X8_readLists_40 {p : Program} {l : Launch} {e : Env} {s : State} {m : MethodId} {args : Array Value} {below : List Frame} {meth : Method} {c : Code} {D : va_G} {cs : Nat → ClassId} {ad : Nat → Nat} (C : Cx p s m args meth c RX8 cX8_readLists 3 wsX8_readLists D cs ad) (hr : meth.sig.returnType = some .int)  {r : Int32} {M' : Mem}  : ∀ (n : Nat) (a1 : Int32) (M : Mem), l_X8_readLists_40 n a1 M = some (r, M') → V p l e (rmk 5) s m args below meth c 3 D cs ad (QI below s args D cs ad r M') 40 [some (.ref (ad 255)), some (.int a1), none] [] M := by
  intro n
  induction n with
  | zero => intro a1 M hf; cases hf
  | succ n ih =>
    intro a1 M hf
    rw [l_X8_readLists_40_s] at hf
    refine x_iload_n C dX8_readLists_40 rfl rfl ?_
    refine x_aload_n C dX8_readLists_41 rfl rfl ?_
    refine x_geti (Cn := RX8) (T := TX8) (N := 13) C tg_255 (by decide) rfl nX8_readLists_8 11 (by decide) rfl kX8_readLists_154 rfl dX8_readLists_42 ?_
    refine x_icmp_ge (tgt := 133) C dX8_readLists_45 (by decide) (fun q16 => ?_) (fun q16 => ?_)
    · have hf := ift q16 hf
      refine x_aload_n C dX8_readLists_133 rfl rfl ?_
      refine x_geti (Cn := RX8) (T := TX8) (N := 13) C tg_255 (by decide) rfl nX8_readLists_8 11 (by decide) rfl kX8_readLists_154 rfl dX8_readLists_134 ?_
      exact x_iret C hr hf dX8_readLists_137
    · have hf := iff_ q16 hf
      refine x_aload_n C dX8_readLists_48 rfl rfl ?_
      refine x_aload_n C dX8_readLists_49 rfl rfl ?_
      refine x_getr (Cn := RX8) (T := TX8) (N := 13) C tg_255 (by decide) rfl nX8_readLists_8 10 (by decide) rfl kX8_readLists_29 rfl dX8_readLists_50 262 rfl ?_
      refine x_bipush (v := (8 : Int32)) C dX8_readLists_53 (by decide) ?_
      refine x_iload_n C dX8_readLists_55 rfl rfl ?_
      refine x_imul C dX8_readLists_56 ?_
      obtain ⟨g17, hf⟩ := ck_of hf
      refine x_iald (j := (((8 : Int32) * a1)).toNatClampNeg) C tg_262 tl_262 g17 rfl dX8_readLists_57 ?_
      refine x_bipush (v := (7 : Int32)) C dX8_readLists_58 (by decide) ?_
      refine x_aload_n C dX8_readLists_60 rfl rfl ?_
      refine x_getr (Cn := RX8) (T := TX8) (N := 13) C tg_255 (by decide) rfl nX8_readLists_8 10 (by decide) rfl kX8_readLists_29 rfl dX8_readLists_61 262 rfl ?_
      refine x_bipush (v := (8 : Int32)) C dX8_readLists_64 (by decide) ?_
      refine x_iload_n C dX8_readLists_66 rfl rfl ?_
      refine x_imul C dX8_readLists_67 ?_
      refine x_iconst (v := (1 : Int32)) C dX8_readLists_68 (by decide) ?_
      refine x_iadd C dX8_readLists_69 ?_
      obtain ⟨g18, hf⟩ := ck_of hf
      refine x_iald (j := ((((8 : Int32) * a1) + (1 : Int32))).toNatClampNeg) C tg_262 tl_262 g18 rfl dX8_readLists_70 ?_
      obtain ⟨r19, M20, e21, hf⟩ := bd_of hf
      refine x_callVv (n := 3) (Cn := RX8) (T := TX8) (N := 13) (As := [.int (M 262 (((8 : Int32) * a1)).toNatClampNeg), .int (7 : Int32), .int (M 262 ((((8 : Int32) * a1) + (1 : Int32))).toNatClampNeg)]) (rest := []) (maxL := 4) (ret := none) C (c_X8_puts  e21) gX8_readLists_X8_puts rfl (by decide +kernel) ⟨Nat.le_of_ble_eq_true rfl, Nat.le_of_ble_eq_true rfl⟩ tg_255 (by decide) rfl rfl rfl rfl (Nat.le_of_ble_eq_true rfl) dX8_readLists_71 ?_
      refine x_iconst (v := (0 : Int32)) C dX8_readLists_74 (by decide) ?_
      refine x_istore_n (lv' := [some (.ref (ad 255)), some (.int a1), some (.int (0 : Int32))]) C dX8_readLists_75 rfl (by decide) rfl ?_
      refine x_weak (cl_X8_readLists_76 C hr  (fun M29 hf => ?_) _ _ _ hf) [0, 1, 2] rfl
      refine x_iinc (d := (1 : Int32)) (v := (a1 + (1 : Int32))) (lv' := [some (.ref (ad 255)), some (.int (a1 + (1 : Int32))), none]) C dX8_readLists_127 rfl (by decide) rfl (by decide) rfl ?_
      refine x_goto (tgt := 40) C dX8_readLists_130 (by decide) ?_
      exact x_weak (ih _ _ hf) [0, 1] rfl

set_option maxHeartbeats 4000000 in
set_option maxRecDepth 100000 in
theorem c_X8_readLists  {M : Mem} {r : Int32} {M' : Mem}  (hf : f_X8_readLists  M = some (r, M')) : CnI yX8_readLists wsX8_readLists 5 (fun ad => [.ref (ad 255)]) M r M' := by
  unfold f_X8_readLists at hf
  refine x_metI (cc := cX8_readLists) (maxL := 3) RX8 rfl (by decide) rfl (fun ad => Nat.le_of_ble_eq_true rfl) (fun ad v hv => ?_) (fun p l e s m args below meth c D cs ad C hr => ?_)
  · simp only [List.mem_cons, List.not_mem_nil, or_false] at hv
    rcases hv with rfl <;> rfl
  · show V p l e (rmk 5) s m args below meth c 3 D cs ad (QI below s args D cs ad r M') 0 [some (.ref (ad 255)), none, none] [] M
    refine x_aload_n C dX8_readLists_0 rfl rfl ?_
    obtain ⟨r1, M2, e3, hf⟩ := bd_of hf
    refine x_callV (n := 0) (Cn := RX8) (T := TX8) (N := 13) (As := []) (rest := []) (maxL := 2) (ret := (some .boolean)) C (c_X8_isText  e3) gX8_readLists_X8_isText rfl (by decide +kernel) ⟨Nat.le_of_ble_eq_true rfl, Nat.le_of_ble_eq_true rfl⟩ tg_255 (by decide) rfl rfl rfl rfl (Nat.le_of_ble_eq_true rfl) dX8_readLists_1 ?_
    refine x_if_ne (tgt := 15) C dX8_readLists_4 (by decide) (fun q4 => ?_) (fun q4 => ?_)
    · have hf := ift q4 hf
      refine x_bipush (v := (-100 : Int32)) C dX8_readLists_7 (by decide) ?_
      refine x_aload_n C dX8_readLists_9 rfl rfl ?_
      refine x_geti (Cn := RX8) (T := TX8) (N := 13) C tg_255 (by decide) rfl nX8_readLists_8 9 (by decide) rfl kX8_readLists_147 rfl dX8_readLists_10 ?_
      refine x_isub C dX8_readLists_13 ?_
      exact x_iret C hr hf dX8_readLists_14
    · have hf := iff_ q4 hf
      refine x_aload_n C dX8_readLists_15 rfl rfl ?_
      obtain ⟨r5, M6, e7, hf⟩ := bd_of hf
      refine x_callV (n := 0) (Cn := RX8) (T := TX8) (N := 13) (As := []) (rest := []) (maxL := 4) (ret := (some .boolean)) C (c_X8_isAllThere  e7) gX8_readLists_X8_isAllThere rfl (by decide +kernel) ⟨Nat.le_of_ble_eq_true rfl, Nat.le_of_ble_eq_true rfl⟩ tg_255 (by decide) rfl rfl rfl rfl (Nat.le_of_ble_eq_true rfl) dX8_readLists_16 ?_
      refine x_if_ne (tgt := 24) C dX8_readLists_19 (by decide) (fun q8 => ?_) (fun q8 => ?_)
      · have hf := ift q8 hf
        refine x_iconst (v := (-1 : Int32)) C dX8_readLists_22 (by decide) ?_
        exact x_iret C hr hf dX8_readLists_23
      · have hf := iff_ q8 hf
        refine x_aload_n C dX8_readLists_24 rfl rfl ?_
        obtain ⟨r9, M10, e11, hf⟩ := bd_of hf
        refine x_callV (n := 0) (Cn := RX8) (T := TX8) (N := 13) (As := []) (rest := []) (maxL := 6) (ret := (some .boolean)) C (c_X8_isAnyTwice  e11) gX8_readLists_X8_isAnyTwice rfl (by decide +kernel) ⟨Nat.le_of_ble_eq_true rfl, Nat.le_of_ble_eq_true rfl⟩ tg_255 (by decide) rfl rfl rfl rfl (Nat.le_of_ble_eq_true rfl) dX8_readLists_25 ?_
        refine x_if_eq (tgt := 34) C dX8_readLists_28 (by decide) (fun q12 => ?_) (fun q12 => ?_)
        · have hf := ift q12 hf
          refine x_aload_n C dX8_readLists_34 rfl rfl ?_
          obtain ⟨r13, M14, e15, hf⟩ := bd_of hf
          refine x_callVv (n := 0) (Cn := RX8) (T := TX8) (N := 13) (As := []) (rest := []) (maxL := 2) (ret := none) C (c_X8_records  e15) gX8_readLists_X8_records rfl (by decide +kernel) ⟨Nat.le_of_ble_eq_true rfl, Nat.le_of_ble_eq_true rfl⟩ tg_255 (by decide) rfl rfl rfl rfl (Nat.le_of_ble_eq_true rfl) dX8_readLists_35 ?_
          refine x_iconst (v := (0 : Int32)) C dX8_readLists_38 (by decide) ?_
          refine x_istore_n (lv' := [some (.ref (ad 255)), some (.int (0 : Int32)), none]) C dX8_readLists_39 rfl (by decide) rfl ?_
          exact x_weak (cl_X8_readLists_40 C hr  _ _ _ hf) [0, 1] rfl
        · have hf := iff_ q12 hf
          refine x_bipush (v := (-2 : Int32)) C dX8_readLists_31 (by decide) ?_
          exact x_iret C hr hf dX8_readLists_33

theorem kX8_round_7 : Cond.fieldLink RX8 7 "FlatLotteryModel" "s" "[I" ∈ wsX8_round := List.mem_of_getElem? (i := 1) rfl
theorem nX8_round_8 : ∀ w ∈ u_ws RX8 TX8 13, w ∈ wsX8_round := in_r [60, 61, 62, 63, 64, 65, 66, 67, 68, 69, 70, 71, 72] (by decide +kernel)
set_option maxHeartbeats 4000000 in
set_option maxRecDepth 100000 in
theorem cl_X8_round_20 {p : Program} {l : Launch} {e : Env} {s : State} {m : MethodId} {args : Array Value} {below : List Frame} {meth : Method} {c : Code} {D : va_G} {cs : Nat → ClassId} {ad : Nat → Nat} (C : Cx p s m args meth c RX8 cX8_round 6 wsX8_round D cs ad) (hr : meth.sig.returnType = some .int) {a1 : Int32} {r : Int32} {M' : Mem}  : ∀ (n : Nat) (a2 : Int32) (a3 : Int32) (M : Mem), l_X8_round_20 a1 n a2 a3 M = some (r, M') → V p l e (rmk 5) s m args below meth c 6 D cs ad (QI below s args D cs ad r M') 20 [some (.ref (ad 255)), some (.int a1), some (.int a2), some (.int a3), none, none] [] M := by
  intro n
  induction n with
  | zero => intro a2 a3 M hf; cases hf
  | succ n ih =>
    intro a2 a3 M hf
    rw [l_X8_round_20_s] at hf
    refine x_iload_n C dX8_round_20 rfl rfl ?_
    refine x_iload_n C dX8_round_21 rfl rfl ?_
    refine x_icmp_ge (tgt := 120) C dX8_round_22 (by decide) (fun q8 => ?_) (fun q8 => ?_)
    · have hf := ift q8 hf
      refine x_aload_n C dX8_round_120 rfl rfl ?_
      refine x_getr (Cn := RX8) (T := TX8) (N := 13) C tg_255 (by decide) rfl nX8_round_8 0 (by decide) rfl kX8_round_7 rfl dX8_round_121 256 rfl ?_
      refine x_iconst (v := (2 : Int32)) C dX8_round_124 (by decide) ?_
      refine x_dup2 C dX8_round_125 rfl rfl ?_
      refine x_iald (j := 2) C tg_256 tl_256 (by decide) (by decide) dX8_round_126 ?_
      refine x_iconst (v := (1 : Int32)) C dX8_round_127 (by decide) ?_
      refine x_iadd C dX8_round_128 ?_
      refine x_iast (j := 2) C tg_256 tl_256 (by decide) (by decide) dX8_round_129 ?_
      refine x_gen hf (fun M9 hf => ?_)
      refine x_iload_n C dX8_round_130 rfl rfl ?_
      exact x_iret C hr hf dX8_round_131
    · have hf := iff_ q8 hf
      refine x_aload_n C dX8_round_25 rfl rfl ?_
      refine x_iload_n C dX8_round_26 rfl rfl ?_
      obtain ⟨r10, M11, e12, hf⟩ := bd_of hf
      refine x_callV (n := 1) (Cn := RX8) (T := TX8) (N := 13) (As := [.int a3]) (rest := []) (maxL := 4) (ret := (some .int)) C (c_X8_at  e12) gX8_round_X8_at rfl (by decide +kernel) ⟨Nat.le_of_ble_eq_true rfl, Nat.le_of_ble_eq_true rfl⟩ tg_255 (by decide) rfl rfl rfl rfl (Nat.le_of_ble_eq_true rfl) dX8_round_27 ?_
      refine x_istore (lv' := [some (.ref (ad 255)), some (.int a1), some (.int a2), some (.int a3), some (.int r10), none]) C dX8_round_30 (by decide) rfl ?_
      refine x_aload_n C dX8_round_32 rfl rfl ?_
      refine x_iload C dX8_round_33 rfl ?_
      refine x_iconst (v := (4 : Int32)) C dX8_round_35 (by decide) ?_
      obtain ⟨r13, M14, e15, hf⟩ := bd_of hf
      refine x_callV (n := 2) (Cn := RX8) (T := TX8) (N := 13) (As := [.int r10, .int (4 : Int32)]) (rest := []) (maxL := 3) (ret := (some .int)) C (c_X8_of  e15) gX8_round_X8_of rfl (by decide +kernel) ⟨Nat.le_of_ble_eq_true rfl, Nat.le_of_ble_eq_true rfl⟩ tg_255 (by decide) rfl rfl rfl rfl (Nat.le_of_ble_eq_true rfl) dX8_round_36 ?_
      refine x_bipush (v := (-5 : Int32)) C dX8_round_39 (by decide) ?_
      refine x_icmp_ne (tgt := 57) C dX8_round_41 (by decide) (fun q16 => ?_) (fun q16 => ?_)
      · have hf := ift q16 hf
        refine x_aload_n C dX8_round_44 rfl rfl ?_
        refine x_iload C dX8_round_45 rfl ?_
        refine x_aload_n C dX8_round_47 rfl rfl ?_
        obtain ⟨r17, M18, e19, hf⟩ := bd_of hf
        refine x_callV (n := 0) (Cn := RX8) (T := TX8) (N := 13) (As := []) (rest := [.int r10, .ref (ad 255)]) (maxL := 3) (ret := (some .int)) C (c_X8_heldSet  e19) gX8_round_X8_heldSet rfl (by decide +kernel) ⟨Nat.le_of_ble_eq_true rfl, Nat.le_of_ble_eq_true rfl⟩ tg_255 (by decide) rfl rfl rfl rfl (Nat.le_of_ble_eq_true rfl) dX8_round_48 ?_
        obtain ⟨r20, M21, e22, hf⟩ := bd_of hf
        refine x_callV (n := 2) (Cn := RX8) (T := TX8) (N := 13) (As := [.int r10, .int r17]) (rest := []) (maxL := 5) (ret := (some .int)) C (c_X8_firstOf  e22) gX8_round_X8_firstOf rfl (by decide +kernel) ⟨Nat.le_of_ble_eq_true rfl, Nat.le_of_ble_eq_true rfl⟩ tg_255 (by decide) rfl rfl rfl rfl (Nat.le_of_ble_eq_true rfl) dX8_round_51 ?_
        refine x_goto (tgt := 59) C dX8_round_54 (by decide) ?_
        refine x_istore (lv' := [some (.ref (ad 255)), some (.int a1), some (.int a2), some (.int a3), some (.int r10), some (.int r20)]) C dX8_round_59 (by decide) rfl ?_
        refine x_iload C dX8_round_61 rfl ?_
        refine x_bipush (v := (-5 : Int32)) C dX8_round_63 (by decide) ?_
        refine x_icmp_eq (tgt := 80) C dX8_round_65 (by decide) (fun q23 => ?_) (fun q23 => ?_)
        · have hf := ift q23 hf
          refine x_aload_n C dX8_round_80 rfl rfl ?_
          refine x_iload C dX8_round_81 rfl ?_
          refine x_bipush (v := (6 : Int32)) C dX8_round_83 (by decide) ?_
          refine x_aload_n C dX8_round_85 rfl rfl ?_
          refine x_iload C dX8_round_86 rfl ?_
          refine x_bipush (v := (6 : Int32)) C dX8_round_88 (by decide) ?_
          obtain ⟨r24, M25, e26, hf⟩ := bd_of hf
          refine x_callV (n := 2) (Cn := RX8) (T := TX8) (N := 13) (As := [.int r10, .int (6 : Int32)]) (rest := [.int (6 : Int32), .int r10, .ref (ad 255)]) (maxL := 3) (ret := (some .int)) C (c_X8_of  e26) gX8_round_X8_of rfl (by decide +kernel) ⟨Nat.le_of_ble_eq_true rfl, Nat.le_of_ble_eq_true rfl⟩ tg_255 (by decide) rfl rfl rfl rfl (Nat.le_of_ble_eq_true rfl) dX8_round_90 ?_
          refine x_aload_n C dX8_round_93 rfl rfl ?_
          refine x_iload C dX8_round_94 rfl ?_
          refine x_iconst (v := (4 : Int32)) C dX8_round_96 (by decide) ?_
          obtain ⟨r27, M28, e29, hf⟩ := bd_of hf
          refine x_callV (n := 2) (Cn := RX8) (T := TX8) (N := 13) (As := [.int r10, .int (4 : Int32)]) (rest := [.int r24, .int (6 : Int32), .int r10, .ref (ad 255)]) (maxL := 3) (ret := (some .int)) C (c_X8_of  e29) gX8_round_X8_of rfl (by decide +kernel) ⟨Nat.le_of_ble_eq_true rfl, Nat.le_of_ble_eq_true rfl⟩ tg_255 (by decide) rfl rfl rfl rfl (Nat.le_of_ble_eq_true rfl) dX8_round_97 ?_
          refine x_bipush (v := (-5 : Int32)) C dX8_round_100 (by decide) ?_
          refine x_icmp_ne (tgt := 109) C dX8_round_102 (by decide) (fun q30 => ?_) (fun q30 => ?_)
          · have hf := ift q30 hf
            refine x_iconst (v := (1 : Int32)) C dX8_round_105 (by decide) ?_
            refine x_goto (tgt := 110) C dX8_round_106 (by decide) ?_
            refine x_iadd C dX8_round_110 ?_
            obtain ⟨r31, M32, e33, hf⟩ := bd_of hf
            refine x_callVv (n := 3) (Cn := RX8) (T := TX8) (N := 13) (As := [.int r10, .int (6 : Int32), .int (r24 + (1 : Int32))]) (rest := []) (maxL := 4) (ret := none) C (c_X8_puts  e33) gX8_round_X8_puts rfl (by decide +kernel) ⟨Nat.le_of_ble_eq_true rfl, Nat.le_of_ble_eq_true rfl⟩ tg_255 (by decide) rfl rfl rfl rfl (Nat.le_of_ble_eq_true rfl) dX8_round_111 ?_
            refine x_iinc (d := (1 : Int32)) (v := (a3 + (1 : Int32))) (lv' := [some (.ref (ad 255)), some (.int a1), some (.int a2), some (.int (a3 + (1 : Int32))), some (.int r10), some (.int r20)]) C dX8_round_114 rfl (by decide) rfl (by decide) rfl ?_
            refine x_goto (tgt := 20) C dX8_round_117 (by decide) ?_
            exact x_weak (ih _ _ _ hf) [0, 1, 2, 3] rfl
          · have hf := iff_ q30 hf
            refine x_iconst (v := (0 : Int32)) C dX8_round_109 (by decide) ?_
            refine x_iadd C dX8_round_110 ?_
            obtain ⟨r34, M35, e36, hf⟩ := bd_of hf
            refine x_callVv (n := 3) (Cn := RX8) (T := TX8) (N := 13) (As := [.int r10, .int (6 : Int32), .int (r24 + (0 : Int32))]) (rest := []) (maxL := 4) (ret := none) C (c_X8_puts  e36) gX8_round_X8_puts rfl (by decide +kernel) ⟨Nat.le_of_ble_eq_true rfl, Nat.le_of_ble_eq_true rfl⟩ tg_255 (by decide) rfl rfl rfl rfl (Nat.le_of_ble_eq_true rfl) dX8_round_111 ?_
            refine x_iinc (d := (1 : Int32)) (v := (a3 + (1 : Int32))) (lv' := [some (.ref (ad 255)), some (.int a1), some (.int a2), some (.int (a3 + (1 : Int32))), some (.int r10), some (.int r20)]) C dX8_round_114 rfl (by decide) rfl (by decide) rfl ?_
            refine x_goto (tgt := 20) C dX8_round_117 (by decide) ?_
            exact x_weak (ih _ _ _ hf) [0, 1, 2, 3] rfl
        · have hf := iff_ q23 hf
          refine x_aload_n C dX8_round_68 rfl rfl ?_
          refine x_iload C dX8_round_69 rfl ?_
          refine x_iconst (v := (4 : Int32)) C dX8_round_71 (by decide) ?_
          refine x_iload C dX8_round_72 rfl ?_
          obtain ⟨r37, M38, e39, hf⟩ := bd_of hf
          refine x_callVv (n := 3) (Cn := RX8) (T := TX8) (N := 13) (As := [.int r10, .int (4 : Int32), .int r20]) (rest := []) (maxL := 4) (ret := none) C (c_X8_puts  e39) gX8_round_X8_puts rfl (by decide +kernel) ⟨Nat.le_of_ble_eq_true rfl, Nat.le_of_ble_eq_true rfl⟩ tg_255 (by decide) rfl rfl rfl rfl (Nat.le_of_ble_eq_true rfl) dX8_round_74 ?_
          refine x_iinc (d := (1 : Int32)) (v := (a2 + (1 : Int32))) (lv' := [some (.ref (ad 255)), some (.int a1), some (.int (a2 + (1 : Int32))), some (.int a3), some (.int r10), some (.int r20)]) C dX8_round_77 rfl (by decide) rfl (by decide) rfl ?_
          refine x_aload_n C dX8_round_80 rfl rfl ?_
          refine x_iload C dX8_round_81 rfl ?_
          refine x_bipush (v := (6 : Int32)) C dX8_round_83 (by decide) ?_
          refine x_aload_n C dX8_round_85 rfl rfl ?_
          refine x_iload C dX8_round_86 rfl ?_
          refine x_bipush (v := (6 : Int32)) C dX8_round_88 (by decide) ?_
          obtain ⟨r40, M41, e42, hf⟩ := bd_of hf
          refine x_callV (n := 2) (Cn := RX8) (T := TX8) (N := 13) (As := [.int r10, .int (6 : Int32)]) (rest := [.int (6 : Int32), .int r10, .ref (ad 255)]) (maxL := 3) (ret := (some .int)) C (c_X8_of  e42) gX8_round_X8_of rfl (by decide +kernel) ⟨Nat.le_of_ble_eq_true rfl, Nat.le_of_ble_eq_true rfl⟩ tg_255 (by decide) rfl rfl rfl rfl (Nat.le_of_ble_eq_true rfl) dX8_round_90 ?_
          refine x_aload_n C dX8_round_93 rfl rfl ?_
          refine x_iload C dX8_round_94 rfl ?_
          refine x_iconst (v := (4 : Int32)) C dX8_round_96 (by decide) ?_
          obtain ⟨r43, M44, e45, hf⟩ := bd_of hf
          refine x_callV (n := 2) (Cn := RX8) (T := TX8) (N := 13) (As := [.int r10, .int (4 : Int32)]) (rest := [.int r40, .int (6 : Int32), .int r10, .ref (ad 255)]) (maxL := 3) (ret := (some .int)) C (c_X8_of  e45) gX8_round_X8_of rfl (by decide +kernel) ⟨Nat.le_of_ble_eq_true rfl, Nat.le_of_ble_eq_true rfl⟩ tg_255 (by decide) rfl rfl rfl rfl (Nat.le_of_ble_eq_true rfl) dX8_round_97 ?_
          refine x_bipush (v := (-5 : Int32)) C dX8_round_100 (by decide) ?_
          refine x_icmp_ne (tgt := 109) C dX8_round_102 (by decide) (fun q46 => ?_) (fun q46 => ?_)
          · have hf := ift q46 hf
            refine x_iconst (v := (1 : Int32)) C dX8_round_105 (by decide) ?_
            refine x_goto (tgt := 110) C dX8_round_106 (by decide) ?_
            refine x_iadd C dX8_round_110 ?_
            obtain ⟨r47, M48, e49, hf⟩ := bd_of hf
            refine x_callVv (n := 3) (Cn := RX8) (T := TX8) (N := 13) (As := [.int r10, .int (6 : Int32), .int (r40 + (1 : Int32))]) (rest := []) (maxL := 4) (ret := none) C (c_X8_puts  e49) gX8_round_X8_puts rfl (by decide +kernel) ⟨Nat.le_of_ble_eq_true rfl, Nat.le_of_ble_eq_true rfl⟩ tg_255 (by decide) rfl rfl rfl rfl (Nat.le_of_ble_eq_true rfl) dX8_round_111 ?_
            refine x_iinc (d := (1 : Int32)) (v := (a3 + (1 : Int32))) (lv' := [some (.ref (ad 255)), some (.int a1), some (.int (a2 + (1 : Int32))), some (.int (a3 + (1 : Int32))), some (.int r10), some (.int r20)]) C dX8_round_114 rfl (by decide) rfl (by decide) rfl ?_
            refine x_goto (tgt := 20) C dX8_round_117 (by decide) ?_
            exact x_weak (ih _ _ _ hf) [0, 1, 2, 3] rfl
          · have hf := iff_ q46 hf
            refine x_iconst (v := (0 : Int32)) C dX8_round_109 (by decide) ?_
            refine x_iadd C dX8_round_110 ?_
            obtain ⟨r50, M51, e52, hf⟩ := bd_of hf
            refine x_callVv (n := 3) (Cn := RX8) (T := TX8) (N := 13) (As := [.int r10, .int (6 : Int32), .int (r40 + (0 : Int32))]) (rest := []) (maxL := 4) (ret := none) C (c_X8_puts  e52) gX8_round_X8_puts rfl (by decide +kernel) ⟨Nat.le_of_ble_eq_true rfl, Nat.le_of_ble_eq_true rfl⟩ tg_255 (by decide) rfl rfl rfl rfl (Nat.le_of_ble_eq_true rfl) dX8_round_111 ?_
            refine x_iinc (d := (1 : Int32)) (v := (a3 + (1 : Int32))) (lv' := [some (.ref (ad 255)), some (.int a1), some (.int (a2 + (1 : Int32))), some (.int (a3 + (1 : Int32))), some (.int r10), some (.int r20)]) C dX8_round_114 rfl (by decide) rfl (by decide) rfl ?_
            refine x_goto (tgt := 20) C dX8_round_117 (by decide) ?_
            exact x_weak (ih _ _ _ hf) [0, 1, 2, 3] rfl
      · have hf := iff_ q16 hf
        refine x_bipush (v := (-5 : Int32)) C dX8_round_57 (by decide) ?_
        refine x_istore (lv' := [some (.ref (ad 255)), some (.int a1), some (.int a2), some (.int a3), some (.int r10), some (.int (-5 : Int32))]) C dX8_round_59 (by decide) rfl ?_
        refine x_iload C dX8_round_61 rfl ?_
        refine x_bipush (v := (-5 : Int32)) C dX8_round_63 (by decide) ?_
        refine x_icmp_eq (tgt := 80) C dX8_round_65 (by decide) (fun q53 => ?_) (fun q53 => ?_)
        · have hf := ift q53 hf
          refine x_aload_n C dX8_round_80 rfl rfl ?_
          refine x_iload C dX8_round_81 rfl ?_
          refine x_bipush (v := (6 : Int32)) C dX8_round_83 (by decide) ?_
          refine x_aload_n C dX8_round_85 rfl rfl ?_
          refine x_iload C dX8_round_86 rfl ?_
          refine x_bipush (v := (6 : Int32)) C dX8_round_88 (by decide) ?_
          obtain ⟨r54, M55, e56, hf⟩ := bd_of hf
          refine x_callV (n := 2) (Cn := RX8) (T := TX8) (N := 13) (As := [.int r10, .int (6 : Int32)]) (rest := [.int (6 : Int32), .int r10, .ref (ad 255)]) (maxL := 3) (ret := (some .int)) C (c_X8_of  e56) gX8_round_X8_of rfl (by decide +kernel) ⟨Nat.le_of_ble_eq_true rfl, Nat.le_of_ble_eq_true rfl⟩ tg_255 (by decide) rfl rfl rfl rfl (Nat.le_of_ble_eq_true rfl) dX8_round_90 ?_
          refine x_aload_n C dX8_round_93 rfl rfl ?_
          refine x_iload C dX8_round_94 rfl ?_
          refine x_iconst (v := (4 : Int32)) C dX8_round_96 (by decide) ?_
          obtain ⟨r57, M58, e59, hf⟩ := bd_of hf
          refine x_callV (n := 2) (Cn := RX8) (T := TX8) (N := 13) (As := [.int r10, .int (4 : Int32)]) (rest := [.int r54, .int (6 : Int32), .int r10, .ref (ad 255)]) (maxL := 3) (ret := (some .int)) C (c_X8_of  e59) gX8_round_X8_of rfl (by decide +kernel) ⟨Nat.le_of_ble_eq_true rfl, Nat.le_of_ble_eq_true rfl⟩ tg_255 (by decide) rfl rfl rfl rfl (Nat.le_of_ble_eq_true rfl) dX8_round_97 ?_
          refine x_bipush (v := (-5 : Int32)) C dX8_round_100 (by decide) ?_
          refine x_icmp_ne (tgt := 109) C dX8_round_102 (by decide) (fun q60 => ?_) (fun q60 => ?_)
          · have hf := ift q60 hf
            refine x_iconst (v := (1 : Int32)) C dX8_round_105 (by decide) ?_
            refine x_goto (tgt := 110) C dX8_round_106 (by decide) ?_
            refine x_iadd C dX8_round_110 ?_
            obtain ⟨r61, M62, e63, hf⟩ := bd_of hf
            refine x_callVv (n := 3) (Cn := RX8) (T := TX8) (N := 13) (As := [.int r10, .int (6 : Int32), .int (r54 + (1 : Int32))]) (rest := []) (maxL := 4) (ret := none) C (c_X8_puts  e63) gX8_round_X8_puts rfl (by decide +kernel) ⟨Nat.le_of_ble_eq_true rfl, Nat.le_of_ble_eq_true rfl⟩ tg_255 (by decide) rfl rfl rfl rfl (Nat.le_of_ble_eq_true rfl) dX8_round_111 ?_
            refine x_iinc (d := (1 : Int32)) (v := (a3 + (1 : Int32))) (lv' := [some (.ref (ad 255)), some (.int a1), some (.int a2), some (.int (a3 + (1 : Int32))), some (.int r10), some (.int (-5 : Int32))]) C dX8_round_114 rfl (by decide) rfl (by decide) rfl ?_
            refine x_goto (tgt := 20) C dX8_round_117 (by decide) ?_
            exact x_weak (ih _ _ _ hf) [0, 1, 2, 3] rfl
          · have hf := iff_ q60 hf
            refine x_iconst (v := (0 : Int32)) C dX8_round_109 (by decide) ?_
            refine x_iadd C dX8_round_110 ?_
            obtain ⟨r64, M65, e66, hf⟩ := bd_of hf
            refine x_callVv (n := 3) (Cn := RX8) (T := TX8) (N := 13) (As := [.int r10, .int (6 : Int32), .int (r54 + (0 : Int32))]) (rest := []) (maxL := 4) (ret := none) C (c_X8_puts  e66) gX8_round_X8_puts rfl (by decide +kernel) ⟨Nat.le_of_ble_eq_true rfl, Nat.le_of_ble_eq_true rfl⟩ tg_255 (by decide) rfl rfl rfl rfl (Nat.le_of_ble_eq_true rfl) dX8_round_111 ?_
            refine x_iinc (d := (1 : Int32)) (v := (a3 + (1 : Int32))) (lv' := [some (.ref (ad 255)), some (.int a1), some (.int a2), some (.int (a3 + (1 : Int32))), some (.int r10), some (.int (-5 : Int32))]) C dX8_round_114 rfl (by decide) rfl (by decide) rfl ?_
            refine x_goto (tgt := 20) C dX8_round_117 (by decide) ?_
            exact x_weak (ih _ _ _ hf) [0, 1, 2, 3] rfl
        · have hf := iff_ q53 hf
          refine x_aload_n C dX8_round_68 rfl rfl ?_
          refine x_iload C dX8_round_69 rfl ?_
          refine x_iconst (v := (4 : Int32)) C dX8_round_71 (by decide) ?_
          refine x_iload C dX8_round_72 rfl ?_
          obtain ⟨r67, M68, e69, hf⟩ := bd_of hf
          refine x_callVv (n := 3) (Cn := RX8) (T := TX8) (N := 13) (As := [.int r10, .int (4 : Int32), .int (-5 : Int32)]) (rest := []) (maxL := 4) (ret := none) C (c_X8_puts  e69) gX8_round_X8_puts rfl (by decide +kernel) ⟨Nat.le_of_ble_eq_true rfl, Nat.le_of_ble_eq_true rfl⟩ tg_255 (by decide) rfl rfl rfl rfl (Nat.le_of_ble_eq_true rfl) dX8_round_74 ?_
          refine x_iinc (d := (1 : Int32)) (v := (a2 + (1 : Int32))) (lv' := [some (.ref (ad 255)), some (.int a1), some (.int (a2 + (1 : Int32))), some (.int a3), some (.int r10), some (.int (-5 : Int32))]) C dX8_round_77 rfl (by decide) rfl (by decide) rfl ?_
          refine x_aload_n C dX8_round_80 rfl rfl ?_
          refine x_iload C dX8_round_81 rfl ?_
          refine x_bipush (v := (6 : Int32)) C dX8_round_83 (by decide) ?_
          refine x_aload_n C dX8_round_85 rfl rfl ?_
          refine x_iload C dX8_round_86 rfl ?_
          refine x_bipush (v := (6 : Int32)) C dX8_round_88 (by decide) ?_
          obtain ⟨r70, M71, e72, hf⟩ := bd_of hf
          refine x_callV (n := 2) (Cn := RX8) (T := TX8) (N := 13) (As := [.int r10, .int (6 : Int32)]) (rest := [.int (6 : Int32), .int r10, .ref (ad 255)]) (maxL := 3) (ret := (some .int)) C (c_X8_of  e72) gX8_round_X8_of rfl (by decide +kernel) ⟨Nat.le_of_ble_eq_true rfl, Nat.le_of_ble_eq_true rfl⟩ tg_255 (by decide) rfl rfl rfl rfl (Nat.le_of_ble_eq_true rfl) dX8_round_90 ?_
          refine x_aload_n C dX8_round_93 rfl rfl ?_
          refine x_iload C dX8_round_94 rfl ?_
          refine x_iconst (v := (4 : Int32)) C dX8_round_96 (by decide) ?_
          obtain ⟨r73, M74, e75, hf⟩ := bd_of hf
          refine x_callV (n := 2) (Cn := RX8) (T := TX8) (N := 13) (As := [.int r10, .int (4 : Int32)]) (rest := [.int r70, .int (6 : Int32), .int r10, .ref (ad 255)]) (maxL := 3) (ret := (some .int)) C (c_X8_of  e75) gX8_round_X8_of rfl (by decide +kernel) ⟨Nat.le_of_ble_eq_true rfl, Nat.le_of_ble_eq_true rfl⟩ tg_255 (by decide) rfl rfl rfl rfl (Nat.le_of_ble_eq_true rfl) dX8_round_97 ?_
          refine x_bipush (v := (-5 : Int32)) C dX8_round_100 (by decide) ?_
          refine x_icmp_ne (tgt := 109) C dX8_round_102 (by decide) (fun q76 => ?_) (fun q76 => ?_)
          · have hf := ift q76 hf
            refine x_iconst (v := (1 : Int32)) C dX8_round_105 (by decide) ?_
            refine x_goto (tgt := 110) C dX8_round_106 (by decide) ?_
            refine x_iadd C dX8_round_110 ?_
            obtain ⟨r77, M78, e79, hf⟩ := bd_of hf
            refine x_callVv (n := 3) (Cn := RX8) (T := TX8) (N := 13) (As := [.int r10, .int (6 : Int32), .int (r70 + (1 : Int32))]) (rest := []) (maxL := 4) (ret := none) C (c_X8_puts  e79) gX8_round_X8_puts rfl (by decide +kernel) ⟨Nat.le_of_ble_eq_true rfl, Nat.le_of_ble_eq_true rfl⟩ tg_255 (by decide) rfl rfl rfl rfl (Nat.le_of_ble_eq_true rfl) dX8_round_111 ?_
            refine x_iinc (d := (1 : Int32)) (v := (a3 + (1 : Int32))) (lv' := [some (.ref (ad 255)), some (.int a1), some (.int (a2 + (1 : Int32))), some (.int (a3 + (1 : Int32))), some (.int r10), some (.int (-5 : Int32))]) C dX8_round_114 rfl (by decide) rfl (by decide) rfl ?_
            refine x_goto (tgt := 20) C dX8_round_117 (by decide) ?_
            exact x_weak (ih _ _ _ hf) [0, 1, 2, 3] rfl
          · have hf := iff_ q76 hf
            refine x_iconst (v := (0 : Int32)) C dX8_round_109 (by decide) ?_
            refine x_iadd C dX8_round_110 ?_
            obtain ⟨r80, M81, e82, hf⟩ := bd_of hf
            refine x_callVv (n := 3) (Cn := RX8) (T := TX8) (N := 13) (As := [.int r10, .int (6 : Int32), .int (r70 + (0 : Int32))]) (rest := []) (maxL := 4) (ret := none) C (c_X8_puts  e82) gX8_round_X8_puts rfl (by decide +kernel) ⟨Nat.le_of_ble_eq_true rfl, Nat.le_of_ble_eq_true rfl⟩ tg_255 (by decide) rfl rfl rfl rfl (Nat.le_of_ble_eq_true rfl) dX8_round_111 ?_
            refine x_iinc (d := (1 : Int32)) (v := (a3 + (1 : Int32))) (lv' := [some (.ref (ad 255)), some (.int a1), some (.int (a2 + (1 : Int32))), some (.int (a3 + (1 : Int32))), some (.int r10), some (.int (-5 : Int32))]) C dX8_round_114 rfl (by decide) rfl (by decide) rfl ?_
            refine x_goto (tgt := 20) C dX8_round_117 (by decide) ?_
            exact x_weak (ih _ _ _ hf) [0, 1, 2, 3] rfl

set_option maxHeartbeats 4000000 in
set_option maxRecDepth 100000 in
theorem c_X8_round  {M : Mem} {r : Int32} {M' : Mem}  (hf : f_X8_round  M = some (r, M')) : CnI yX8_round wsX8_round 5 (fun ad => [.ref (ad 255)]) M r M' := by
  unfold f_X8_round at hf
  refine x_metI (cc := cX8_round) (maxL := 6) RX8 rfl (by decide) rfl (fun ad => Nat.le_of_ble_eq_true rfl) (fun ad v hv => ?_) (fun p l e s m args below meth c D cs ad C hr => ?_)
  · simp only [List.mem_cons, List.not_mem_nil, or_false] at hv
    rcases hv with rfl <;> rfl
  · show V p l e (rmk 5) s m args below meth c 6 D cs ad (QI below s args D cs ad r M') 0 [some (.ref (ad 255)), none, none, none, none, none] [] M
    refine x_aload_n C dX8_round_0 rfl rfl ?_
    obtain ⟨r1, M2, e3, hf⟩ := bd_of hf
    refine x_callV (n := 0) (Cn := RX8) (T := TX8) (N := 13) (As := []) (rest := []) (maxL := 3) (ret := (some .int)) C (c_X8_drawn  e3) gX8_round_X8_drawn rfl (by decide +kernel) ⟨Nat.le_of_ble_eq_true rfl, Nat.le_of_ble_eq_true rfl⟩ tg_255 (by decide) rfl rfl rfl rfl (Nat.le_of_ble_eq_true rfl) dX8_round_1 ?_
    refine x_istore_n (lv' := [some (.ref (ad 255)), some (.int r1), none, none, none, none]) C dX8_round_4 rfl (by decide) rfl ?_
    refine x_iload_n C dX8_round_5 rfl rfl ?_
    refine x_if_ne (tgt := 12) C dX8_round_6 (by decide) (fun q4 => ?_) (fun q4 => ?_)
    · have hf := ift q4 hf
      refine x_bipush (v := (-4 : Int32)) C dX8_round_9 (by decide) ?_
      exact x_iret C hr hf dX8_round_11
    · have hf := iff_ q4 hf
      refine x_aload_n C dX8_round_12 rfl rfl ?_
      obtain ⟨r5, M6, e7, hf⟩ := bd_of hf
      refine x_callVv (n := 0) (Cn := RX8) (T := TX8) (N := 13) (As := []) (rest := []) (maxL := 2) (ret := none) C (c_X8_records  e7) gX8_round_X8_records rfl (by decide +kernel) ⟨Nat.le_of_ble_eq_true rfl, Nat.le_of_ble_eq_true rfl⟩ tg_255 (by decide) rfl rfl rfl rfl (Nat.le_of_ble_eq_true rfl) dX8_round_13 ?_
      refine x_iconst (v := (0 : Int32)) C dX8_round_16 (by decide) ?_
      refine x_istore_n (lv' := [some (.ref (ad 255)), some (.int r1), some (.int (0 : Int32)), none, none, none]) C dX8_round_17 rfl (by decide) rfl ?_
      refine x_iconst (v := (0 : Int32)) C dX8_round_18 (by decide) ?_
      refine x_istore_n (lv' := [some (.ref (ad 255)), some (.int r1), some (.int (0 : Int32)), some (.int (0 : Int32)), none, none]) C dX8_round_19 rfl (by decide) rfl ?_
      exact x_weak (cl_X8_round_20 C hr  _ _ _ _ hf) [0, 1, 2, 3] rfl

set_option maxHeartbeats 4000000 in
set_option maxRecDepth 100000 in
theorem cl_X8_wouldGet_35 {p : Program} {l : Launch} {e : Env} {s : State} {m : MethodId} {args : Array Value} {below : List Frame} {meth : Method} {c : Code} {D : va_G} {cs : Nat → ClassId} {ad : Nat → Nat} (C : Cx p s m args meth c RX8 cX8_wouldGet 8 wsX8_wouldGet D cs ad) (hr : meth.sig.returnType = some .int) {a1 : Int32} {a2 : Int32} {a4 : Int32} {r : Int32} {M' : Mem}  : ∀ (n : Nat) (a3 : Int32) (a5 : Int32) (M : Mem), l_X8_wouldGet_35 a1 a2 a4 n a3 a5 M = some (r, M') → V p l e (rmk 5) s m args below meth c 8 D cs ad (QI below s args D cs ad r M') 35 [some (.ref (ad 255)), some (.int a1), some (.int a2), some (.int a3), some (.int a4), some (.int a5), none, none] [] M := by
  intro n
  induction n with
  | zero => intro a3 a5 M hf; cases hf
  | succ n ih =>
    intro a3 a5 M hf
    rw [l_X8_wouldGet_35_s] at hf
    refine x_iload C dX8_wouldGet_35 rfl ?_
    refine x_iload C dX8_wouldGet_37 rfl ?_
    refine x_icmp_ge (tgt := 103) C dX8_wouldGet_39 (by decide) (fun q9 => ?_) (fun q9 => ?_)
    · have hf := ift q9 hf
      refine x_bipush (v := (-5 : Int32)) C dX8_wouldGet_103 (by decide) ?_
      exact x_iret C hr hf dX8_wouldGet_105
    · have hf := iff_ q9 hf
      refine x_aload_n C dX8_wouldGet_42 rfl rfl ?_
      refine x_iload C dX8_wouldGet_43 rfl ?_
      obtain ⟨r10, M11, e12, hf⟩ := bd_of hf
      refine x_callV (n := 1) (Cn := RX8) (T := TX8) (N := 13) (As := [.int a5]) (rest := []) (maxL := 4) (ret := (some .int)) C (c_X8_at  e12) gX8_wouldGet_X8_at rfl (by decide +kernel) ⟨Nat.le_of_ble_eq_true rfl, Nat.le_of_ble_eq_true rfl⟩ tg_255 (by decide) rfl rfl rfl rfl (Nat.le_of_ble_eq_true rfl) dX8_wouldGet_45 ?_
      refine x_istore (lv' := [some (.ref (ad 255)), some (.int a1), some (.int a2), some (.int a3), some (.int a4), some (.int a5), some (.int r10), none]) C dX8_wouldGet_48 (by decide) rfl ?_
      refine x_iload C dX8_wouldGet_50 rfl ?_
      refine x_iload_n C dX8_wouldGet_52 rfl rfl ?_
      refine x_icmp_ne (tgt := 61) C dX8_wouldGet_53 (by decide) (fun q13 => ?_) (fun q13 => ?_)
      · have hf := ift q13 hf
        refine x_bipush (v := (-5 : Int32)) C dX8_wouldGet_56 (by decide) ?_
        refine x_goto (tgt := 68) C dX8_wouldGet_58 (by decide) ?_
        refine x_istore (lv' := [some (.ref (ad 255)), some (.int a1), some (.int a2), some (.int a3), some (.int a4), some (.int a5), some (.int r10), some (.int (-5 : Int32))]) C dX8_wouldGet_68 (by decide) rfl ?_
        refine x_iload C dX8_wouldGet_70 rfl ?_
        refine x_iload_n C dX8_wouldGet_72 rfl rfl ?_
        refine x_icmp_ne (tgt := 79) C dX8_wouldGet_73 (by decide) (fun q14 => ?_) (fun q14 => ?_)
        · have hf := ift q14 hf
          refine x_iload C dX8_wouldGet_76 rfl ?_
          exact x_iret C hr hf dX8_wouldGet_78
        · have hf := iff_ q14 hf
          refine x_iload_n C dX8_wouldGet_79 rfl rfl ?_
          refine x_iload C dX8_wouldGet_80 rfl ?_
          refine x_bipush (v := (-5 : Int32)) C dX8_wouldGet_82 (by decide) ?_
          refine x_icmp_ne (tgt := 91) C dX8_wouldGet_84 (by decide) (fun q15 => ?_) (fun q15 => ?_)
          · have hf := ift q15 hf
            refine x_iconst (v := (0 : Int32)) C dX8_wouldGet_87 (by decide) ?_
            refine x_goto (tgt := 95) C dX8_wouldGet_88 (by decide) ?_
            refine x_ior C dX8_wouldGet_95 ?_
            refine x_istore_n (lv' := [some (.ref (ad 255)), some (.int a1), some (.int a2), some (.int (a3 ||| (0 : Int32))), some (.int a4), some (.int a5), some (.int r10), some (.int (-5 : Int32))]) C dX8_wouldGet_96 rfl (by decide) rfl ?_
            refine x_iinc (d := (1 : Int32)) (v := (a5 + (1 : Int32))) (lv' := [some (.ref (ad 255)), some (.int a1), some (.int a2), some (.int (a3 ||| (0 : Int32))), some (.int a4), some (.int (a5 + (1 : Int32))), some (.int r10), some (.int (-5 : Int32))]) C dX8_wouldGet_97 rfl (by decide) rfl (by decide) rfl ?_
            refine x_goto (tgt := 35) C dX8_wouldGet_100 (by decide) ?_
            exact x_weak (ih _ _ _ hf) [0, 1, 2, 3, 4, 5] rfl
          · have hf := iff_ q15 hf
            refine x_iconst (v := (1 : Int32)) C dX8_wouldGet_91 (by decide) ?_
            refine x_iload C dX8_wouldGet_92 rfl ?_
            refine x_ishl C dX8_wouldGet_94 ?_
            refine x_ior C dX8_wouldGet_95 ?_
            refine x_istore_n (lv' := [some (.ref (ad 255)), some (.int a1), some (.int a2), some (.int (a3 ||| ((1 : Int32) <<< ((-5 : Int32) &&& (31 : Int32))))), some (.int a4), some (.int a5), some (.int r10), some (.int (-5 : Int32))]) C dX8_wouldGet_96 rfl (by decide) rfl ?_
            refine x_iinc (d := (1 : Int32)) (v := (a5 + (1 : Int32))) (lv' := [some (.ref (ad 255)), some (.int a1), some (.int a2), some (.int (a3 ||| ((1 : Int32) <<< ((-5 : Int32) &&& (31 : Int32))))), some (.int a4), some (.int (a5 + (1 : Int32))), some (.int r10), some (.int (-5 : Int32))]) C dX8_wouldGet_97 rfl (by decide) rfl (by decide) rfl ?_
            refine x_goto (tgt := 35) C dX8_wouldGet_100 (by decide) ?_
            exact x_weak (ih _ _ _ hf) [0, 1, 2, 3, 4, 5] rfl
      · have hf := iff_ q13 hf
        refine x_aload_n C dX8_wouldGet_61 rfl rfl ?_
        refine x_iload C dX8_wouldGet_62 rfl ?_
        refine x_iload_n C dX8_wouldGet_64 rfl rfl ?_
        obtain ⟨r16, M17, e18, hf⟩ := bd_of hf
        refine x_callV (n := 2) (Cn := RX8) (T := TX8) (N := 13) (As := [.int r10, .int a3]) (rest := []) (maxL := 5) (ret := (some .int)) C (c_X8_firstOf  e18) gX8_wouldGet_X8_firstOf rfl (by decide +kernel) ⟨Nat.le_of_ble_eq_true rfl, Nat.le_of_ble_eq_true rfl⟩ tg_255 (by decide) rfl rfl rfl rfl (Nat.le_of_ble_eq_true rfl) dX8_wouldGet_65 ?_
        refine x_istore (lv' := [some (.ref (ad 255)), some (.int a1), some (.int a2), some (.int a3), some (.int a4), some (.int a5), some (.int r10), some (.int r16)]) C dX8_wouldGet_68 (by decide) rfl ?_
        refine x_iload C dX8_wouldGet_70 rfl ?_
        refine x_iload_n C dX8_wouldGet_72 rfl rfl ?_
        refine x_icmp_ne (tgt := 79) C dX8_wouldGet_73 (by decide) (fun q19 => ?_) (fun q19 => ?_)
        · have hf := ift q19 hf
          refine x_iload C dX8_wouldGet_76 rfl ?_
          exact x_iret C hr hf dX8_wouldGet_78
        · have hf := iff_ q19 hf
          refine x_iload_n C dX8_wouldGet_79 rfl rfl ?_
          refine x_iload C dX8_wouldGet_80 rfl ?_
          refine x_bipush (v := (-5 : Int32)) C dX8_wouldGet_82 (by decide) ?_
          refine x_icmp_ne (tgt := 91) C dX8_wouldGet_84 (by decide) (fun q20 => ?_) (fun q20 => ?_)
          · have hf := ift q20 hf
            refine x_iconst (v := (0 : Int32)) C dX8_wouldGet_87 (by decide) ?_
            refine x_goto (tgt := 95) C dX8_wouldGet_88 (by decide) ?_
            refine x_ior C dX8_wouldGet_95 ?_
            refine x_istore_n (lv' := [some (.ref (ad 255)), some (.int a1), some (.int a2), some (.int (a3 ||| (0 : Int32))), some (.int a4), some (.int a5), some (.int r10), some (.int r16)]) C dX8_wouldGet_96 rfl (by decide) rfl ?_
            refine x_iinc (d := (1 : Int32)) (v := (a5 + (1 : Int32))) (lv' := [some (.ref (ad 255)), some (.int a1), some (.int a2), some (.int (a3 ||| (0 : Int32))), some (.int a4), some (.int (a5 + (1 : Int32))), some (.int r10), some (.int r16)]) C dX8_wouldGet_97 rfl (by decide) rfl (by decide) rfl ?_
            refine x_goto (tgt := 35) C dX8_wouldGet_100 (by decide) ?_
            exact x_weak (ih _ _ _ hf) [0, 1, 2, 3, 4, 5] rfl
          · have hf := iff_ q20 hf
            refine x_iconst (v := (1 : Int32)) C dX8_wouldGet_91 (by decide) ?_
            refine x_iload C dX8_wouldGet_92 rfl ?_
            refine x_ishl C dX8_wouldGet_94 ?_
            refine x_ior C dX8_wouldGet_95 ?_
            refine x_istore_n (lv' := [some (.ref (ad 255)), some (.int a1), some (.int a2), some (.int (a3 ||| ((1 : Int32) <<< (r16 &&& (31 : Int32))))), some (.int a4), some (.int a5), some (.int r10), some (.int r16)]) C dX8_wouldGet_96 rfl (by decide) rfl ?_
            refine x_iinc (d := (1 : Int32)) (v := (a5 + (1 : Int32))) (lv' := [some (.ref (ad 255)), some (.int a1), some (.int a2), some (.int (a3 ||| ((1 : Int32) <<< (r16 &&& (31 : Int32))))), some (.int a4), some (.int (a5 + (1 : Int32))), some (.int r10), some (.int r16)]) C dX8_wouldGet_97 rfl (by decide) rfl (by decide) rfl ?_
            refine x_goto (tgt := 35) C dX8_wouldGet_100 (by decide) ?_
            exact x_weak (ih _ _ _ hf) [0, 1, 2, 3, 4, 5] rfl

set_option maxHeartbeats 4000000 in
set_option maxRecDepth 100000 in
theorem c_X8_wouldGet {a1 : Int32} {a2 : Int32} {M : Mem} {r : Int32} {M' : Mem}  (hf : f_X8_wouldGet a1 a2 M = some (r, M')) : CnI yX8_wouldGet wsX8_wouldGet 5 (fun ad => [.ref (ad 255), .int a1, .int a2]) M r M' := by
  unfold f_X8_wouldGet at hf
  refine x_metI (cc := cX8_wouldGet) (maxL := 8) RX8 rfl (by decide) rfl (fun ad => Nat.le_of_ble_eq_true rfl) (fun ad v hv => ?_) (fun p l e s m args below meth c D cs ad C hr => ?_)
  · simp only [List.mem_cons, List.not_mem_nil, or_false] at hv
    rcases hv with rfl | rfl | rfl <;> rfl
  · show V p l e (rmk 5) s m args below meth c 8 D cs ad (QI below s args D cs ad r M') 0 [some (.ref (ad 255)), some (.int a1), some (.int a2), none, none, none, none, none] [] M
    refine x_aload_n C dX8_wouldGet_0 rfl rfl ?_
    refine x_iload_n C dX8_wouldGet_1 rfl rfl ?_
    obtain ⟨r1, M2, e3, hf⟩ := bd_of hf
    refine x_callV (n := 1) (Cn := RX8) (T := TX8) (N := 13) (As := [.int a1]) (rest := []) (maxL := 2) (ret := (some .boolean)) C (c_X8_isHome  e3) gX8_wouldGet_X8_isHome rfl (by decide +kernel) ⟨Nat.le_of_ble_eq_true rfl, Nat.le_of_ble_eq_true rfl⟩ tg_255 (by decide) rfl rfl rfl rfl (Nat.le_of_ble_eq_true rfl) dX8_wouldGet_2 ?_
    refine x_if_eq (tgt := 22) C dX8_wouldGet_5 (by decide) (fun q4 => ?_) (fun q4 => ?_)
    · have hf := ift q4 hf
      refine x_iconst (v := (-1 : Int32)) C dX8_wouldGet_22 (by decide) ?_
      exact x_iret C hr hf dX8_wouldGet_23
    · have hf := iff_ q4 hf
      refine x_iload_n C dX8_wouldGet_8 rfl rfl ?_
      refine x_bipush (v := (-5 : Int32)) C dX8_wouldGet_9 (by decide) ?_
      refine x_icmp_eq (tgt := 24) C dX8_wouldGet_11 (by decide) (fun q5 => ?_) (fun q5 => ?_)
      · have hf := ift q5 hf
        refine x_iconst (v := (0 : Int32)) C dX8_wouldGet_24 (by decide) ?_
        refine x_istore_n (lv' := [some (.ref (ad 255)), some (.int a1), some (.int a2), some (.int (0 : Int32)), none, none, none, none]) C dX8_wouldGet_25 rfl (by decide) rfl ?_
        refine x_aload_n C dX8_wouldGet_26 rfl rfl ?_
        obtain ⟨r6, M7, e8, hf⟩ := bd_of hf
        refine x_callV (n := 0) (Cn := RX8) (T := TX8) (N := 13) (As := []) (rest := []) (maxL := 3) (ret := (some .int)) C (c_X8_drawn  e8) gX8_wouldGet_X8_drawn rfl (by decide +kernel) ⟨Nat.le_of_ble_eq_true rfl, Nat.le_of_ble_eq_true rfl⟩ tg_255 (by decide) rfl rfl rfl rfl (Nat.le_of_ble_eq_true rfl) dX8_wouldGet_27 ?_
        refine x_istore (lv' := [some (.ref (ad 255)), some (.int a1), some (.int a2), some (.int (0 : Int32)), some (.int r6), none, none, none]) C dX8_wouldGet_30 (by decide) rfl ?_
        refine x_iconst (v := (0 : Int32)) C dX8_wouldGet_32 (by decide) ?_
        refine x_istore (lv' := [some (.ref (ad 255)), some (.int a1), some (.int a2), some (.int (0 : Int32)), some (.int r6), some (.int (0 : Int32)), none, none]) C dX8_wouldGet_33 (by decide) rfl ?_
        exact x_weak (cl_X8_wouldGet_35 C hr  _ _ _ _ hf) [0, 1, 2, 3, 4, 5] rfl
      · have hf := iff_ q5 hf
        refine x_aload_n C dX8_wouldGet_14 rfl rfl ?_
        refine x_iload_n C dX8_wouldGet_15 rfl rfl ?_
        obtain ⟨r21, M22, e23, hf⟩ := bd_of hf
        refine x_callV (n := 1) (Cn := RX8) (T := TX8) (N := 13) (As := [.int a2]) (rest := []) (maxL := 2) (ret := (some .boolean)) C (c_X8_isHome  e23) gX8_wouldGet_X8_isHome rfl (by decide +kernel) ⟨Nat.le_of_ble_eq_true rfl, Nat.le_of_ble_eq_true rfl⟩ tg_255 (by decide) rfl rfl rfl rfl (Nat.le_of_ble_eq_true rfl) dX8_wouldGet_16 ?_
        refine x_if_ne (tgt := 24) C dX8_wouldGet_19 (by decide) (fun q24 => ?_) (fun q24 => ?_)
        · have hf := ift q24 hf
          refine x_iconst (v := (-1 : Int32)) C dX8_wouldGet_22 (by decide) ?_
          exact x_iret C hr hf dX8_wouldGet_23
        · have hf := iff_ q24 hf
          refine x_iconst (v := (0 : Int32)) C dX8_wouldGet_24 (by decide) ?_
          refine x_istore_n (lv' := [some (.ref (ad 255)), some (.int a1), some (.int a2), some (.int (0 : Int32)), none, none, none, none]) C dX8_wouldGet_25 rfl (by decide) rfl ?_
          refine x_aload_n C dX8_wouldGet_26 rfl rfl ?_
          obtain ⟨r25, M26, e27, hf⟩ := bd_of hf
          refine x_callV (n := 0) (Cn := RX8) (T := TX8) (N := 13) (As := []) (rest := []) (maxL := 3) (ret := (some .int)) C (c_X8_drawn  e27) gX8_wouldGet_X8_drawn rfl (by decide +kernel) ⟨Nat.le_of_ble_eq_true rfl, Nat.le_of_ble_eq_true rfl⟩ tg_255 (by decide) rfl rfl rfl rfl (Nat.le_of_ble_eq_true rfl) dX8_wouldGet_27 ?_
          refine x_istore (lv' := [some (.ref (ad 255)), some (.int a1), some (.int a2), some (.int (0 : Int32)), some (.int r25), none, none, none]) C dX8_wouldGet_30 (by decide) rfl ?_
          refine x_iconst (v := (0 : Int32)) C dX8_wouldGet_32 (by decide) ?_
          refine x_istore (lv' := [some (.ref (ad 255)), some (.int a1), some (.int a2), some (.int (0 : Int32)), some (.int r25), some (.int (0 : Int32)), none, none]) C dX8_wouldGet_33 (by decide) rfl ?_
          exact x_weak (cl_X8_wouldGet_35 C hr  _ _ _ _ hf) [0, 1, 2, 3, 4, 5] rfl

theorem kX8_appeal_7 : Cond.fieldLink RX8 7 "FlatLotteryModel" "s" "[I" ∈ wsX8_appeal := List.mem_of_getElem? (i := 1) rfl
theorem nX8_appeal_8 : ∀ w ∈ u_ws RX8 TX8 13, w ∈ wsX8_appeal := in_r [67, 68, 69, 70, 71, 72, 73, 74, 75, 76, 77, 78, 79] (by decide +kernel)
set_option maxHeartbeats 4000000 in
set_option maxRecDepth 100000 in
theorem c_X8_appeal {a1 : Int32} {a2 : Int32} {M : Mem} {r : Int32} {M' : Mem}  (hf : f_X8_appeal a1 a2 M = some (r, M')) : CnI yX8_appeal wsX8_appeal 6 (fun ad => [.ref (ad 255), .int a1, .int a2]) M r M' := by
  unfold f_X8_appeal at hf
  refine x_metI (cc := cX8_appeal) (maxL := 4) RX8 rfl (by decide) rfl (fun ad => Nat.le_of_ble_eq_true rfl) (fun ad v hv => ?_) (fun p l e s m args below meth c D cs ad C hr => ?_)
  · simp only [List.mem_cons, List.not_mem_nil, or_false] at hv
    rcases hv with rfl | rfl | rfl <;> rfl
  · show V p l e (rmk 6) s m args below meth c 4 D cs ad (QI below s args D cs ad r M') 0 [some (.ref (ad 255)), some (.int a1), some (.int a2), none] [] M
    refine x_aload_n C dX8_appeal_0 rfl rfl ?_
    refine x_iload_n C dX8_appeal_1 rfl rfl ?_
    obtain ⟨r1, M2, e3, hf⟩ := bd_of hf
    refine x_callV (n := 1) (Cn := RX8) (T := TX8) (N := 13) (As := [.int a1]) (rest := []) (maxL := 2) (ret := (some .boolean)) C (c_X8_isHome  e3) gX8_appeal_X8_isHome rfl (by decide +kernel) ⟨Nat.le_of_ble_eq_true rfl, Nat.le_of_ble_eq_true rfl⟩ tg_255 (by decide) rfl rfl rfl rfl (Nat.le_of_ble_eq_true rfl) dX8_appeal_2 ?_
    refine x_if_ne (tgt := 10) C dX8_appeal_5 (by decide) (fun q4 => ?_) (fun q4 => ?_)
    · have hf := ift q4 hf
      refine x_iconst (v := (-1 : Int32)) C dX8_appeal_8 (by decide) ?_
      exact x_iret C hr hf dX8_appeal_9
    · have hf := iff_ q4 hf
      refine x_iload_n C dX8_appeal_10 rfl rfl ?_
      refine x_iconst (v := (0 : Int32)) C dX8_appeal_11 (by decide) ?_
      refine x_iconst (v := (2 : Int32)) C dX8_appeal_12 (by decide) ?_
      obtain ⟨r5, M6, e7, hf⟩ := bd_of hf
      refine x_callS (n := 3) (As := [.int a2, .int (0 : Int32), .int (2 : Int32)]) (rest := []) (maxL := 3) (ret := (some .boolean)) C (c_X8_in  e7) gX8_appeal_X8_in rfl (by decide +kernel) ⟨Nat.le_of_ble_eq_true rfl, Nat.le_of_ble_eq_true rfl⟩ rfl rfl rfl (Nat.le_of_ble_eq_true rfl) dX8_appeal_13 ?_
      refine x_if_ne (tgt := 22) C dX8_appeal_16 (by decide) (fun q8 => ?_) (fun q8 => ?_)
      · have hf := ift q8 hf
        refine x_bipush (v := (-2 : Int32)) C dX8_appeal_19 (by decide) ?_
        exact x_iret C hr hf dX8_appeal_21
      · have hf := iff_ q8 hf
        refine x_aload_n C dX8_appeal_22 rfl rfl ?_
        refine x_iload_n C dX8_appeal_23 rfl rfl ?_
        refine x_iconst (v := (5 : Int32)) C dX8_appeal_24 (by decide) ?_
        obtain ⟨r9, M10, e11, hf⟩ := bd_of hf
        refine x_callV (n := 2) (Cn := RX8) (T := TX8) (N := 13) (As := [.int a1, .int (5 : Int32)]) (rest := []) (maxL := 3) (ret := (some .int)) C (c_X8_of  e11) gX8_appeal_X8_of rfl (by decide +kernel) ⟨Nat.le_of_ble_eq_true rfl, Nat.le_of_ble_eq_true rfl⟩ tg_255 (by decide) rfl rfl rfl rfl (Nat.le_of_ble_eq_true rfl) dX8_appeal_25 ?_
        refine x_iconst (v := (2 : Int32)) C dX8_appeal_28 (by decide) ?_
        refine x_icmp_ne (tgt := 35) C dX8_appeal_29 (by decide) (fun q12 => ?_) (fun q12 => ?_)
        · have hf := ift q12 hf
          refine x_bipush (v := (-3 : Int32)) C dX8_appeal_32 (by decide) ?_
          exact x_iret C hr hf dX8_appeal_34
        · have hf := iff_ q12 hf
          refine x_aload_n C dX8_appeal_35 rfl rfl ?_
          obtain ⟨r13, M14, e15, hf⟩ := bd_of hf
          refine x_callVv (n := 0) (Cn := RX8) (T := TX8) (N := 13) (As := []) (rest := []) (maxL := 2) (ret := none) C (c_X8_records  e15) gX8_appeal_X8_records rfl (by decide +kernel) ⟨Nat.le_of_ble_eq_true rfl, Nat.le_of_ble_eq_true rfl⟩ tg_255 (by decide) rfl rfl rfl rfl (Nat.le_of_ble_eq_true rfl) dX8_appeal_36 ?_
          refine x_aload_n C dX8_appeal_39 rfl rfl ?_
          refine x_iload_n C dX8_appeal_40 rfl rfl ?_
          refine x_iload_n C dX8_appeal_41 rfl rfl ?_
          obtain ⟨r16, M17, e18, hf⟩ := bd_of hf
          refine x_callV (n := 2) (Cn := RX8) (T := TX8) (N := 13) (As := [.int a1, .int a2]) (rest := []) (maxL := 4) (ret := (some .boolean)) C (c_X8_holds  e18) gX8_appeal_X8_holds rfl (by decide +kernel) ⟨Nat.le_of_ble_eq_true rfl, Nat.le_of_ble_eq_true rfl⟩ tg_255 (by decide) rfl rfl rfl rfl (Nat.le_of_ble_eq_true rfl) dX8_appeal_42 ?_
          refine x_istore_n (lv' := [some (.ref (ad 255)), some (.int a1), some (.int a2), some (.int r16)]) C dX8_appeal_45 rfl (by decide) rfl ?_
          refine x_aload_n C dX8_appeal_46 rfl rfl ?_
          refine x_iload_n C dX8_appeal_47 rfl rfl ?_
          refine x_iconst (v := (5 : Int32)) C dX8_appeal_48 (by decide) ?_
          refine x_aload_n C dX8_appeal_49 rfl rfl ?_
          refine x_iload_n C dX8_appeal_50 rfl rfl ?_
          refine x_iconst (v := (5 : Int32)) C dX8_appeal_51 (by decide) ?_
          obtain ⟨r19, M20, e21, hf⟩ := bd_of hf
          refine x_callV (n := 2) (Cn := RX8) (T := TX8) (N := 13) (As := [.int a1, .int (5 : Int32)]) (rest := [.int (5 : Int32), .int a1, .ref (ad 255)]) (maxL := 3) (ret := (some .int)) C (c_X8_of  e21) gX8_appeal_X8_of rfl (by decide +kernel) ⟨Nat.le_of_ble_eq_true rfl, Nat.le_of_ble_eq_true rfl⟩ tg_255 (by decide) rfl rfl rfl rfl (Nat.le_of_ble_eq_true rfl) dX8_appeal_52 ?_
          refine x_iconst (v := (1 : Int32)) C dX8_appeal_55 (by decide) ?_
          refine x_iadd C dX8_appeal_56 ?_
          obtain ⟨r22, M23, e24, hf⟩ := bd_of hf
          refine x_callVv (n := 3) (Cn := RX8) (T := TX8) (N := 13) (As := [.int a1, .int (5 : Int32), .int (r19 + (1 : Int32))]) (rest := []) (maxL := 4) (ret := none) C (c_X8_puts  e24) gX8_appeal_X8_puts rfl (by decide +kernel) ⟨Nat.le_of_ble_eq_true rfl, Nat.le_of_ble_eq_true rfl⟩ tg_255 (by decide) rfl rfl rfl rfl (Nat.le_of_ble_eq_true rfl) dX8_appeal_57 ?_
          refine x_aload_n C dX8_appeal_60 rfl rfl ?_
          refine x_iload_n C dX8_appeal_61 rfl rfl ?_
          refine x_iconst (v := (3 : Int32)) C dX8_appeal_62 (by decide) ?_
          refine x_aload_n C dX8_appeal_63 rfl rfl ?_
          refine x_iload_n C dX8_appeal_64 rfl rfl ?_
          refine x_iconst (v := (3 : Int32)) C dX8_appeal_65 (by decide) ?_
          obtain ⟨r25, M26, e27, hf⟩ := bd_of hf
          refine x_callV (n := 2) (Cn := RX8) (T := TX8) (N := 13) (As := [.int a1, .int (3 : Int32)]) (rest := [.int (3 : Int32), .int a1, .ref (ad 255)]) (maxL := 3) (ret := (some .int)) C (c_X8_of  e27) gX8_appeal_X8_of rfl (by decide +kernel) ⟨Nat.le_of_ble_eq_true rfl, Nat.le_of_ble_eq_true rfl⟩ tg_255 (by decide) rfl rfl rfl rfl (Nat.le_of_ble_eq_true rfl) dX8_appeal_66 ?_
          refine x_iload_n C dX8_appeal_69 rfl rfl ?_
          refine x_if_eq (tgt := 79) C dX8_appeal_70 (by decide) (fun q28 => ?_) (fun q28 => ?_)
          · have hf := ift q28 hf
            refine x_iconst (v := (0 : Int32)) C dX8_appeal_79 (by decide) ?_
            refine x_iadd C dX8_appeal_80 ?_
            obtain ⟨r29, M30, e31, hf⟩ := bd_of hf
            refine x_callVv (n := 3) (Cn := RX8) (T := TX8) (N := 13) (As := [.int a1, .int (3 : Int32), .int (r25 + (0 : Int32))]) (rest := []) (maxL := 4) (ret := none) C (c_X8_puts  e31) gX8_appeal_X8_puts rfl (by decide +kernel) ⟨Nat.le_of_ble_eq_true rfl, Nat.le_of_ble_eq_true rfl⟩ tg_255 (by decide) rfl rfl rfl rfl (Nat.le_of_ble_eq_true rfl) dX8_appeal_81 ?_
            refine x_aload_n C dX8_appeal_84 rfl rfl ?_
            refine x_getr (Cn := RX8) (T := TX8) (N := 13) C tg_255 (by decide) rfl nX8_appeal_8 0 (by decide) rfl kX8_appeal_7 rfl dX8_appeal_85 256 rfl ?_
            refine x_iconst (v := (3 : Int32)) C dX8_appeal_88 (by decide) ?_
            refine x_dup2 C dX8_appeal_89 rfl rfl ?_
            refine x_iald (j := 3) C tg_256 tl_256 (by decide) (by decide) dX8_appeal_90 ?_
            refine x_iconst (v := (1 : Int32)) C dX8_appeal_91 (by decide) ?_
            refine x_iadd C dX8_appeal_92 ?_
            refine x_iast (j := 3) C tg_256 tl_256 (by decide) (by decide) dX8_appeal_93 ?_
            refine x_gen hf (fun M32 hf => ?_)
            refine x_aload_n C dX8_appeal_94 rfl rfl ?_
            refine x_getr (Cn := RX8) (T := TX8) (N := 13) C tg_255 (by decide) rfl nX8_appeal_8 0 (by decide) rfl kX8_appeal_7 rfl dX8_appeal_95 256 rfl ?_
            refine x_iconst (v := (4 : Int32)) C dX8_appeal_98 (by decide) ?_
            refine x_dup2 C dX8_appeal_99 rfl rfl ?_
            refine x_iald (j := 4) C tg_256 tl_256 (by decide) (by decide) dX8_appeal_100 ?_
            refine x_iload_n C dX8_appeal_101 rfl rfl ?_
            refine x_if_eq (tgt := 109) C dX8_appeal_102 (by decide) (fun q33 => ?_) (fun q33 => ?_)
            · have hf := ift q33 hf
              refine x_iconst (v := (1 : Int32)) C dX8_appeal_109 (by decide) ?_
              refine x_iadd C dX8_appeal_110 ?_
              refine x_iast (j := 4) C tg_256 tl_256 (by decide) (by decide) dX8_appeal_111 ?_
              refine x_gen hf (fun M34 hf => ?_)
              refine x_aload_n C dX8_appeal_112 rfl rfl ?_
              refine x_iload_n C dX8_appeal_113 rfl rfl ?_
              refine x_iconst (v := (3 : Int32)) C dX8_appeal_114 (by decide) ?_
              obtain ⟨r35, M36, e37, hf⟩ := bd_of hf
              refine x_callV (n := 2) (Cn := RX8) (T := TX8) (N := 13) (As := [.int a1, .int (3 : Int32)]) (rest := []) (maxL := 3) (ret := (some .int)) C (c_X8_of  e37) gX8_appeal_X8_of rfl (by decide +kernel) ⟨Nat.le_of_ble_eq_true rfl, Nat.le_of_ble_eq_true rfl⟩ tg_255 (by decide) rfl rfl rfl rfl (Nat.le_of_ble_eq_true rfl) dX8_appeal_115 ?_
              refine x_iload_n C dX8_appeal_118 rfl rfl ?_
              refine x_if_eq (tgt := 127) C dX8_appeal_119 (by decide) (fun q38 => ?_) (fun q38 => ?_)
              · have hf := ift q38 hf
                refine x_iconst (v := (0 : Int32)) C dX8_appeal_127 (by decide) ?_
                refine x_iadd C dX8_appeal_128 ?_
                exact x_iret C hr hf dX8_appeal_129
              · have hf := iff_ q38 hf
                refine x_bipush (v := (100 : Int32)) C dX8_appeal_122 (by decide) ?_
                refine x_goto (tgt := 128) C dX8_appeal_124 (by decide) ?_
                refine x_iadd C dX8_appeal_128 ?_
                exact x_iret C hr hf dX8_appeal_129
            · have hf := iff_ q33 hf
              refine x_iconst (v := (0 : Int32)) C dX8_appeal_105 (by decide) ?_
              refine x_goto (tgt := 110) C dX8_appeal_106 (by decide) ?_
              refine x_iadd C dX8_appeal_110 ?_
              refine x_iast (j := 4) C tg_256 tl_256 (by decide) (by decide) dX8_appeal_111 ?_
              refine x_gen hf (fun M39 hf => ?_)
              refine x_aload_n C dX8_appeal_112 rfl rfl ?_
              refine x_iload_n C dX8_appeal_113 rfl rfl ?_
              refine x_iconst (v := (3 : Int32)) C dX8_appeal_114 (by decide) ?_
              obtain ⟨r40, M41, e42, hf⟩ := bd_of hf
              refine x_callV (n := 2) (Cn := RX8) (T := TX8) (N := 13) (As := [.int a1, .int (3 : Int32)]) (rest := []) (maxL := 3) (ret := (some .int)) C (c_X8_of  e42) gX8_appeal_X8_of rfl (by decide +kernel) ⟨Nat.le_of_ble_eq_true rfl, Nat.le_of_ble_eq_true rfl⟩ tg_255 (by decide) rfl rfl rfl rfl (Nat.le_of_ble_eq_true rfl) dX8_appeal_115 ?_
              refine x_iload_n C dX8_appeal_118 rfl rfl ?_
              refine x_if_eq (tgt := 127) C dX8_appeal_119 (by decide) (fun q43 => ?_) (fun q43 => ?_)
              · have hf := ift q43 hf
                refine x_iconst (v := (0 : Int32)) C dX8_appeal_127 (by decide) ?_
                refine x_iadd C dX8_appeal_128 ?_
                exact x_iret C hr hf dX8_appeal_129
              · have hf := iff_ q43 hf
                refine x_bipush (v := (100 : Int32)) C dX8_appeal_122 (by decide) ?_
                refine x_goto (tgt := 128) C dX8_appeal_124 (by decide) ?_
                refine x_iadd C dX8_appeal_128 ?_
                exact x_iret C hr hf dX8_appeal_129
          · have hf := iff_ q28 hf
            refine x_iconst (v := (1 : Int32)) C dX8_appeal_73 (by decide) ?_
            refine x_iload_n C dX8_appeal_74 rfl rfl ?_
            refine x_iadd C dX8_appeal_75 ?_
            refine x_goto (tgt := 80) C dX8_appeal_76 (by decide) ?_
            refine x_iadd C dX8_appeal_80 ?_
            obtain ⟨r44, M45, e46, hf⟩ := bd_of hf
            refine x_callVv (n := 3) (Cn := RX8) (T := TX8) (N := 13) (As := [.int a1, .int (3 : Int32), .int (r25 + ((1 : Int32) + a2))]) (rest := []) (maxL := 4) (ret := none) C (c_X8_puts  e46) gX8_appeal_X8_puts rfl (by decide +kernel) ⟨Nat.le_of_ble_eq_true rfl, Nat.le_of_ble_eq_true rfl⟩ tg_255 (by decide) rfl rfl rfl rfl (Nat.le_of_ble_eq_true rfl) dX8_appeal_81 ?_
            refine x_aload_n C dX8_appeal_84 rfl rfl ?_
            refine x_getr (Cn := RX8) (T := TX8) (N := 13) C tg_255 (by decide) rfl nX8_appeal_8 0 (by decide) rfl kX8_appeal_7 rfl dX8_appeal_85 256 rfl ?_
            refine x_iconst (v := (3 : Int32)) C dX8_appeal_88 (by decide) ?_
            refine x_dup2 C dX8_appeal_89 rfl rfl ?_
            refine x_iald (j := 3) C tg_256 tl_256 (by decide) (by decide) dX8_appeal_90 ?_
            refine x_iconst (v := (1 : Int32)) C dX8_appeal_91 (by decide) ?_
            refine x_iadd C dX8_appeal_92 ?_
            refine x_iast (j := 3) C tg_256 tl_256 (by decide) (by decide) dX8_appeal_93 ?_
            refine x_gen hf (fun M47 hf => ?_)
            refine x_aload_n C dX8_appeal_94 rfl rfl ?_
            refine x_getr (Cn := RX8) (T := TX8) (N := 13) C tg_255 (by decide) rfl nX8_appeal_8 0 (by decide) rfl kX8_appeal_7 rfl dX8_appeal_95 256 rfl ?_
            refine x_iconst (v := (4 : Int32)) C dX8_appeal_98 (by decide) ?_
            refine x_dup2 C dX8_appeal_99 rfl rfl ?_
            refine x_iald (j := 4) C tg_256 tl_256 (by decide) (by decide) dX8_appeal_100 ?_
            refine x_iload_n C dX8_appeal_101 rfl rfl ?_
            refine x_if_eq (tgt := 109) C dX8_appeal_102 (by decide) (fun q48 => ?_) (fun q48 => ?_)
            · have hf := ift q48 hf
              refine x_iconst (v := (1 : Int32)) C dX8_appeal_109 (by decide) ?_
              refine x_iadd C dX8_appeal_110 ?_
              refine x_iast (j := 4) C tg_256 tl_256 (by decide) (by decide) dX8_appeal_111 ?_
              refine x_gen hf (fun M49 hf => ?_)
              refine x_aload_n C dX8_appeal_112 rfl rfl ?_
              refine x_iload_n C dX8_appeal_113 rfl rfl ?_
              refine x_iconst (v := (3 : Int32)) C dX8_appeal_114 (by decide) ?_
              obtain ⟨r50, M51, e52, hf⟩ := bd_of hf
              refine x_callV (n := 2) (Cn := RX8) (T := TX8) (N := 13) (As := [.int a1, .int (3 : Int32)]) (rest := []) (maxL := 3) (ret := (some .int)) C (c_X8_of  e52) gX8_appeal_X8_of rfl (by decide +kernel) ⟨Nat.le_of_ble_eq_true rfl, Nat.le_of_ble_eq_true rfl⟩ tg_255 (by decide) rfl rfl rfl rfl (Nat.le_of_ble_eq_true rfl) dX8_appeal_115 ?_
              refine x_iload_n C dX8_appeal_118 rfl rfl ?_
              refine x_if_eq (tgt := 127) C dX8_appeal_119 (by decide) (fun q53 => ?_) (fun q53 => ?_)
              · have hf := ift q53 hf
                refine x_iconst (v := (0 : Int32)) C dX8_appeal_127 (by decide) ?_
                refine x_iadd C dX8_appeal_128 ?_
                exact x_iret C hr hf dX8_appeal_129
              · have hf := iff_ q53 hf
                refine x_bipush (v := (100 : Int32)) C dX8_appeal_122 (by decide) ?_
                refine x_goto (tgt := 128) C dX8_appeal_124 (by decide) ?_
                refine x_iadd C dX8_appeal_128 ?_
                exact x_iret C hr hf dX8_appeal_129
            · have hf := iff_ q48 hf
              refine x_iconst (v := (0 : Int32)) C dX8_appeal_105 (by decide) ?_
              refine x_goto (tgt := 110) C dX8_appeal_106 (by decide) ?_
              refine x_iadd C dX8_appeal_110 ?_
              refine x_iast (j := 4) C tg_256 tl_256 (by decide) (by decide) dX8_appeal_111 ?_
              refine x_gen hf (fun M54 hf => ?_)
              refine x_aload_n C dX8_appeal_112 rfl rfl ?_
              refine x_iload_n C dX8_appeal_113 rfl rfl ?_
              refine x_iconst (v := (3 : Int32)) C dX8_appeal_114 (by decide) ?_
              obtain ⟨r55, M56, e57, hf⟩ := bd_of hf
              refine x_callV (n := 2) (Cn := RX8) (T := TX8) (N := 13) (As := [.int a1, .int (3 : Int32)]) (rest := []) (maxL := 3) (ret := (some .int)) C (c_X8_of  e57) gX8_appeal_X8_of rfl (by decide +kernel) ⟨Nat.le_of_ble_eq_true rfl, Nat.le_of_ble_eq_true rfl⟩ tg_255 (by decide) rfl rfl rfl rfl (Nat.le_of_ble_eq_true rfl) dX8_appeal_115 ?_
              refine x_iload_n C dX8_appeal_118 rfl rfl ?_
              refine x_if_eq (tgt := 127) C dX8_appeal_119 (by decide) (fun q58 => ?_) (fun q58 => ?_)
              · have hf := ift q58 hf
                refine x_iconst (v := (0 : Int32)) C dX8_appeal_127 (by decide) ?_
                refine x_iadd C dX8_appeal_128 ?_
                exact x_iret C hr hf dX8_appeal_129
              · have hf := iff_ q58 hf
                refine x_bipush (v := (100 : Int32)) C dX8_appeal_122 (by decide) ?_
                refine x_goto (tgt := 128) C dX8_appeal_124 (by decide) ?_
                refine x_iadd C dX8_appeal_128 ?_
                exact x_iret C hr hf dX8_appeal_129

theorem kX8_count_7 : Cond.fieldLink RX8 7 "FlatLotteryModel" "s" "[I" ∈ wsX8_count := List.mem_of_getElem? (i := 1) rfl
theorem kX8_count_36 : Cond.fieldLink RX8 36 "FlatLotteryModel" "saved" "I" ∈ wsX8_count := List.mem_of_getElem? (i := 2) rfl
theorem kX8_count_144 : Cond.fieldLink RX8 144 "FlatLotteryModel" "length" "I" ∈ wsX8_count := List.mem_of_getElem? (i := 3) rfl
theorem nX8_count_8 : ∀ w ∈ u_ws RX8 TX8 13, w ∈ wsX8_count := in_r [73, 74, 75, 76, 77, 78, 79, 80, 81, 82, 83, 84, 85] (by decide +kernel)
set_option maxHeartbeats 4000000 in
set_option maxRecDepth 100000 in
theorem c_X8_count {a1 : Int32} {M : Mem} {r : Int32} {M' : Mem}  (hf : f_X8_count a1 M = some (r, M')) : CnI yX8_count wsX8_count 6 (fun ad => [.ref (ad 255), .int a1]) M r M' := by
  unfold f_X8_count at hf
  refine x_metI (cc := cX8_count) (maxL := 2) RX8 rfl (by decide) rfl (fun ad => Nat.le_of_ble_eq_true rfl) (fun ad v hv => ?_) (fun p l e s m args below meth c D cs ad C hr => ?_)
  · simp only [List.mem_cons, List.not_mem_nil, or_false] at hv
    rcases hv with rfl | rfl <;> rfl
  · show V p l e (rmk 6) s m args below meth c 2 D cs ad (QI below s args D cs ad r M') 0 [some (.ref (ad 255)), some (.int a1)] [] M
    refine x_iload_n C dX8_count_0 rfl rfl ?_
    by_cases q1 : a1 = (0 : Int32)
    · have hf := ift q1 hf
      refine x_tabIn (tgt := 68) (off := 67) C dX8_count_1 (0 : Int32) q1 (by decide) (by decide) (by decide) (by decide) ?_
      refine x_aload_n C dX8_count_68 rfl rfl ?_
      refine x_getr (Cn := RX8) (T := TX8) (N := 13) C tg_255 (by decide) rfl nX8_count_8 0 (by decide) rfl kX8_count_7 rfl dX8_count_69 256 rfl ?_
      refine x_iload_n C dX8_count_72 rfl rfl ?_
      obtain ⟨g2, hf⟩ := ck_of hf
      refine x_iald (j := (a1).toNatClampNeg) C tg_256 tl_256 g2 rfl dX8_count_73 ?_
      exact x_iret C hr hf dX8_count_74
    · have hf := iff_ q1 hf
      by_cases q3 : a1 = (1 : Int32)
      · have hf := ift q3 hf
        refine x_tabIn (tgt := 68) (off := 67) C dX8_count_1 (1 : Int32) q3 (by decide) (by decide) (by decide) (by decide) ?_
        refine x_aload_n C dX8_count_68 rfl rfl ?_
        refine x_getr (Cn := RX8) (T := TX8) (N := 13) C tg_255 (by decide) rfl nX8_count_8 0 (by decide) rfl kX8_count_7 rfl dX8_count_69 256 rfl ?_
        refine x_iload_n C dX8_count_72 rfl rfl ?_
        obtain ⟨g4, hf⟩ := ck_of hf
        refine x_iald (j := (a1).toNatClampNeg) C tg_256 tl_256 g4 rfl dX8_count_73 ?_
        exact x_iret C hr hf dX8_count_74
      · have hf := iff_ q3 hf
        by_cases q5 : a1 = (2 : Int32)
        · have hf := ift q5 hf
          refine x_tabIn (tgt := 75) (off := 74) C dX8_count_1 (2 : Int32) q5 (by decide) (by decide) (by decide) (by decide) ?_
          refine x_aload_n C dX8_count_75 rfl rfl ?_
          obtain ⟨r6, M7, e8, hf⟩ := bd_of hf
          refine x_callV (n := 0) (Cn := RX8) (T := TX8) (N := 13) (As := []) (rest := []) (maxL := 3) (ret := (some .int)) C (c_X8_held  e8) gX8_count_X8_held rfl (by decide +kernel) ⟨Nat.le_of_ble_eq_true rfl, Nat.le_of_ble_eq_true rfl⟩ tg_255 (by decide) rfl rfl rfl rfl (Nat.le_of_ble_eq_true rfl) dX8_count_76 ?_
          exact x_iret C hr hf dX8_count_79
        · have hf := iff_ q5 hf
          by_cases q9 : a1 = (3 : Int32)
          · have hf := ift q9 hf
            refine x_tabIn (tgt := 80) (off := 79) C dX8_count_1 (3 : Int32) q9 (by decide) (by decide) (by decide) (by decide) ?_
            refine x_aload_n C dX8_count_80 rfl rfl ?_
            refine x_getr (Cn := RX8) (T := TX8) (N := 13) C tg_255 (by decide) rfl nX8_count_8 0 (by decide) rfl kX8_count_7 rfl dX8_count_81 256 rfl ?_
            refine x_iconst (v := (2 : Int32)) C dX8_count_84 (by decide) ?_
            refine x_iald (j := 2) C tg_256 tl_256 (by decide) (by decide) dX8_count_85 ?_
            exact x_iret C hr hf dX8_count_86
          · have hf := iff_ q9 hf
            by_cases q10 : a1 = (4 : Int32)
            · have hf := ift q10 hf
              refine x_tabIn (tgt := 87) (off := 86) C dX8_count_1 (4 : Int32) q10 (by decide) (by decide) (by decide) (by decide) ?_
              refine x_aload_n C dX8_count_87 rfl rfl ?_
              obtain ⟨r11, M12, e13, hf⟩ := bd_of hf
              refine x_callV (n := 0) (Cn := RX8) (T := TX8) (N := 13) (As := []) (rest := []) (maxL := 3) (ret := (some .int)) C (c_X8_drawn  e13) gX8_count_X8_drawn rfl (by decide +kernel) ⟨Nat.le_of_ble_eq_true rfl, Nat.le_of_ble_eq_true rfl⟩ tg_255 (by decide) rfl rfl rfl rfl (Nat.le_of_ble_eq_true rfl) dX8_count_88 ?_
              exact x_iret C hr hf dX8_count_91
            · have hf := iff_ q10 hf
              by_cases q14 : a1 = (5 : Int32)
              · have hf := ift q14 hf
                refine x_tabIn (tgt := 92) (off := 91) C dX8_count_1 (5 : Int32) q14 (by decide) (by decide) (by decide) (by decide) ?_
                refine x_aload_n C dX8_count_92 rfl rfl ?_
                refine x_iload_n C dX8_count_93 rfl rfl ?_
                refine x_iconst (v := (4 : Int32)) C dX8_count_94 (by decide) ?_
                refine x_isub C dX8_count_95 ?_
                obtain ⟨r15, M16, e17, hf⟩ := bd_of hf
                refine x_callV (n := 1) (Cn := RX8) (T := TX8) (N := 13) (As := [.int (a1 - (4 : Int32))]) (rest := []) (maxL := 4) (ret := (some .int)) C (c_X8_pairs  e17) gX8_count_X8_pairs rfl (by decide +kernel) ⟨Nat.le_of_ble_eq_true rfl, Nat.le_of_ble_eq_true rfl⟩ tg_255 (by decide) rfl rfl rfl rfl (Nat.le_of_ble_eq_true rfl) dX8_count_96 ?_
                exact x_iret C hr hf dX8_count_99
              · have hf := iff_ q14 hf
                by_cases q18 : a1 = (6 : Int32)
                · have hf := ift q18 hf
                  refine x_tabIn (tgt := 92) (off := 91) C dX8_count_1 (6 : Int32) q18 (by decide) (by decide) (by decide) (by decide) ?_
                  refine x_aload_n C dX8_count_92 rfl rfl ?_
                  refine x_iload_n C dX8_count_93 rfl rfl ?_
                  refine x_iconst (v := (4 : Int32)) C dX8_count_94 (by decide) ?_
                  refine x_isub C dX8_count_95 ?_
                  obtain ⟨r19, M20, e21, hf⟩ := bd_of hf
                  refine x_callV (n := 1) (Cn := RX8) (T := TX8) (N := 13) (As := [.int (a1 - (4 : Int32))]) (rest := []) (maxL := 4) (ret := (some .int)) C (c_X8_pairs  e21) gX8_count_X8_pairs rfl (by decide +kernel) ⟨Nat.le_of_ble_eq_true rfl, Nat.le_of_ble_eq_true rfl⟩ tg_255 (by decide) rfl rfl rfl rfl (Nat.le_of_ble_eq_true rfl) dX8_count_96 ?_
                  exact x_iret C hr hf dX8_count_99
                · have hf := iff_ q18 hf
                  by_cases q22 : a1 = (7 : Int32)
                  · have hf := ift q22 hf
                    refine x_tabIn (tgt := 100) (off := 99) C dX8_count_1 (7 : Int32) q22 (by decide) (by decide) (by decide) (by decide) ?_
                    refine x_aload_n C dX8_count_100 rfl rfl ?_
                    obtain ⟨r23, M24, e25, hf⟩ := bd_of hf
                    refine x_callV (n := 0) (Cn := RX8) (T := TX8) (N := 13) (As := []) (rest := []) (maxL := 3) (ret := (some .int)) C (c_X8_inRings  e25) gX8_count_X8_inRings rfl (by decide +kernel) ⟨Nat.le_of_ble_eq_true rfl, Nat.le_of_ble_eq_true rfl⟩ tg_255 (by decide) rfl rfl rfl rfl (Nat.le_of_ble_eq_true rfl) dX8_count_101 ?_
                    exact x_iret C hr hf dX8_count_104
                  · have hf := iff_ q22 hf
                    by_cases q26 : a1 = (8 : Int32)
                    · have hf := ift q26 hf
                      refine x_tabIn (tgt := 105) (off := 104) C dX8_count_1 (8 : Int32) q26 (by decide) (by decide) (by decide) (by decide) ?_
                      refine x_aload_n C dX8_count_105 rfl rfl ?_
                      refine x_getr (Cn := RX8) (T := TX8) (N := 13) C tg_255 (by decide) rfl nX8_count_8 0 (by decide) rfl kX8_count_7 rfl dX8_count_106 256 rfl ?_
                      refine x_iconst (v := (3 : Int32)) C dX8_count_109 (by decide) ?_
                      refine x_iload_n C dX8_count_110 rfl rfl ?_
                      refine x_iadd C dX8_count_111 ?_
                      refine x_bipush (v := (8 : Int32)) C dX8_count_112 (by decide) ?_
                      refine x_isub C dX8_count_114 ?_
                      obtain ⟨g27, hf⟩ := ck_of hf
                      refine x_iald (j := ((((3 : Int32) + a1) - (8 : Int32))).toNatClampNeg) C tg_256 tl_256 g27 rfl dX8_count_115 ?_
                      exact x_iret C hr hf dX8_count_116
                    · have hf := iff_ q26 hf
                      by_cases q28 : a1 = (9 : Int32)
                      · have hf := ift q28 hf
                        refine x_tabIn (tgt := 105) (off := 104) C dX8_count_1 (9 : Int32) q28 (by decide) (by decide) (by decide) (by decide) ?_
                        refine x_aload_n C dX8_count_105 rfl rfl ?_
                        refine x_getr (Cn := RX8) (T := TX8) (N := 13) C tg_255 (by decide) rfl nX8_count_8 0 (by decide) rfl kX8_count_7 rfl dX8_count_106 256 rfl ?_
                        refine x_iconst (v := (3 : Int32)) C dX8_count_109 (by decide) ?_
                        refine x_iload_n C dX8_count_110 rfl rfl ?_
                        refine x_iadd C dX8_count_111 ?_
                        refine x_bipush (v := (8 : Int32)) C dX8_count_112 (by decide) ?_
                        refine x_isub C dX8_count_114 ?_
                        obtain ⟨g29, hf⟩ := ck_of hf
                        refine x_iald (j := ((((3 : Int32) + a1) - (8 : Int32))).toNatClampNeg) C tg_256 tl_256 g29 rfl dX8_count_115 ?_
                        exact x_iret C hr hf dX8_count_116
                      · have hf := iff_ q28 hf
                        by_cases q30 : a1 = (10 : Int32)
                        · have hf := ift q30 hf
                          refine x_tabIn (tgt := 105) (off := 104) C dX8_count_1 (10 : Int32) q30 (by decide) (by decide) (by decide) (by decide) ?_
                          refine x_aload_n C dX8_count_105 rfl rfl ?_
                          refine x_getr (Cn := RX8) (T := TX8) (N := 13) C tg_255 (by decide) rfl nX8_count_8 0 (by decide) rfl kX8_count_7 rfl dX8_count_106 256 rfl ?_
                          refine x_iconst (v := (3 : Int32)) C dX8_count_109 (by decide) ?_
                          refine x_iload_n C dX8_count_110 rfl rfl ?_
                          refine x_iadd C dX8_count_111 ?_
                          refine x_bipush (v := (8 : Int32)) C dX8_count_112 (by decide) ?_
                          refine x_isub C dX8_count_114 ?_
                          obtain ⟨g31, hf⟩ := ck_of hf
                          refine x_iald (j := ((((3 : Int32) + a1) - (8 : Int32))).toNatClampNeg) C tg_256 tl_256 g31 rfl dX8_count_115 ?_
                          exact x_iret C hr hf dX8_count_116
                        · have hf := iff_ q30 hf
                          by_cases q32 : a1 = (11 : Int32)
                          · have hf := ift q32 hf
                            refine x_tabIn (tgt := 117) (off := 116) C dX8_count_1 (11 : Int32) q32 (by decide) (by decide) (by decide) (by decide) ?_
                            refine x_aload_n C dX8_count_117 rfl rfl ?_
                            refine x_geti (Cn := RX8) (T := TX8) (N := 13) C tg_255 (by decide) rfl nX8_count_8 2 (by decide) rfl kX8_count_36 rfl dX8_count_118 ?_
                            exact x_iret C hr hf dX8_count_121
                          · have hf := iff_ q32 hf
                            by_cases q33 : a1 = (12 : Int32)
                            · have hf := ift q33 hf
                              refine x_tabIn (tgt := 122) (off := 121) C dX8_count_1 (12 : Int32) q33 (by decide) (by decide) (by decide) (by decide) ?_
                              refine x_aload_n C dX8_count_122 rfl rfl ?_
                              refine x_geti (Cn := RX8) (T := TX8) (N := 13) C tg_255 (by decide) rfl nX8_count_8 6 (by decide) rfl kX8_count_144 rfl dX8_count_123 ?_
                              exact x_iret C hr hf dX8_count_126
                            · have hf := iff_ q33 hf
                              have zq1 := lv_neT q1 (a := 0) (by decide)
                              have zq3 := lv_neT q3 (a := 1) (by decide)
                              have zq5 := lv_neT q5 (a := 2) (by decide)
                              have zq9 := lv_neT q9 (a := 3) (by decide)
                              have zq10 := lv_neT q10 (a := 4) (by decide)
                              have zq14 := lv_neT q14 (a := 5) (by decide)
                              have zq18 := lv_neT q18 (a := 6) (by decide)
                              have zq22 := lv_neT q22 (a := 7) (by decide)
                              have zq26 := lv_neT q26 (a := 8) (by decide)
                              have zq28 := lv_neT q28 (a := 9) (by decide)
                              have zq30 := lv_neT q30 (a := 10) (by decide)
                              have zq32 := lv_neT q32 (a := 11) (by decide)
                              have zq33 := lv_neT q33 (a := 12) (by decide)
                              refine x_tabOut (tgt := 127) C dX8_count_1 (by omega) (by decide) ?_
                              refine x_bipush (v := (-2 : Int32)) C dX8_count_127 (by decide) ?_
                              exact x_iret C hr hf dX8_count_129

