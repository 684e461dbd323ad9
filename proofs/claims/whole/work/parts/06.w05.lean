theorem kX7_draw_10 : Cond.fieldLink RX7 10 "FlatLottery" "state" "LFlatLottery$State;" ∈ wsX7_draw := List.mem_of_getElem? (i := 1) rfl
theorem kX7_draw_26 : Cond.fieldLink RX7 26 "FlatLottery" "history" "LFlatLottery$History;" ∈ wsX7_draw := List.mem_of_getElem? (i := 2) rfl
theorem kX7_draw_78 : Cond.fieldLink RX7 78 "FlatLottery$State" "households" "[LFlatLottery$Household;" ∈ wsX7_draw := List.mem_of_getElem? (i := 3) rfl
theorem kX7_draw_136 : Cond.fieldLink RX7 136 "FlatLottery$Household" "number" "I" ∈ wsX7_draw := List.mem_of_getElem? (i := 4) rfl
theorem nX7_draw_2 : ∀ w ∈ u_ws RX2 TX2 9, w ∈ wsX7_draw := in_r [81, 82, 83, 84, 85, 86, 87, 88, 89] (by decide +kernel)
theorem nX7_draw_6 : ∀ w ∈ u_ws RX6 TX6 8, w ∈ wsX7_draw := in_r [73, 74, 75, 76, 77, 78, 79, 80] (by decide +kernel)
theorem nX7_draw_7 : ∀ w ∈ u_ws RX7 TX7 7, w ∈ wsX7_draw := in_r [66, 67, 68, 69, 70, 71, 72] (by decide +kernel)
set_option maxHeartbeats 4000000 in
set_option maxRecDepth 100000 in
theorem c_X7_draw {a1 : Int32} {a2 : Int32} {M : Mem} {r : Int32} {M' : Mem}  (hf : f_X7_draw a1 a2 M = some (r, M')) : CnI yX7_draw wsX7_draw 3 (fun ad => [.ref (ad 0), .int a1, .int a2]) M r M' := by
  unfold f_X7_draw at hf
  refine x_metI (cc := cX7_draw) (maxL := 4) RX7 rfl (by decide) rfl (fun ad => Nat.le_of_ble_eq_true rfl) (fun ad v hv => ?_) (fun p l e s m args below meth c D cs ad C hr => ?_)
  · simp only [List.mem_cons, List.not_mem_nil, or_false] at hv
    rcases hv with rfl | rfl | rfl <;> rfl
  · show V p l e (rmk 3) s m args below meth c 4 D cs ad (QI below s args D cs ad r M') 0 [some (.ref (ad 0)), some (.int a1), some (.int a2), none] [] M
    refine x_aload_n C dX7_draw_0 rfl rfl ?_
    refine x_getr (Cn := RX7) (T := TX7) (N := 7) C tg_0 (by decide) rfl nX7_draw_7 0 (by decide) rfl kX7_draw_10 rfl dX7_draw_1 1 rfl ?_
    refine x_iload_n C dX7_draw_4 rfl rfl ?_
    obtain ⟨r1, M2, e3, hf⟩ := bd_of hf
    refine x_callV (n := 1) (Cn := RX6) (T := TX6) (N := 8) (As := [.int a1]) (rest := []) (maxL := 2) (ret := (some .boolean)) C (c_X6_hasHousehold tg_1 e3) gX7_draw_X6_hasHousehold rfl (by decide +kernel) ⟨Nat.le_of_ble_eq_true rfl, Nat.le_of_ble_eq_true rfl⟩ tg_1 (by decide) rfl rfl rfl rfl (Nat.le_of_ble_eq_true rfl) dX7_draw_5 ?_
    refine x_if_ne (tgt := 13) C dX7_draw_8 (by decide) (fun q4 => ?_) (fun q4 => ?_)
    · have hf := ift q4 hf
      refine x_iconst (v := (-1 : Int32)) C dX7_draw_11 (by decide) ?_
      exact x_iret C hr hf dX7_draw_12
    · have hf := iff_ q4 hf
      refine x_iload_n C dX7_draw_13 rfl rfl ?_
      refine x_iconst (v := (1 : Int32)) C dX7_draw_14 (by decide) ?_
      refine x_sipush (v := (999 : Int32)) C dX7_draw_15 (by decide) ?_
      obtain ⟨r5, M6, e7, hf⟩ := bd_of hf
      refine x_callS (n := 3) (As := [.int a2, .int (1 : Int32), .int (999 : Int32)]) (rest := []) (maxL := 3) (ret := (some .boolean)) C (c_X7_isWithin  e7) gX7_draw_X7_isWithin rfl (by decide +kernel) ⟨Nat.le_of_ble_eq_true rfl, Nat.le_of_ble_eq_true rfl⟩ rfl rfl rfl (Nat.le_of_ble_eq_true rfl) dX7_draw_18 ?_
      refine x_if_ne (tgt := 27) C dX7_draw_21 (by decide) (fun q8 => ?_) (fun q8 => ?_)
      · have hf := ift q8 hf
        refine x_bipush (v := (-2 : Int32)) C dX7_draw_24 (by decide) ?_
        exact x_iret C hr hf dX7_draw_26
      · have hf := iff_ q8 hf
        refine x_aload_n C dX7_draw_27 rfl rfl ?_
        refine x_getr (Cn := RX7) (T := TX7) (N := 7) C tg_0 (by decide) rfl nX7_draw_7 0 (by decide) rfl kX7_draw_10 rfl dX7_draw_28 1 rfl ?_
        refine x_iload_n C dX7_draw_31 rfl rfl ?_
        obtain ⟨r9, M10, e11, hf⟩ := bd_of hf
        refine x_callV (n := 1) (Cn := RX6) (T := TX6) (N := 8) (As := [.int a2]) (rest := []) (maxL := 3) (ret := (some .int)) C (c_X6_ownerOfNumber tg_1 e11) gX7_draw_X6_ownerOfNumber rfl (by decide +kernel) ⟨Nat.le_of_ble_eq_true rfl, Nat.le_of_ble_eq_true rfl⟩ tg_1 (by decide) rfl rfl rfl rfl (Nat.le_of_ble_eq_true rfl) dX7_draw_32 ?_
        refine x_istore_n (lv' := [some (.ref (ad 0)), some (.int a1), some (.int a2), some (.int r9)]) C dX7_draw_35 rfl (by decide) rfl ?_
        refine x_iload_n C dX7_draw_36 rfl rfl ?_
        refine x_iload_n C dX7_draw_37 rfl rfl ?_
        refine x_icmp_ne (tgt := 44) C dX7_draw_38 (by decide) (fun q12 => ?_) (fun q12 => ?_)
        · have hf := ift q12 hf
          refine x_bipush (v := (-5 : Int32)) C dX7_draw_41 (by decide) ?_
          exact x_iret C hr hf dX7_draw_43
        · have hf := iff_ q12 hf
          refine x_iload_n C dX7_draw_44 rfl rfl ?_
          refine x_bipush (v := (-5 : Int32)) C dX7_draw_45 (by decide) ?_
          refine x_icmp_eq (tgt := 53) C dX7_draw_47 (by decide) (fun q13 => ?_) (fun q13 => ?_)
          · have hf := ift q13 hf
            refine x_aload_n C dX7_draw_53 rfl rfl ?_
            refine x_getr (Cn := RX7) (T := TX7) (N := 7) C tg_0 (by decide) rfl nX7_draw_7 3 (by decide) rfl kX7_draw_26 rfl dX7_draw_54 81 rfl ?_
            refine x_aload_n C dX7_draw_57 rfl rfl ?_
            refine x_getr (Cn := RX7) (T := TX7) (N := 7) C tg_0 (by decide) rfl nX7_draw_7 0 (by decide) rfl kX7_draw_10 rfl dX7_draw_58 1 rfl ?_
            obtain ⟨r14, M15, e16, hf⟩ := bd_of hf
            refine x_callVv (n := 1) (Cn := RX1) (T := TX1) (N := 2) (As := [.ref (ad 1)]) (rest := []) (maxL := 2) (ret := none) C (c_X1_record tg_1 e16) gX7_draw_X1_record rfl (by decide +kernel) ⟨Nat.le_of_ble_eq_true rfl, Nat.le_of_ble_eq_true rfl⟩ tg_81 (by decide) rfl rfl rfl rfl (Nat.le_of_ble_eq_true rfl) dX7_draw_61 ?_
            refine x_aload_n C dX7_draw_64 rfl rfl ?_
            refine x_getr (Cn := RX7) (T := TX7) (N := 7) C tg_0 (by decide) rfl nX7_draw_7 0 (by decide) rfl kX7_draw_10 rfl dX7_draw_65 1 rfl ?_
            refine x_getr (Cn := RX6) (T := TX6) (N := 8) C tg_1 (by decide) rfl nX7_draw_6 1 (by decide) rfl kX7_draw_78 rfl dX7_draw_68 3 rfl ?_
            refine x_iload_n C dX7_draw_71 rfl rfl ?_
            obtain ⟨g17, hf⟩ := ck_of hf
            have w18 : 3 + 14 + 2 * (a1).toNatClampNeg = (17 + 2 * (a1).toNatClampNeg) := by omega
            have u19 : tg (17 + 2 * (a1).toNatClampNeg) = 2 := te_H (x := a1) tg_3 g17 w18
            refine x_aaldH (j := (a1).toNatClampNeg) C tg_3 tl_3 g17 rfl dX7_draw_72 (17 + 2 * (a1).toNatClampNeg) w18 ?_
            refine x_iload_n C dX7_draw_73 rfl rfl ?_
            refine x_puti (ty := .int) (Cn := RX2) (T := TX2) (N := 9) C u19 (by decide) rfl nX7_draw_2 tyX2 tyX2_ok nmX2 4 (by decide) rfl kX7_draw_136 rfl rfl (by decide +kernel) rfl rfl dX7_draw_74 ?_
            refine x_gen hf (fun M20 hf => ?_)
            refine x_aload_n C dX7_draw_77 rfl rfl ?_
            refine x_getr (Cn := RX7) (T := TX7) (N := 7) C tg_0 (by decide) rfl nX7_draw_7 0 (by decide) rfl kX7_draw_10 rfl dX7_draw_78 1 rfl ?_
            obtain ⟨r21, M22, e23, hf⟩ := bd_of hf
            refine x_callV (n := 0) (Cn := RX6) (T := TX6) (N := 8) (As := []) (rest := []) (maxL := 3) (ret := (some .int)) C (c_X6_countNumbered tg_1 e23) gX7_draw_X6_countNumbered rfl (by decide +kernel) ⟨Nat.le_of_ble_eq_true rfl, Nat.le_of_ble_eq_true rfl⟩ tg_1 (by decide) rfl rfl rfl rfl (Nat.le_of_ble_eq_true rfl) dX7_draw_81 ?_
            exact x_iret C hr hf dX7_draw_84
          · have hf := iff_ q13 hf
            refine x_bipush (v := (-4 : Int32)) C dX7_draw_50 (by decide) ?_
            exact x_iret C hr hf dX7_draw_52

theorem kX7_envies_10 : Cond.fieldLink RX7 10 "FlatLottery" "state" "LFlatLottery$State;" ∈ wsX7_envies := List.mem_of_getElem? (i := 1) rfl
theorem kX7_envies_78 : Cond.fieldLink RX7 78 "FlatLottery$State" "households" "[LFlatLottery$Household;" ∈ wsX7_envies := List.mem_of_getElem? (i := 2) rfl
theorem nX7_envies_6 : ∀ w ∈ u_ws RX6 TX6 8, w ∈ wsX7_envies := in_r [57, 58, 59, 60, 61, 62, 63, 64] (by decide +kernel)
theorem nX7_envies_7 : ∀ w ∈ u_ws RX7 TX7 7, w ∈ wsX7_envies := in_r [50, 51, 52, 53, 54, 55, 56] (by decide +kernel)
set_option maxHeartbeats 4000000 in
set_option maxRecDepth 100000 in
theorem c_X7_envies {a1 : Int32} {a2 : Int32} {M : Mem} {r : Int32} {M' : Mem}  (hf : f_X7_envies a1 a2 M = some (r, M')) : CnI yX7_envies wsX7_envies 3 (fun ad => [.ref (ad 0), .int a1, .int a2]) M r M' := by
  unfold f_X7_envies at hf
  refine x_metI (cc := cX7_envies) (maxL := 3) RX7 rfl (by decide) rfl (fun ad => Nat.le_of_ble_eq_true rfl) (fun ad v hv => ?_) (fun p l e s m args below meth c D cs ad C hr => ?_)
  · simp only [List.mem_cons, List.not_mem_nil, or_false] at hv
    rcases hv with rfl | rfl | rfl <;> rfl
  · show V p l e (rmk 3) s m args below meth c 3 D cs ad (QI below s args D cs ad r M') 0 [some (.ref (ad 0)), some (.int a1), some (.int a2)] [] M
    refine x_aload_n C dX7_envies_0 rfl rfl ?_
    refine x_getr (Cn := RX7) (T := TX7) (N := 7) C tg_0 (by decide) rfl nX7_envies_7 0 (by decide) rfl kX7_envies_10 rfl dX7_envies_1 1 rfl ?_
    refine x_iload_n C dX7_envies_4 rfl rfl ?_
    obtain ⟨r1, M2, e3, hf⟩ := bd_of hf
    refine x_callV (n := 1) (Cn := RX6) (T := TX6) (N := 8) (As := [.int a1]) (rest := []) (maxL := 2) (ret := (some .boolean)) C (c_X6_hasHousehold tg_1 e3) gX7_envies_X6_hasHousehold rfl (by decide +kernel) ⟨Nat.le_of_ble_eq_true rfl, Nat.le_of_ble_eq_true rfl⟩ tg_1 (by decide) rfl rfl rfl rfl (Nat.le_of_ble_eq_true rfl) dX7_envies_5 ?_
    refine x_if_eq (tgt := 22) C dX7_envies_8 (by decide) (fun q4 => ?_) (fun q4 => ?_)
    · have hf := ift q4 hf
      refine x_iconst (v := (-1 : Int32)) C dX7_envies_22 (by decide) ?_
      exact x_iret C hr hf dX7_envies_23
    · have hf := iff_ q4 hf
      refine x_aload_n C dX7_envies_11 rfl rfl ?_
      refine x_getr (Cn := RX7) (T := TX7) (N := 7) C tg_0 (by decide) rfl nX7_envies_7 0 (by decide) rfl kX7_envies_10 rfl dX7_envies_12 1 rfl ?_
      refine x_iload_n C dX7_envies_15 rfl rfl ?_
      obtain ⟨r5, M6, e7, hf⟩ := bd_of hf
      refine x_callV (n := 1) (Cn := RX6) (T := TX6) (N := 8) (As := [.int a2]) (rest := []) (maxL := 2) (ret := (some .boolean)) C (c_X6_hasHousehold tg_1 e7) gX7_envies_X6_hasHousehold rfl (by decide +kernel) ⟨Nat.le_of_ble_eq_true rfl, Nat.le_of_ble_eq_true rfl⟩ tg_1 (by decide) rfl rfl rfl rfl (Nat.le_of_ble_eq_true rfl) dX7_envies_16 ?_
      refine x_if_ne (tgt := 24) C dX7_envies_19 (by decide) (fun q8 => ?_) (fun q8 => ?_)
      · have hf := ift q8 hf
        refine x_iconst (v := (-1 : Int32)) C dX7_envies_22 (by decide) ?_
        exact x_iret C hr hf dX7_envies_23
      · have hf := iff_ q8 hf
        refine x_iload_n C dX7_envies_24 rfl rfl ?_
        refine x_iload_n C dX7_envies_25 rfl rfl ?_
        refine x_icmp_ne (tgt := 32) C dX7_envies_26 (by decide) (fun q9 => ?_) (fun q9 => ?_)
        · have hf := ift q9 hf
          refine x_bipush (v := (-2 : Int32)) C dX7_envies_29 (by decide) ?_
          exact x_iret C hr hf dX7_envies_31
        · have hf := iff_ q9 hf
          refine x_aload_n C dX7_envies_32 rfl rfl ?_
          refine x_getr (Cn := RX7) (T := TX7) (N := 7) C tg_0 (by decide) rfl nX7_envies_7 0 (by decide) rfl kX7_envies_10 rfl dX7_envies_33 1 rfl ?_
          refine x_aload_n C dX7_envies_36 rfl rfl ?_
          refine x_getr (Cn := RX7) (T := TX7) (N := 7) C tg_0 (by decide) rfl nX7_envies_7 0 (by decide) rfl kX7_envies_10 rfl dX7_envies_37 1 rfl ?_
          refine x_getr (Cn := RX6) (T := TX6) (N := 8) C tg_1 (by decide) rfl nX7_envies_6 1 (by decide) rfl kX7_envies_78 rfl dX7_envies_40 3 rfl ?_
          refine x_iload_n C dX7_envies_43 rfl rfl ?_
          obtain ⟨g10, hf⟩ := ck_of hf
          have w11 : 3 + 14 + 2 * (a1).toNatClampNeg = (17 + 2 * (a1).toNatClampNeg) := by omega
          have u12 : tg (17 + 2 * (a1).toNatClampNeg) = 2 := te_H (x := a1) tg_3 g10 w11
          refine x_aaldH (j := (a1).toNatClampNeg) C tg_3 tl_3 g10 rfl dX7_envies_44 (17 + 2 * (a1).toNatClampNeg) w11 ?_
          refine x_aload_n C dX7_envies_45 rfl rfl ?_
          refine x_getr (Cn := RX7) (T := TX7) (N := 7) C tg_0 (by decide) rfl nX7_envies_7 0 (by decide) rfl kX7_envies_10 rfl dX7_envies_46 1 rfl ?_
          refine x_getr (Cn := RX6) (T := TX6) (N := 8) C tg_1 (by decide) rfl nX7_envies_6 1 (by decide) rfl kX7_envies_78 rfl dX7_envies_49 3 rfl ?_
          refine x_iload_n C dX7_envies_52 rfl rfl ?_
          obtain ⟨g13, hf⟩ := ck_of hf
          have w14 : 3 + 14 + 2 * (a2).toNatClampNeg = (17 + 2 * (a2).toNatClampNeg) := by omega
          have u15 : tg (17 + 2 * (a2).toNatClampNeg) = 2 := te_H (x := a2) tg_3 g13 w14
          refine x_aaldH (j := (a2).toNatClampNeg) C tg_3 tl_3 g13 rfl dX7_envies_53 (17 + 2 * (a2).toNatClampNeg) w14 ?_
          obtain ⟨r16, M17, e18, hf⟩ := bd_of hf
          refine x_callV (n := 2) (Cn := RX6) (T := TX6) (N := 8) (As := [.ref (ad (17 + 2 * (a1).toNatClampNeg)), .ref (ad (17 + 2 * (a2).toNatClampNeg))]) (rest := []) (maxL := 4) (ret := (some .int)) C (c_X6_envyOf tg_1 u12 u15 e18) gX7_envies_X6_envyOf rfl (by decide +kernel) ⟨Nat.le_of_ble_eq_true rfl, Nat.le_of_ble_eq_true rfl⟩ tg_1 (by decide) rfl rfl rfl rfl (Nat.le_of_ble_eq_true rfl) dX7_envies_54 ?_
          exact x_iret C hr hf dX7_envies_57

theorem kX7_flat_10 : Cond.fieldLink RX7 10 "FlatLottery" "state" "LFlatLottery$State;" ∈ wsX7_flat := List.mem_of_getElem? (i := 1) rfl
theorem kX7_flat_63 : Cond.fieldLink RX7 63 "FlatLottery$State" "flats" "[LFlatLottery$Flat;" ∈ wsX7_flat := List.mem_of_getElem? (i := 2) rfl
theorem kX7_flat_67 : Cond.fieldLink RX7 67 "FlatLottery$Flat" "rooms" "I" ∈ wsX7_flat := List.mem_of_getElem? (i := 3) rfl
theorem kX7_flat_72 : Cond.fieldLink RX7 72 "FlatLottery$Flat" "rent" "I" ∈ wsX7_flat := List.mem_of_getElem? (i := 4) rfl
theorem nX7_flat_0 : ∀ w ∈ u_ws RX0 TX0 2, w ∈ wsX7_flat := in_r [62, 63] (by decide +kernel)
theorem nX7_flat_6 : ∀ w ∈ u_ws RX6 TX6 8, w ∈ wsX7_flat := in_r [54, 55, 56, 57, 58, 59, 60, 61] (by decide +kernel)
theorem nX7_flat_7 : ∀ w ∈ u_ws RX7 TX7 7, w ∈ wsX7_flat := in_r [47, 48, 49, 50, 51, 52, 53] (by decide +kernel)
set_option maxHeartbeats 4000000 in
set_option maxRecDepth 100000 in
theorem c_X7_flat {a1 : Int32} {a2 : Int32} {M : Mem} {r : Int32} {M' : Mem}  (hf : f_X7_flat a1 a2 M = some (r, M')) : CnI yX7_flat wsX7_flat 3 (fun ad => [.ref (ad 0), .int a1, .int a2]) M r M' := by
  unfold f_X7_flat at hf
  refine x_metI (cc := cX7_flat) (maxL := 3) RX7 rfl (by decide) rfl (fun ad => Nat.le_of_ble_eq_true rfl) (fun ad v hv => ?_) (fun p l e s m args below meth c D cs ad C hr => ?_)
  · simp only [List.mem_cons, List.not_mem_nil, or_false] at hv
    rcases hv with rfl | rfl | rfl <;> rfl
  · show V p l e (rmk 3) s m args below meth c 3 D cs ad (QI below s args D cs ad r M') 0 [some (.ref (ad 0)), some (.int a1), some (.int a2)] [] M
    refine x_aload_n C dX7_flat_0 rfl rfl ?_
    refine x_getr (Cn := RX7) (T := TX7) (N := 7) C tg_0 (by decide) rfl nX7_flat_7 0 (by decide) rfl kX7_flat_10 rfl dX7_flat_1 1 rfl ?_
    refine x_iload_n C dX7_flat_4 rfl rfl ?_
    obtain ⟨r1, M2, e3, hf⟩ := bd_of hf
    refine x_callV (n := 1) (Cn := RX6) (T := TX6) (N := 8) (As := [.int a1]) (rest := []) (maxL := 2) (ret := (some .boolean)) C (c_X6_hasFlat tg_1 e3) gX7_flat_X6_hasFlat rfl (by decide +kernel) ⟨Nat.le_of_ble_eq_true rfl, Nat.le_of_ble_eq_true rfl⟩ tg_1 (by decide) rfl rfl rfl rfl (Nat.le_of_ble_eq_true rfl) dX7_flat_5 ?_
    refine x_if_ne (tgt := 13) C dX7_flat_8 (by decide) (fun q4 => ?_) (fun q4 => ?_)
    · have hf := ift q4 hf
      refine x_iconst (v := (-1 : Int32)) C dX7_flat_11 (by decide) ?_
      exact x_iret C hr hf dX7_flat_12
    · have hf := iff_ q4 hf
      refine x_iload_n C dX7_flat_13 rfl rfl ?_
      by_cases q5 : a2 = (0 : Int32)
      · have hf := ift q5 hf
        refine x_tabIn (tgt := 48) (off := 34) C dX7_flat_14 (0 : Int32) q5 (by decide) (by decide) (by decide) (by decide) ?_
        refine x_aload_n C dX7_flat_48 rfl rfl ?_
        refine x_getr (Cn := RX7) (T := TX7) (N := 7) C tg_0 (by decide) rfl nX7_flat_7 0 (by decide) rfl kX7_flat_10 rfl dX7_flat_49 1 rfl ?_
        refine x_getr (Cn := RX6) (T := TX6) (N := 8) C tg_1 (by decide) rfl nX7_flat_6 0 (by decide) rfl kX7_flat_63 rfl dX7_flat_52 2 rfl ?_
        refine x_iload_n C dX7_flat_55 rfl rfl ?_
        obtain ⟨g6, hf⟩ := ck_of hf
        have w7 : 2 + 3 + (a1).toNatClampNeg = (5 + (a1).toNatClampNeg) := by omega
        have u8 : tg (5 + (a1).toNatClampNeg) = 0 := te_F (x := a1) tg_2 g6 w7
        refine x_aaldF (j := (a1).toNatClampNeg) C tg_2 tl_2 g6 rfl dX7_flat_56 (5 + (a1).toNatClampNeg) w7 ?_
        refine x_geti (Cn := RX0) (T := TX0) (N := 2) C u8 (by decide) rfl nX7_flat_0 0 (by decide) rfl kX7_flat_67 rfl dX7_flat_57 ?_
        exact x_iret C hr hf dX7_flat_60
      · have hf := iff_ q5 hf
        by_cases q9 : a2 = (1 : Int32)
        · have hf := ift q9 hf
          refine x_tabIn (tgt := 61) (off := 47) C dX7_flat_14 (1 : Int32) q9 (by decide) (by decide) (by decide) (by decide) ?_
          refine x_aload_n C dX7_flat_61 rfl rfl ?_
          refine x_getr (Cn := RX7) (T := TX7) (N := 7) C tg_0 (by decide) rfl nX7_flat_7 0 (by decide) rfl kX7_flat_10 rfl dX7_flat_62 1 rfl ?_
          refine x_getr (Cn := RX6) (T := TX6) (N := 8) C tg_1 (by decide) rfl nX7_flat_6 0 (by decide) rfl kX7_flat_63 rfl dX7_flat_65 2 rfl ?_
          refine x_iload_n C dX7_flat_68 rfl rfl ?_
          obtain ⟨g10, hf⟩ := ck_of hf
          have w11 : 2 + 3 + (a1).toNatClampNeg = (5 + (a1).toNatClampNeg) := by omega
          have u12 : tg (5 + (a1).toNatClampNeg) = 0 := te_F (x := a1) tg_2 g10 w11
          refine x_aaldF (j := (a1).toNatClampNeg) C tg_2 tl_2 g10 rfl dX7_flat_69 (5 + (a1).toNatClampNeg) w11 ?_
          refine x_geti (Cn := RX0) (T := TX0) (N := 2) C u12 (by decide) rfl nX7_flat_0 1 (by decide) rfl kX7_flat_72 rfl dX7_flat_70 ?_
          exact x_iret C hr hf dX7_flat_73
        · have hf := iff_ q9 hf
          by_cases q13 : a2 = (2 : Int32)
          · have hf := ift q13 hf
            refine x_tabIn (tgt := 74) (off := 60) C dX7_flat_14 (2 : Int32) q13 (by decide) (by decide) (by decide) (by decide) ?_
            refine x_aload_n C dX7_flat_74 rfl rfl ?_
            refine x_getr (Cn := RX7) (T := TX7) (N := 7) C tg_0 (by decide) rfl nX7_flat_7 0 (by decide) rfl kX7_flat_10 rfl dX7_flat_75 1 rfl ?_
            refine x_iload_n C dX7_flat_78 rfl rfl ?_
            obtain ⟨r14, M15, e16, hf⟩ := bd_of hf
            refine x_callV (n := 1) (Cn := RX6) (T := TX6) (N := 8) (As := [.int a1]) (rest := []) (maxL := 3) (ret := (some .int)) C (c_X6_holderOf tg_1 e16) gX7_flat_X6_holderOf rfl (by decide +kernel) ⟨Nat.le_of_ble_eq_true rfl, Nat.le_of_ble_eq_true rfl⟩ tg_1 (by decide) rfl rfl rfl rfl (Nat.le_of_ble_eq_true rfl) dX7_flat_79 ?_
            exact x_iret C hr hf dX7_flat_82
          · have hf := iff_ q13 hf
            by_cases q17 : a2 = (3 : Int32)
            · have hf := ift q17 hf
              refine x_tabIn (tgt := 83) (off := 69) C dX7_flat_14 (3 : Int32) q17 (by decide) (by decide) (by decide) (by decide) ?_
              refine x_aload_n C dX7_flat_83 rfl rfl ?_
              refine x_getr (Cn := RX7) (T := TX7) (N := 7) C tg_0 (by decide) rfl nX7_flat_7 0 (by decide) rfl kX7_flat_10 rfl dX7_flat_84 1 rfl ?_
              refine x_iload_n C dX7_flat_87 rfl rfl ?_
              obtain ⟨r18, M19, e20, hf⟩ := bd_of hf
              refine x_callV (n := 1) (Cn := RX6) (T := TX6) (N := 8) (As := [.int a1]) (rest := []) (maxL := 4) (ret := (some .int)) C (c_X6_wishersOf tg_1 e20) gX7_flat_X6_wishersOf rfl (by decide +kernel) ⟨Nat.le_of_ble_eq_true rfl, Nat.le_of_ble_eq_true rfl⟩ tg_1 (by decide) rfl rfl rfl rfl (Nat.le_of_ble_eq_true rfl) dX7_flat_88 ?_
              exact x_iret C hr hf dX7_flat_91
            · have hf := iff_ q17 hf
              by_cases q21 : a2 = (4 : Int32)
              · have hf := ift q21 hf
                refine x_tabIn (tgt := 92) (off := 78) C dX7_flat_14 (4 : Int32) q21 (by decide) (by decide) (by decide) (by decide) ?_
                refine x_aload_n C dX7_flat_92 rfl rfl ?_
                refine x_getr (Cn := RX7) (T := TX7) (N := 7) C tg_0 (by decide) rfl nX7_flat_7 0 (by decide) rfl kX7_flat_10 rfl dX7_flat_93 1 rfl ?_
                refine x_iload_n C dX7_flat_96 rfl rfl ?_
                obtain ⟨r22, M23, e24, hf⟩ := bd_of hf
                refine x_callV (n := 1) (Cn := RX6) (T := TX6) (N := 8) (As := [.int a1]) (rest := []) (maxL := 4) (ret := (some .int)) C (c_X6_eligibleFor tg_1 e24) gX7_flat_X6_eligibleFor rfl (by decide +kernel) ⟨Nat.le_of_ble_eq_true rfl, Nat.le_of_ble_eq_true rfl⟩ tg_1 (by decide) rfl rfl rfl rfl (Nat.le_of_ble_eq_true rfl) dX7_flat_97 ?_
                exact x_iret C hr hf dX7_flat_100
              · have hf := iff_ q21 hf
                have zq5 := lv_neT q5 (a := 0) (by decide)
                have zq9 := lv_neT q9 (a := 1) (by decide)
                have zq13 := lv_neT q13 (a := 2) (by decide)
                have zq17 := lv_neT q17 (a := 3) (by decide)
                have zq21 := lv_neT q21 (a := 4) (by decide)
                refine x_tabOut (tgt := 101) C dX7_flat_14 (by omega) (by decide) ?_
                refine x_bipush (v := (-2 : Int32)) C dX7_flat_101 (by decide) ?_
                exact x_iret C hr hf dX7_flat_103

theorem kX7_household_10 : Cond.fieldLink RX7 10 "FlatLottery" "state" "LFlatLottery$State;" ∈ wsX7_household := List.mem_of_getElem? (i := 1) rfl
theorem kX7_household_78 : Cond.fieldLink RX7 78 "FlatLottery$State" "households" "[LFlatLottery$Household;" ∈ wsX7_household := List.mem_of_getElem? (i := 2) rfl
theorem kX7_household_92 : Cond.fieldLink RX7 92 "FlatLottery$Household" "income" "I" ∈ wsX7_household := List.mem_of_getElem? (i := 4) rfl
theorem kX7_household_95 : Cond.fieldLink RX7 95 "FlatLottery$Household" "members" "I" ∈ wsX7_household := List.mem_of_getElem? (i := 3) rfl
theorem kX7_household_101 : Cond.fieldLink RX7 101 "FlatLottery$Household" "wishCount" "I" ∈ wsX7_household := List.mem_of_getElem? (i := 8) rfl
theorem kX7_household_136 : Cond.fieldLink RX7 136 "FlatLottery$Household" "number" "I" ∈ wsX7_household := List.mem_of_getElem? (i := 5) rfl
theorem kX7_household_148 : Cond.fieldLink RX7 148 "FlatLottery$Household" "held" "I" ∈ wsX7_household := List.mem_of_getElem? (i := 7) rfl
theorem kX7_household_151 : Cond.fieldLink RX7 151 "FlatLottery$Household" "points" "I" ∈ wsX7_household := List.mem_of_getElem? (i := 6) rfl
theorem kX7_household_163 : Cond.fieldLink RX7 163 "FlatLottery$Household" "appeals" "I" ∈ wsX7_household := List.mem_of_getElem? (i := 9) rfl
theorem kX7_household_218 : Cond.fieldLink RX7 218 "FlatLottery$Household" "passedOver" "I" ∈ wsX7_household := List.mem_of_getElem? (i := 10) rfl
theorem nX7_household_2 : ∀ w ∈ u_ws RX2 TX2 9, w ∈ wsX7_household := in_r [85, 86, 87, 88, 89, 90, 91, 92, 93] (by decide +kernel)
theorem nX7_household_6 : ∀ w ∈ u_ws RX6 TX6 8, w ∈ wsX7_household := in_r [77, 78, 79, 80, 81, 82, 83, 84] (by decide +kernel)
theorem nX7_household_7 : ∀ w ∈ u_ws RX7 TX7 7, w ∈ wsX7_household := in_r [70, 71, 72, 73, 74, 75, 76] (by decide +kernel)
set_option maxHeartbeats 4000000 in
set_option maxRecDepth 100000 in
theorem c_X7_household {a1 : Int32} {a2 : Int32} {M : Mem} {r : Int32} {M' : Mem}  (hf : f_X7_household a1 a2 M = some (r, M')) : CnI yX7_household wsX7_household 3 (fun ad => [.ref (ad 0), .int a1, .int a2]) M r M' := by
  unfold f_X7_household at hf
  refine x_metI (cc := cX7_household) (maxL := 4) RX7 rfl (by decide) rfl (fun ad => Nat.le_of_ble_eq_true rfl) (fun ad v hv => ?_) (fun p l e s m args below meth c D cs ad C hr => ?_)
  · simp only [List.mem_cons, List.not_mem_nil, or_false] at hv
    rcases hv with rfl | rfl | rfl <;> rfl
  · show V p l e (rmk 3) s m args below meth c 4 D cs ad (QI below s args D cs ad r M') 0 [some (.ref (ad 0)), some (.int a1), some (.int a2), none] [] M
    refine x_aload_n C dX7_household_0 rfl rfl ?_
    refine x_getr (Cn := RX7) (T := TX7) (N := 7) C tg_0 (by decide) rfl nX7_household_7 0 (by decide) rfl kX7_household_10 rfl dX7_household_1 1 rfl ?_
    refine x_iload_n C dX7_household_4 rfl rfl ?_
    obtain ⟨r1, M2, e3, hf⟩ := bd_of hf
    refine x_callV (n := 1) (Cn := RX6) (T := TX6) (N := 8) (As := [.int a1]) (rest := []) (maxL := 2) (ret := (some .boolean)) C (c_X6_hasHousehold tg_1 e3) gX7_household_X6_hasHousehold rfl (by decide +kernel) ⟨Nat.le_of_ble_eq_true rfl, Nat.le_of_ble_eq_true rfl⟩ tg_1 (by decide) rfl rfl rfl rfl (Nat.le_of_ble_eq_true rfl) dX7_household_5 ?_
    refine x_if_ne (tgt := 13) C dX7_household_8 (by decide) (fun q4 => ?_) (fun q4 => ?_)
    · have hf := ift q4 hf
      refine x_iconst (v := (-1 : Int32)) C dX7_household_11 (by decide) ?_
      exact x_iret C hr hf dX7_household_12
    · have hf := iff_ q4 hf
      refine x_aload_n C dX7_household_13 rfl rfl ?_
      refine x_getr (Cn := RX7) (T := TX7) (N := 7) C tg_0 (by decide) rfl nX7_household_7 0 (by decide) rfl kX7_household_10 rfl dX7_household_14 1 rfl ?_
      refine x_getr (Cn := RX6) (T := TX6) (N := 8) C tg_1 (by decide) rfl nX7_household_6 1 (by decide) rfl kX7_household_78 rfl dX7_household_17 3 rfl ?_
      refine x_iload_n C dX7_household_20 rfl rfl ?_
      obtain ⟨g5, hf⟩ := ck_of hf
      have w6 : 3 + 14 + 2 * (a1).toNatClampNeg = (17 + 2 * (a1).toNatClampNeg) := by omega
      have u7 : tg (17 + 2 * (a1).toNatClampNeg) = 2 := te_H (x := a1) tg_3 g5 w6
      refine x_aaldH (j := (a1).toNatClampNeg) C tg_3 tl_3 g5 rfl dX7_household_21 (17 + 2 * (a1).toNatClampNeg) w6 ?_
      refine x_astore_n (lv' := [some (.ref (ad 0)), some (.int a1), some (.int a2), some (.ref (ad (17 + 2 * (a1).toNatClampNeg)))]) C dX7_household_22 rfl (by decide) rfl ?_
      refine x_iload_n C dX7_household_23 rfl rfl ?_
      by_cases q8 : a2 = (0 : Int32)
      · have hf := ift q8 hf
        refine x_tabIn (tgt := 80) (off := 56) C dX7_household_24 (0 : Int32) q8 (by decide) (by decide) (by decide) (by decide) ?_
        refine x_aload_n C dX7_household_80 rfl rfl ?_
        refine x_geti (Cn := RX2) (T := TX2) (N := 9) C u7 (by decide) rfl nX7_household_2 2 (by decide) rfl kX7_household_95 rfl dX7_household_81 ?_
        exact x_iret C hr hf dX7_household_84
      · have hf := iff_ q8 hf
        by_cases q9 : a2 = (1 : Int32)
        · have hf := ift q9 hf
          refine x_tabIn (tgt := 85) (off := 61) C dX7_household_24 (1 : Int32) q9 (by decide) (by decide) (by decide) (by decide) ?_
          refine x_aload_n C dX7_household_85 rfl rfl ?_
          refine x_geti (Cn := RX2) (T := TX2) (N := 9) C u7 (by decide) rfl nX7_household_2 3 (by decide) rfl kX7_household_92 rfl dX7_household_86 ?_
          exact x_iret C hr hf dX7_household_89
        · have hf := iff_ q9 hf
          by_cases q10 : a2 = (2 : Int32)
          · have hf := ift q10 hf
            refine x_tabIn (tgt := 90) (off := 66) C dX7_household_24 (2 : Int32) q10 (by decide) (by decide) (by decide) (by decide) ?_
            refine x_aload_n C dX7_household_90 rfl rfl ?_
            refine x_geti (Cn := RX2) (T := TX2) (N := 9) C u7 (by decide) rfl nX7_household_2 4 (by decide) rfl kX7_household_136 rfl dX7_household_91 ?_
            exact x_iret C hr hf dX7_household_94
          · have hf := iff_ q10 hf
            by_cases q11 : a2 = (3 : Int32)
            · have hf := ift q11 hf
              refine x_tabIn (tgt := 95) (off := 71) C dX7_household_24 (3 : Int32) q11 (by decide) (by decide) (by decide) (by decide) ?_
              refine x_aload_n C dX7_household_95 rfl rfl ?_
              refine x_geti (Cn := RX2) (T := TX2) (N := 9) C u7 (by decide) rfl nX7_household_2 5 (by decide) rfl kX7_household_151 rfl dX7_household_96 ?_
              exact x_iret C hr hf dX7_household_99
            · have hf := iff_ q11 hf
              by_cases q12 : a2 = (4 : Int32)
              · have hf := ift q12 hf
                refine x_tabIn (tgt := 100) (off := 76) C dX7_household_24 (4 : Int32) q12 (by decide) (by decide) (by decide) (by decide) ?_
                refine x_aload_n C dX7_household_100 rfl rfl ?_
                refine x_geti (Cn := RX2) (T := TX2) (N := 9) C u7 (by decide) rfl nX7_household_2 6 (by decide) rfl kX7_household_148 rfl dX7_household_101 ?_
                exact x_iret C hr hf dX7_household_104
              · have hf := iff_ q12 hf
                by_cases q13 : a2 = (5 : Int32)
                · have hf := ift q13 hf
                  refine x_tabIn (tgt := 105) (off := 81) C dX7_household_24 (5 : Int32) q13 (by decide) (by decide) (by decide) (by decide) ?_
                  refine x_aload_n C dX7_household_105 rfl rfl ?_
                  refine x_geti (Cn := RX2) (T := TX2) (N := 9) C u7 (by decide) rfl nX7_household_2 1 (by decide) rfl kX7_household_101 rfl dX7_household_106 ?_
                  exact x_iret C hr hf dX7_household_109
                · have hf := iff_ q13 hf
                  by_cases q14 : a2 = (6 : Int32)
                  · have hf := ift q14 hf
                    refine x_tabIn (tgt := 110) (off := 86) C dX7_household_24 (6 : Int32) q14 (by decide) (by decide) (by decide) (by decide) ?_
                    refine x_aload_n C dX7_household_110 rfl rfl ?_
                    refine x_geti (Cn := RX2) (T := TX2) (N := 9) C u7 (by decide) rfl nX7_household_2 7 (by decide) rfl kX7_household_163 rfl dX7_household_111 ?_
                    exact x_iret C hr hf dX7_household_114
                  · have hf := iff_ q14 hf
                    by_cases q15 : a2 = (7 : Int32)
                    · have hf := ift q15 hf
                      refine x_tabIn (tgt := 115) (off := 91) C dX7_household_24 (7 : Int32) q15 (by decide) (by decide) (by decide) (by decide) ?_
                      refine x_aload_n C dX7_household_115 rfl rfl ?_
                      refine x_getr (Cn := RX7) (T := TX7) (N := 7) C tg_0 (by decide) rfl nX7_household_7 0 (by decide) rfl kX7_household_10 rfl dX7_household_116 1 rfl ?_
                      refine x_aload_n C dX7_household_119 rfl rfl ?_
                      obtain ⟨r16, M17, e18, hf⟩ := bd_of hf
                      refine x_callV (n := 1) (Cn := RX6) (T := TX6) (N := 8) (As := [.ref (ad (17 + 2 * (a1).toNatClampNeg))]) (rest := []) (maxL := 4) (ret := (some .int)) C (c_X6_placeInOrder tg_1 u7 e18) gX7_household_X6_placeInOrder rfl (by decide +kernel) ⟨Nat.le_of_ble_eq_true rfl, Nat.le_of_ble_eq_true rfl⟩ tg_1 (by decide) rfl rfl rfl rfl (Nat.le_of_ble_eq_true rfl) dX7_household_120 ?_
                      exact x_iret C hr hf dX7_household_123
                    · have hf := iff_ q15 hf
                      by_cases q19 : a2 = (8 : Int32)
                      · have hf := ift q19 hf
                        refine x_tabIn (tgt := 124) (off := 100) C dX7_household_24 (8 : Int32) q19 (by decide) (by decide) (by decide) (by decide) ?_
                        refine x_aload_n C dX7_household_124 rfl rfl ?_
                        refine x_getr (Cn := RX7) (T := TX7) (N := 7) C tg_0 (by decide) rfl nX7_household_7 0 (by decide) rfl kX7_household_10 rfl dX7_household_125 1 rfl ?_
                        refine x_aload_n C dX7_household_128 rfl rfl ?_
                        obtain ⟨r20, M21, e22, hf⟩ := bd_of hf
                        refine x_callV (n := 1) (Cn := RX6) (T := TX6) (N := 8) (As := [.ref (ad (17 + 2 * (a1).toNatClampNeg))]) (rest := []) (maxL := 5) (ret := (some .int)) C (c_X6_pointsTo tg_1 u7 e22) gX7_household_X6_pointsTo rfl (by decide +kernel) ⟨Nat.le_of_ble_eq_true rfl, Nat.le_of_ble_eq_true rfl⟩ tg_1 (by decide) rfl rfl rfl rfl (Nat.le_of_ble_eq_true rfl) dX7_household_129 ?_
                        exact x_iret C hr hf dX7_household_132
                      · have hf := iff_ q19 hf
                        by_cases q23 : a2 = (9 : Int32)
                        · have hf := ift q23 hf
                          refine x_tabIn (tgt := 133) (off := 109) C dX7_household_24 (9 : Int32) q23 (by decide) (by decide) (by decide) (by decide) ?_
                          refine x_aload_n C dX7_household_133 rfl rfl ?_
                          refine x_geti (Cn := RX2) (T := TX2) (N := 9) C u7 (by decide) rfl nX7_household_2 8 (by decide) rfl kX7_household_218 rfl dX7_household_134 ?_
                          exact x_iret C hr hf dX7_household_137
                        · have hf := iff_ q23 hf
                          have zq8 := lv_neT q8 (a := 0) (by decide)
                          have zq9 := lv_neT q9 (a := 1) (by decide)
                          have zq10 := lv_neT q10 (a := 2) (by decide)
                          have zq11 := lv_neT q11 (a := 3) (by decide)
                          have zq12 := lv_neT q12 (a := 4) (by decide)
                          have zq13 := lv_neT q13 (a := 5) (by decide)
                          have zq14 := lv_neT q14 (a := 6) (by decide)
                          have zq15 := lv_neT q15 (a := 7) (by decide)
                          have zq19 := lv_neT q19 (a := 8) (by decide)
                          have zq23 := lv_neT q23 (a := 9) (by decide)
                          refine x_tabOut (tgt := 138) C dX7_household_24 (by omega) (by decide) ?_
                          refine x_bipush (v := (-2 : Int32)) C dX7_household_138 (by decide) ?_
                          exact x_iret C hr hf dX7_household_140

theorem kX7_moveOut_10 : Cond.fieldLink RX7 10 "FlatLottery" "state" "LFlatLottery$State;" ∈ wsX7_moveOut := List.mem_of_getElem? (i := 1) rfl
theorem kX7_moveOut_26 : Cond.fieldLink RX7 26 "FlatLottery" "history" "LFlatLottery$History;" ∈ wsX7_moveOut := List.mem_of_getElem? (i := 4) rfl
theorem kX7_moveOut_78 : Cond.fieldLink RX7 78 "FlatLottery$State" "households" "[LFlatLottery$Household;" ∈ wsX7_moveOut := List.mem_of_getElem? (i := 2) rfl
theorem kX7_moveOut_148 : Cond.fieldLink RX7 148 "FlatLottery$Household" "held" "I" ∈ wsX7_moveOut := List.mem_of_getElem? (i := 3) rfl
theorem nX7_moveOut_2 : ∀ w ∈ u_ws RX2 TX2 9, w ∈ wsX7_moveOut := in_r [68, 69, 70, 71, 72, 73, 74, 75, 76] (by decide +kernel)
theorem nX7_moveOut_6 : ∀ w ∈ u_ws RX6 TX6 8, w ∈ wsX7_moveOut := in_r [60, 61, 62, 63, 64, 65, 66, 67] (by decide +kernel)
theorem nX7_moveOut_7 : ∀ w ∈ u_ws RX7 TX7 7, w ∈ wsX7_moveOut := in_r [53, 54, 55, 56, 57, 58, 59] (by decide +kernel)
set_option maxHeartbeats 4000000 in
set_option maxRecDepth 100000 in
theorem c_X7_moveOut {a1 : Int32} {M : Mem} {r : Int32} {M' : Mem}  (hf : f_X7_moveOut a1 M = some (r, M')) : CnI yX7_moveOut wsX7_moveOut 3 (fun ad => [.ref (ad 0), .int a1]) M r M' := by
  unfold f_X7_moveOut at hf
  refine x_metI (cc := cX7_moveOut) (maxL := 4) RX7 rfl (by decide) rfl (fun ad => Nat.le_of_ble_eq_true rfl) (fun ad v hv => ?_) (fun p l e s m args below meth c D cs ad C hr => ?_)
  · simp only [List.mem_cons, List.not_mem_nil, or_false] at hv
    rcases hv with rfl | rfl <;> rfl
  · show V p l e (rmk 3) s m args below meth c 4 D cs ad (QI below s args D cs ad r M') 0 [some (.ref (ad 0)), some (.int a1), none, none] [] M
    refine x_aload_n C dX7_moveOut_0 rfl rfl ?_
    refine x_getr (Cn := RX7) (T := TX7) (N := 7) C tg_0 (by decide) rfl nX7_moveOut_7 0 (by decide) rfl kX7_moveOut_10 rfl dX7_moveOut_1 1 rfl ?_
    refine x_iload_n C dX7_moveOut_4 rfl rfl ?_
    obtain ⟨r1, M2, e3, hf⟩ := bd_of hf
    refine x_callV (n := 1) (Cn := RX6) (T := TX6) (N := 8) (As := [.int a1]) (rest := []) (maxL := 2) (ret := (some .boolean)) C (c_X6_hasHousehold tg_1 e3) gX7_moveOut_X6_hasHousehold rfl (by decide +kernel) ⟨Nat.le_of_ble_eq_true rfl, Nat.le_of_ble_eq_true rfl⟩ tg_1 (by decide) rfl rfl rfl rfl (Nat.le_of_ble_eq_true rfl) dX7_moveOut_5 ?_
    refine x_if_ne (tgt := 13) C dX7_moveOut_8 (by decide) (fun q4 => ?_) (fun q4 => ?_)
    · have hf := ift q4 hf
      refine x_iconst (v := (-1 : Int32)) C dX7_moveOut_11 (by decide) ?_
      exact x_iret C hr hf dX7_moveOut_12
    · have hf := iff_ q4 hf
      refine x_aload_n C dX7_moveOut_13 rfl rfl ?_
      refine x_getr (Cn := RX7) (T := TX7) (N := 7) C tg_0 (by decide) rfl nX7_moveOut_7 0 (by decide) rfl kX7_moveOut_10 rfl dX7_moveOut_14 1 rfl ?_
      refine x_getr (Cn := RX6) (T := TX6) (N := 8) C tg_1 (by decide) rfl nX7_moveOut_6 1 (by decide) rfl kX7_moveOut_78 rfl dX7_moveOut_17 3 rfl ?_
      refine x_iload_n C dX7_moveOut_20 rfl rfl ?_
      obtain ⟨g5, hf⟩ := ck_of hf
      have w6 : 3 + 14 + 2 * (a1).toNatClampNeg = (17 + 2 * (a1).toNatClampNeg) := by omega
      have u7 : tg (17 + 2 * (a1).toNatClampNeg) = 2 := te_H (x := a1) tg_3 g5 w6
      refine x_aaldH (j := (a1).toNatClampNeg) C tg_3 tl_3 g5 rfl dX7_moveOut_21 (17 + 2 * (a1).toNatClampNeg) w6 ?_
      refine x_astore_n (lv' := [some (.ref (ad 0)), some (.int a1), some (.ref (ad (17 + 2 * (a1).toNatClampNeg))), none]) C dX7_moveOut_22 rfl (by decide) rfl ?_
      refine x_aload_n C dX7_moveOut_23 rfl rfl ?_
      refine x_geti (Cn := RX2) (T := TX2) (N := 9) C u7 (by decide) rfl nX7_moveOut_2 6 (by decide) rfl kX7_moveOut_148 rfl dX7_moveOut_24 ?_
      refine x_istore_n (lv' := [some (.ref (ad 0)), some (.int a1), some (.ref (ad (17 + 2 * (a1).toNatClampNeg))), some (.int (M2 (17 + 2 * (a1).toNatClampNeg) 6))]) C dX7_moveOut_27 rfl (by decide) rfl ?_
      refine x_iload_n C dX7_moveOut_28 rfl rfl ?_
      refine x_bipush (v := (-5 : Int32)) C dX7_moveOut_29 (by decide) ?_
      refine x_icmp_ne (tgt := 37) C dX7_moveOut_31 (by decide) (fun q8 => ?_) (fun q8 => ?_)
      · have hf := ift q8 hf
        refine x_bipush (v := (-5 : Int32)) C dX7_moveOut_34 (by decide) ?_
        exact x_iret C hr hf dX7_moveOut_36
      · have hf := iff_ q8 hf
        refine x_aload_n C dX7_moveOut_37 rfl rfl ?_
        refine x_getr (Cn := RX7) (T := TX7) (N := 7) C tg_0 (by decide) rfl nX7_moveOut_7 3 (by decide) rfl kX7_moveOut_26 rfl dX7_moveOut_38 81 rfl ?_
        refine x_aload_n C dX7_moveOut_41 rfl rfl ?_
        refine x_getr (Cn := RX7) (T := TX7) (N := 7) C tg_0 (by decide) rfl nX7_moveOut_7 0 (by decide) rfl kX7_moveOut_10 rfl dX7_moveOut_42 1 rfl ?_
        obtain ⟨r9, M10, e11, hf⟩ := bd_of hf
        refine x_callVv (n := 1) (Cn := RX1) (T := TX1) (N := 2) (As := [.ref (ad 1)]) (rest := []) (maxL := 2) (ret := none) C (c_X1_record tg_1 e11) gX7_moveOut_X1_record rfl (by decide +kernel) ⟨Nat.le_of_ble_eq_true rfl, Nat.le_of_ble_eq_true rfl⟩ tg_81 (by decide) rfl rfl rfl rfl (Nat.le_of_ble_eq_true rfl) dX7_moveOut_45 ?_
        refine x_aload_n C dX7_moveOut_48 rfl rfl ?_
        refine x_bipush (v := (-5 : Int32)) C dX7_moveOut_49 (by decide) ?_
        refine x_puti (ty := .int) (Cn := RX2) (T := TX2) (N := 9) C u7 (by decide) rfl nX7_moveOut_2 tyX2 tyX2_ok nmX2 6 (by decide) rfl kX7_moveOut_148 rfl rfl (by decide +kernel) rfl rfl dX7_moveOut_51 ?_
        refine x_gen hf (fun M12 hf => ?_)
        refine x_iload_n C dX7_moveOut_54 rfl rfl ?_
        exact x_iret C hr hf dX7_moveOut_55

theorem kX7_ordered_10 : Cond.fieldLink RX7 10 "FlatLottery" "state" "LFlatLottery$State;" ∈ wsX7_ordered := List.mem_of_getElem? (i := 1) rfl
theorem kX7_ordered_228 : Cond.fieldLink RX7 228 "FlatLottery$State" "order" "[I" ∈ wsX7_ordered := List.mem_of_getElem? (i := 2) rfl
theorem nX7_ordered_6 : ∀ w ∈ u_ws RX6 TX6 8, w ∈ wsX7_ordered := in_r [30, 31, 32, 33, 34, 35, 36, 37] (by decide +kernel)
theorem nX7_ordered_7 : ∀ w ∈ u_ws RX7 TX7 7, w ∈ wsX7_ordered := in_r [23, 24, 25, 26, 27, 28, 29] (by decide +kernel)
set_option maxHeartbeats 4000000 in
set_option maxRecDepth 100000 in
theorem c_X7_ordered {a1 : Int32} {M : Mem} {r : Int32} {M' : Mem}  (hf : f_X7_ordered a1 M = some (r, M')) : CnI yX7_ordered wsX7_ordered 3 (fun ad => [.ref (ad 0), .int a1]) M r M' := by
  unfold f_X7_ordered at hf
  refine x_metI (cc := cX7_ordered) (maxL := 2) RX7 rfl (by decide) rfl (fun ad => Nat.le_of_ble_eq_true rfl) (fun ad v hv => ?_) (fun p l e s m args below meth c D cs ad C hr => ?_)
  · simp only [List.mem_cons, List.not_mem_nil, or_false] at hv
    rcases hv with rfl | rfl <;> rfl
  · show V p l e (rmk 3) s m args below meth c 2 D cs ad (QI below s args D cs ad r M') 0 [some (.ref (ad 0)), some (.int a1)] [] M
    refine x_iload_n C dX7_ordered_0 rfl rfl ?_
    refine x_if_ge (tgt := 7) C dX7_ordered_1 (by decide) (fun q1 => ?_) (fun q1 => ?_)
    · have hf := ift q1 hf
      refine x_iload_n C dX7_ordered_7 rfl rfl ?_
      refine x_aload_n C dX7_ordered_8 rfl rfl ?_
      refine x_getr (Cn := RX7) (T := TX7) (N := 7) C tg_0 (by decide) rfl nX7_ordered_7 0 (by decide) rfl kX7_ordered_10 rfl dX7_ordered_9 1 rfl ?_
      obtain ⟨r2, M3, e4, hf⟩ := bd_of hf
      refine x_callV (n := 0) (Cn := RX6) (T := TX6) (N := 8) (As := []) (rest := [.int a1]) (maxL := 4) (ret := (some .int)) C (c_X6_lineUp tg_1 e4) gX7_ordered_X6_lineUp rfl (by decide +kernel) ⟨Nat.le_of_ble_eq_true rfl, Nat.le_of_ble_eq_true rfl⟩ tg_1 (by decide) rfl rfl rfl rfl (Nat.le_of_ble_eq_true rfl) dX7_ordered_12 ?_
      refine x_icmp_lt (tgt := 21) C dX7_ordered_15 (by decide) (fun q5 => ?_) (fun q5 => ?_)
      · have hf := ift q5 hf
        refine x_aload_n C dX7_ordered_21 rfl rfl ?_
        refine x_getr (Cn := RX7) (T := TX7) (N := 7) C tg_0 (by decide) rfl nX7_ordered_7 0 (by decide) rfl kX7_ordered_10 rfl dX7_ordered_22 1 rfl ?_
        refine x_getr (Cn := RX6) (T := TX6) (N := 8) C tg_1 (by decide) rfl nX7_ordered_6 7 (by decide) rfl kX7_ordered_228 rfl dX7_ordered_25 4 rfl ?_
        refine x_iload_n C dX7_ordered_28 rfl rfl ?_
        obtain ⟨g6, hf⟩ := ck_of hf
        refine x_iald (j := (a1).toNatClampNeg) C tg_4 tl_4 g6 rfl dX7_ordered_29 ?_
        exact x_iret C hr hf dX7_ordered_30
      · have hf := iff_ q5 hf
        refine x_bipush (v := (-5 : Int32)) C dX7_ordered_18 (by decide) ?_
        exact x_iret C hr hf dX7_ordered_20
    · have hf := iff_ q1 hf
      refine x_bipush (v := (-2 : Int32)) C dX7_ordered_4 (by decide) ?_
      exact x_iret C hr hf dX7_ordered_6

theorem kX7_restore_10 : Cond.fieldLink RX7 10 "FlatLottery" "state" "LFlatLottery$State;" ∈ wsX7_restore := List.mem_of_getElem? (i := 3) rfl
theorem kX7_restore_16 : Cond.fieldLink RX7 16 "FlatLottery" "snapshot" "LFlatLottery$State;" ∈ wsX7_restore := List.mem_of_getElem? (i := 4) rfl
theorem kX7_restore_19 : Cond.fieldLink RX7 19 "FlatLottery" "hasSnapshot" "Z" ∈ wsX7_restore := List.mem_of_getElem? (i := 1) rfl
theorem kX7_restore_26 : Cond.fieldLink RX7 26 "FlatLottery" "history" "LFlatLottery$History;" ∈ wsX7_restore := List.mem_of_getElem? (i := 2) rfl
theorem nX7_restore_7 : ∀ w ∈ u_ws RX7 TX7 7, w ∈ wsX7_restore := in_r [55, 56, 57, 58, 59, 60, 61] (by decide +kernel)
set_option maxHeartbeats 4000000 in
set_option maxRecDepth 100000 in
theorem c_X7_restore  {M : Mem} {r : Int32} {M' : Mem}  (hf : f_X7_restore  M = some (r, M')) : CnI yX7_restore wsX7_restore 3 (fun ad => [.ref (ad 0)]) M r M' := by
  unfold f_X7_restore at hf
  refine x_metI (cc := cX7_restore) (maxL := 1) RX7 rfl (by decide) rfl (fun ad => Nat.le_of_ble_eq_true rfl) (fun ad v hv => ?_) (fun p l e s m args below meth c D cs ad C hr => ?_)
  · simp only [List.mem_cons, List.not_mem_nil, or_false] at hv
    rcases hv with rfl <;> rfl
  · show V p l e (rmk 3) s m args below meth c 1 D cs ad (QI below s args D cs ad r M') 0 [some (.ref (ad 0))] [] M
    refine x_aload_n C dX7_restore_0 rfl rfl ?_
    refine x_geti (Cn := RX7) (T := TX7) (N := 7) C tg_0 (by decide) rfl nX7_restore_7 2 (by decide) rfl kX7_restore_19 rfl dX7_restore_1 ?_
    refine x_if_ne (tgt := 10) C dX7_restore_4 (by decide) (fun q1 => ?_) (fun q1 => ?_)
    · have hf := ift q1 hf
      refine x_bipush (v := (-5 : Int32)) C dX7_restore_7 (by decide) ?_
      exact x_iret C hr hf dX7_restore_9
    · have hf := iff_ q1 hf
      refine x_aload_n C dX7_restore_10 rfl rfl ?_
      refine x_getr (Cn := RX7) (T := TX7) (N := 7) C tg_0 (by decide) rfl nX7_restore_7 3 (by decide) rfl kX7_restore_26 rfl dX7_restore_11 81 rfl ?_
      refine x_aload_n C dX7_restore_14 rfl rfl ?_
      refine x_getr (Cn := RX7) (T := TX7) (N := 7) C tg_0 (by decide) rfl nX7_restore_7 0 (by decide) rfl kX7_restore_10 rfl dX7_restore_15 1 rfl ?_
      obtain ⟨r2, M3, e4, hf⟩ := bd_of hf
      refine x_callVv (n := 1) (Cn := RX1) (T := TX1) (N := 2) (As := [.ref (ad 1)]) (rest := []) (maxL := 2) (ret := none) C (c_X1_record tg_1 e4) gX7_restore_X1_record rfl (by decide +kernel) ⟨Nat.le_of_ble_eq_true rfl, Nat.le_of_ble_eq_true rfl⟩ tg_81 (by decide) rfl rfl rfl rfl (Nat.le_of_ble_eq_true rfl) dX7_restore_18 ?_
      refine x_aload_n C dX7_restore_21 rfl rfl ?_
      refine x_getr (Cn := RX7) (T := TX7) (N := 7) C tg_0 (by decide) rfl nX7_restore_7 0 (by decide) rfl kX7_restore_10 rfl dX7_restore_22 1 rfl ?_
      refine x_aload_n C dX7_restore_25 rfl rfl ?_
      refine x_getr (Cn := RX7) (T := TX7) (N := 7) C tg_0 (by decide) rfl nX7_restore_7 1 (by decide) rfl kX7_restore_16 rfl dX7_restore_26 41 rfl ?_
      obtain ⟨r5, M6, e7, hf⟩ := bd_of hf
      refine x_callVv (n := 1) (Cn := RX6) (T := TX6) (N := 8) (As := [.ref (ad 41)]) (rest := []) (maxL := 3) (ret := none) C (c_X6_copyFrom tg_1 tg_41 e7) gX7_restore_X6_copyFrom rfl (by decide +kernel) ⟨Nat.le_of_ble_eq_true rfl, Nat.le_of_ble_eq_true rfl⟩ tg_1 (by decide) rfl rfl rfl rfl (Nat.le_of_ble_eq_true rfl) dX7_restore_29 ?_
      refine x_aload_n C dX7_restore_32 rfl rfl ?_
      refine x_getr (Cn := RX7) (T := TX7) (N := 7) C tg_0 (by decide) rfl nX7_restore_7 0 (by decide) rfl kX7_restore_10 rfl dX7_restore_33 1 rfl ?_
      obtain ⟨r8, M9, e10, hf⟩ := bd_of hf
      refine x_callV (n := 0) (Cn := RX6) (T := TX6) (N := 8) (As := []) (rest := []) (maxL := 3) (ret := (some .int)) C (c_X6_countHeld tg_1 e10) gX7_restore_X6_countHeld rfl (by decide +kernel) ⟨Nat.le_of_ble_eq_true rfl, Nat.le_of_ble_eq_true rfl⟩ tg_1 (by decide) rfl rfl rfl rfl (Nat.le_of_ble_eq_true rfl) dX7_restore_36 ?_
      exact x_iret C hr hf dX7_restore_39

theorem kX7_undo_10 : Cond.fieldLink RX7 10 "FlatLottery" "state" "LFlatLottery$State;" ∈ wsX7_undo := List.mem_of_getElem? (i := 3) rfl
theorem kX7_undo_26 : Cond.fieldLink RX7 26 "FlatLottery" "history" "LFlatLottery$History;" ∈ wsX7_undo := List.mem_of_getElem? (i := 1) rfl
theorem kX7_undo_190 : Cond.fieldLink RX7 190 "FlatLottery$History" "size" "I" ∈ wsX7_undo := List.mem_of_getElem? (i := 2) rfl
theorem nX7_undo_1 : ∀ w ∈ u_ws RX1 TX1 2, w ∈ wsX7_undo := in_r [51, 52] (by decide +kernel)
theorem nX7_undo_7 : ∀ w ∈ u_ws RX7 TX7 7, w ∈ wsX7_undo := in_r [44, 45, 46, 47, 48, 49, 50] (by decide +kernel)
set_option maxHeartbeats 4000000 in
set_option maxRecDepth 100000 in
theorem c_X7_undo  {M : Mem} {r : Int32} {M' : Mem}  (hf : f_X7_undo  M = some (r, M')) : CnI yX7_undo wsX7_undo 3 (fun ad => [.ref (ad 0)]) M r M' := by
  unfold f_X7_undo at hf
  refine x_metI (cc := cX7_undo) (maxL := 1) RX7 rfl (by decide) rfl (fun ad => Nat.le_of_ble_eq_true rfl) (fun ad v hv => ?_) (fun p l e s m args below meth c D cs ad C hr => ?_)
  · simp only [List.mem_cons, List.not_mem_nil, or_false] at hv
    rcases hv with rfl <;> rfl
  · show V p l e (rmk 3) s m args below meth c 1 D cs ad (QI below s args D cs ad r M') 0 [some (.ref (ad 0))] [] M
    refine x_aload_n C dX7_undo_0 rfl rfl ?_
    refine x_getr (Cn := RX7) (T := TX7) (N := 7) C tg_0 (by decide) rfl nX7_undo_7 3 (by decide) rfl kX7_undo_26 rfl dX7_undo_1 81 rfl ?_
    refine x_geti (Cn := RX1) (T := TX1) (N := 2) C tg_81 (by decide) rfl nX7_undo_1 1 (by decide) rfl kX7_undo_190 rfl dX7_undo_4 ?_
    refine x_if_ne (tgt := 13) C dX7_undo_7 (by decide) (fun q1 => ?_) (fun q1 => ?_)
    · have hf := ift q1 hf
      refine x_bipush (v := (-5 : Int32)) C dX7_undo_10 (by decide) ?_
      exact x_iret C hr hf dX7_undo_12
    · have hf := iff_ q1 hf
      refine x_aload_n C dX7_undo_13 rfl rfl ?_
      refine x_getr (Cn := RX7) (T := TX7) (N := 7) C tg_0 (by decide) rfl nX7_undo_7 3 (by decide) rfl kX7_undo_26 rfl dX7_undo_14 81 rfl ?_
      refine x_aload_n C dX7_undo_17 rfl rfl ?_
      refine x_getr (Cn := RX7) (T := TX7) (N := 7) C tg_0 (by decide) rfl nX7_undo_7 0 (by decide) rfl kX7_undo_10 rfl dX7_undo_18 1 rfl ?_
      obtain ⟨r2, M3, e4, hf⟩ := bd_of hf
      refine x_callVv (n := 1) (Cn := RX1) (T := TX1) (N := 2) (As := [.ref (ad 1)]) (rest := []) (maxL := 2) (ret := none) C (c_X1_takeBack tg_1 e4) gX7_undo_X1_takeBack rfl (by decide +kernel) ⟨Nat.le_of_ble_eq_true rfl, Nat.le_of_ble_eq_true rfl⟩ tg_81 (by decide) rfl rfl rfl rfl (Nat.le_of_ble_eq_true rfl) dX7_undo_21 ?_
      refine x_aload_n C dX7_undo_24 rfl rfl ?_
      refine x_getr (Cn := RX7) (T := TX7) (N := 7) C tg_0 (by decide) rfl nX7_undo_7 3 (by decide) rfl kX7_undo_26 rfl dX7_undo_25 81 rfl ?_
      refine x_geti (Cn := RX1) (T := TX1) (N := 2) C tg_81 (by decide) rfl nX7_undo_1 1 (by decide) rfl kX7_undo_190 rfl dX7_undo_28 ?_
      exact x_iret C hr hf dX7_undo_31

theorem kX7_unwish_10 : Cond.fieldLink RX7 10 "FlatLottery" "state" "LFlatLottery$State;" ∈ wsX7_unwish := List.mem_of_getElem? (i := 1) rfl
theorem kX7_unwish_26 : Cond.fieldLink RX7 26 "FlatLottery" "history" "LFlatLottery$History;" ∈ wsX7_unwish := List.mem_of_getElem? (i := 3) rfl
theorem kX7_unwish_78 : Cond.fieldLink RX7 78 "FlatLottery$State" "households" "[LFlatLottery$Household;" ∈ wsX7_unwish := List.mem_of_getElem? (i := 2) rfl
theorem nX7_unwish_6 : ∀ w ∈ u_ws RX6 TX6 8, w ∈ wsX7_unwish := in_r [72, 73, 74, 75, 76, 77, 78, 79] (by decide +kernel)
theorem nX7_unwish_7 : ∀ w ∈ u_ws RX7 TX7 7, w ∈ wsX7_unwish := in_r [65, 66, 67, 68, 69, 70, 71] (by decide +kernel)
set_option maxHeartbeats 4000000 in
set_option maxRecDepth 100000 in
theorem c_X7_unwish {a1 : Int32} {a2 : Int32} {M : Mem} {r : Int32} {M' : Mem}  (hf : f_X7_unwish a1 a2 M = some (r, M')) : CnI yX7_unwish wsX7_unwish 3 (fun ad => [.ref (ad 0), .int a1, .int a2]) M r M' := by
  unfold f_X7_unwish at hf
  refine x_metI (cc := cX7_unwish) (maxL := 5) RX7 rfl (by decide) rfl (fun ad => Nat.le_of_ble_eq_true rfl) (fun ad v hv => ?_) (fun p l e s m args below meth c D cs ad C hr => ?_)
  · simp only [List.mem_cons, List.not_mem_nil, or_false] at hv
    rcases hv with rfl | rfl | rfl <;> rfl
  · show V p l e (rmk 3) s m args below meth c 5 D cs ad (QI below s args D cs ad r M') 0 [some (.ref (ad 0)), some (.int a1), some (.int a2), none, none] [] M
    refine x_aload_n C dX7_unwish_0 rfl rfl ?_
    refine x_getr (Cn := RX7) (T := TX7) (N := 7) C tg_0 (by decide) rfl nX7_unwish_7 0 (by decide) rfl kX7_unwish_10 rfl dX7_unwish_1 1 rfl ?_
    refine x_iload_n C dX7_unwish_4 rfl rfl ?_
    obtain ⟨r1, M2, e3, hf⟩ := bd_of hf
    refine x_callV (n := 1) (Cn := RX6) (T := TX6) (N := 8) (As := [.int a1]) (rest := []) (maxL := 2) (ret := (some .boolean)) C (c_X6_hasHousehold tg_1 e3) gX7_unwish_X6_hasHousehold rfl (by decide +kernel) ⟨Nat.le_of_ble_eq_true rfl, Nat.le_of_ble_eq_true rfl⟩ tg_1 (by decide) rfl rfl rfl rfl (Nat.le_of_ble_eq_true rfl) dX7_unwish_5 ?_
    refine x_if_eq (tgt := 22) C dX7_unwish_8 (by decide) (fun q4 => ?_) (fun q4 => ?_)
    · have hf := ift q4 hf
      refine x_iconst (v := (-1 : Int32)) C dX7_unwish_22 (by decide) ?_
      exact x_iret C hr hf dX7_unwish_23
    · have hf := iff_ q4 hf
      refine x_aload_n C dX7_unwish_11 rfl rfl ?_
      refine x_getr (Cn := RX7) (T := TX7) (N := 7) C tg_0 (by decide) rfl nX7_unwish_7 0 (by decide) rfl kX7_unwish_10 rfl dX7_unwish_12 1 rfl ?_
      refine x_iload_n C dX7_unwish_15 rfl rfl ?_
      obtain ⟨r5, M6, e7, hf⟩ := bd_of hf
      refine x_callV (n := 1) (Cn := RX6) (T := TX6) (N := 8) (As := [.int a2]) (rest := []) (maxL := 2) (ret := (some .boolean)) C (c_X6_hasFlat tg_1 e7) gX7_unwish_X6_hasFlat rfl (by decide +kernel) ⟨Nat.le_of_ble_eq_true rfl, Nat.le_of_ble_eq_true rfl⟩ tg_1 (by decide) rfl rfl rfl rfl (Nat.le_of_ble_eq_true rfl) dX7_unwish_16 ?_
      refine x_if_ne (tgt := 24) C dX7_unwish_19 (by decide) (fun q8 => ?_) (fun q8 => ?_)
      · have hf := ift q8 hf
        refine x_iconst (v := (-1 : Int32)) C dX7_unwish_22 (by decide) ?_
        exact x_iret C hr hf dX7_unwish_23
      · have hf := iff_ q8 hf
        refine x_aload_n C dX7_unwish_24 rfl rfl ?_
        refine x_getr (Cn := RX7) (T := TX7) (N := 7) C tg_0 (by decide) rfl nX7_unwish_7 0 (by decide) rfl kX7_unwish_10 rfl dX7_unwish_25 1 rfl ?_
        refine x_getr (Cn := RX6) (T := TX6) (N := 8) C tg_1 (by decide) rfl nX7_unwish_6 1 (by decide) rfl kX7_unwish_78 rfl dX7_unwish_28 3 rfl ?_
        refine x_iload_n C dX7_unwish_31 rfl rfl ?_
        obtain ⟨g9, hf⟩ := ck_of hf
        have w10 : 3 + 14 + 2 * (a1).toNatClampNeg = (17 + 2 * (a1).toNatClampNeg) := by omega
        have u11 : tg (17 + 2 * (a1).toNatClampNeg) = 2 := te_H (x := a1) tg_3 g9 w10
        refine x_aaldH (j := (a1).toNatClampNeg) C tg_3 tl_3 g9 rfl dX7_unwish_32 (17 + 2 * (a1).toNatClampNeg) w10 ?_
        refine x_astore_n (lv' := [some (.ref (ad 0)), some (.int a1), some (.int a2), some (.ref (ad (17 + 2 * (a1).toNatClampNeg))), none]) C dX7_unwish_33 rfl (by decide) rfl ?_
        refine x_aload_n C dX7_unwish_34 rfl rfl ?_
        refine x_iload_n C dX7_unwish_35 rfl rfl ?_
        obtain ⟨r12, M13, e14, hf⟩ := bd_of hf
        refine x_callV (n := 1) (Cn := RX2) (T := TX2) (N := 9) (As := [.int a2]) (rest := []) (maxL := 3) (ret := (some .int)) C (c_X2_placeOf u11 e14) gX7_unwish_X2_placeOf rfl (by decide +kernel) ⟨Nat.le_of_ble_eq_true rfl, Nat.le_of_ble_eq_true rfl⟩ u11 (by decide) rfl rfl rfl rfl (Nat.le_of_ble_eq_true rfl) dX7_unwish_36 ?_
        refine x_istore (lv' := [some (.ref (ad 0)), some (.int a1), some (.int a2), some (.ref (ad (17 + 2 * (a1).toNatClampNeg))), some (.int r12)]) C dX7_unwish_39 (by decide) rfl ?_
        refine x_iload C dX7_unwish_41 rfl ?_
        refine x_bipush (v := (-5 : Int32)) C dX7_unwish_43 (by decide) ?_
        refine x_icmp_ne (tgt := 51) C dX7_unwish_45 (by decide) (fun q15 => ?_) (fun q15 => ?_)
        · have hf := ift q15 hf
          refine x_bipush (v := (-5 : Int32)) C dX7_unwish_48 (by decide) ?_
          exact x_iret C hr hf dX7_unwish_50
        · have hf := iff_ q15 hf
          refine x_aload_n C dX7_unwish_51 rfl rfl ?_
          refine x_getr (Cn := RX7) (T := TX7) (N := 7) C tg_0 (by decide) rfl nX7_unwish_7 3 (by decide) rfl kX7_unwish_26 rfl dX7_unwish_52 81 rfl ?_
          refine x_aload_n C dX7_unwish_55 rfl rfl ?_
          refine x_getr (Cn := RX7) (T := TX7) (N := 7) C tg_0 (by decide) rfl nX7_unwish_7 0 (by decide) rfl kX7_unwish_10 rfl dX7_unwish_56 1 rfl ?_
          obtain ⟨r16, M17, e18, hf⟩ := bd_of hf
          refine x_callVv (n := 1) (Cn := RX1) (T := TX1) (N := 2) (As := [.ref (ad 1)]) (rest := []) (maxL := 2) (ret := none) C (c_X1_record tg_1 e18) gX7_unwish_X1_record rfl (by decide +kernel) ⟨Nat.le_of_ble_eq_true rfl, Nat.le_of_ble_eq_true rfl⟩ tg_81 (by decide) rfl rfl rfl rfl (Nat.le_of_ble_eq_true rfl) dX7_unwish_59 ?_
          refine x_aload_n C dX7_unwish_62 rfl rfl ?_
          refine x_iload_n C dX7_unwish_63 rfl rfl ?_
          obtain ⟨r19, M20, e21, hf⟩ := bd_of hf
          refine x_callVv (n := 1) (Cn := RX2) (T := TX2) (N := 9) (As := [.int a2]) (rest := []) (maxL := 4) (ret := none) C (c_X2_removeWish u11 e21) gX7_unwish_X2_removeWish rfl (by decide +kernel) ⟨Nat.le_of_ble_eq_true rfl, Nat.le_of_ble_eq_true rfl⟩ u11 (by decide) rfl rfl rfl rfl (Nat.le_of_ble_eq_true rfl) dX7_unwish_64 ?_
          refine x_iload C dX7_unwish_67 rfl ?_
          exact x_iret C hr hf dX7_unwish_69

theorem kX7_wish_10 : Cond.fieldLink RX7 10 "FlatLottery" "state" "LFlatLottery$State;" ∈ wsX7_wish := List.mem_of_getElem? (i := 1) rfl
theorem kX7_wish_26 : Cond.fieldLink RX7 26 "FlatLottery" "history" "LFlatLottery$History;" ∈ wsX7_wish := List.mem_of_getElem? (i := 4) rfl
theorem kX7_wish_78 : Cond.fieldLink RX7 78 "FlatLottery$State" "households" "[LFlatLottery$Household;" ∈ wsX7_wish := List.mem_of_getElem? (i := 2) rfl
theorem kX7_wish_101 : Cond.fieldLink RX7 101 "FlatLottery$Household" "wishCount" "I" ∈ wsX7_wish := List.mem_of_getElem? (i := 3) rfl
theorem nX7_wish_2 : ∀ w ∈ u_ws RX2 TX2 9, w ∈ wsX7_wish := in_r [80, 81, 82, 83, 84, 85, 86, 87, 88] (by decide +kernel)
theorem nX7_wish_6 : ∀ w ∈ u_ws RX6 TX6 8, w ∈ wsX7_wish := in_r [72, 73, 74, 75, 76, 77, 78, 79] (by decide +kernel)
theorem nX7_wish_7 : ∀ w ∈ u_ws RX7 TX7 7, w ∈ wsX7_wish := in_r [65, 66, 67, 68, 69, 70, 71] (by decide +kernel)
set_option maxHeartbeats 4000000 in
set_option maxRecDepth 100000 in
theorem c_X7_wish {a1 : Int32} {a2 : Int32} {M : Mem} {r : Int32} {M' : Mem}  (hf : f_X7_wish a1 a2 M = some (r, M')) : CnI yX7_wish wsX7_wish 3 (fun ad => [.ref (ad 0), .int a1, .int a2]) M r M' := by
  unfold f_X7_wish at hf
  refine x_metI (cc := cX7_wish) (maxL := 4) RX7 rfl (by decide) rfl (fun ad => Nat.le_of_ble_eq_true rfl) (fun ad v hv => ?_) (fun p l e s m args below meth c D cs ad C hr => ?_)
  · simp only [List.mem_cons, List.not_mem_nil, or_false] at hv
    rcases hv with rfl | rfl | rfl <;> rfl
  · show V p l e (rmk 3) s m args below meth c 4 D cs ad (QI below s args D cs ad r M') 0 [some (.ref (ad 0)), some (.int a1), some (.int a2), none] [] M
    refine x_aload_n C dX7_wish_0 rfl rfl ?_
    refine x_getr (Cn := RX7) (T := TX7) (N := 7) C tg_0 (by decide) rfl nX7_wish_7 0 (by decide) rfl kX7_wish_10 rfl dX7_wish_1 1 rfl ?_
    refine x_iload_n C dX7_wish_4 rfl rfl ?_
    obtain ⟨r1, M2, e3, hf⟩ := bd_of hf
    refine x_callV (n := 1) (Cn := RX6) (T := TX6) (N := 8) (As := [.int a1]) (rest := []) (maxL := 2) (ret := (some .boolean)) C (c_X6_hasHousehold tg_1 e3) gX7_wish_X6_hasHousehold rfl (by decide +kernel) ⟨Nat.le_of_ble_eq_true rfl, Nat.le_of_ble_eq_true rfl⟩ tg_1 (by decide) rfl rfl rfl rfl (Nat.le_of_ble_eq_true rfl) dX7_wish_5 ?_
    refine x_if_eq (tgt := 22) C dX7_wish_8 (by decide) (fun q4 => ?_) (fun q4 => ?_)
    · have hf := ift q4 hf
      refine x_iconst (v := (-1 : Int32)) C dX7_wish_22 (by decide) ?_
      exact x_iret C hr hf dX7_wish_23
    · have hf := iff_ q4 hf
      refine x_aload_n C dX7_wish_11 rfl rfl ?_
      refine x_getr (Cn := RX7) (T := TX7) (N := 7) C tg_0 (by decide) rfl nX7_wish_7 0 (by decide) rfl kX7_wish_10 rfl dX7_wish_12 1 rfl ?_
      refine x_iload_n C dX7_wish_15 rfl rfl ?_
      obtain ⟨r5, M6, e7, hf⟩ := bd_of hf
      refine x_callV (n := 1) (Cn := RX6) (T := TX6) (N := 8) (As := [.int a2]) (rest := []) (maxL := 2) (ret := (some .boolean)) C (c_X6_hasFlat tg_1 e7) gX7_wish_X6_hasFlat rfl (by decide +kernel) ⟨Nat.le_of_ble_eq_true rfl, Nat.le_of_ble_eq_true rfl⟩ tg_1 (by decide) rfl rfl rfl rfl (Nat.le_of_ble_eq_true rfl) dX7_wish_16 ?_
      refine x_if_ne (tgt := 24) C dX7_wish_19 (by decide) (fun q8 => ?_) (fun q8 => ?_)
      · have hf := ift q8 hf
        refine x_iconst (v := (-1 : Int32)) C dX7_wish_22 (by decide) ?_
        exact x_iret C hr hf dX7_wish_23
      · have hf := iff_ q8 hf
        refine x_aload_n C dX7_wish_24 rfl rfl ?_
        refine x_getr (Cn := RX7) (T := TX7) (N := 7) C tg_0 (by decide) rfl nX7_wish_7 0 (by decide) rfl kX7_wish_10 rfl dX7_wish_25 1 rfl ?_
        refine x_getr (Cn := RX6) (T := TX6) (N := 8) C tg_1 (by decide) rfl nX7_wish_6 1 (by decide) rfl kX7_wish_78 rfl dX7_wish_28 3 rfl ?_
        refine x_iload_n C dX7_wish_31 rfl rfl ?_
        obtain ⟨g9, hf⟩ := ck_of hf
        have w10 : 3 + 14 + 2 * (a1).toNatClampNeg = (17 + 2 * (a1).toNatClampNeg) := by omega
        have u11 : tg (17 + 2 * (a1).toNatClampNeg) = 2 := te_H (x := a1) tg_3 g9 w10
        refine x_aaldH (j := (a1).toNatClampNeg) C tg_3 tl_3 g9 rfl dX7_wish_32 (17 + 2 * (a1).toNatClampNeg) w10 ?_
        refine x_astore_n (lv' := [some (.ref (ad 0)), some (.int a1), some (.int a2), some (.ref (ad (17 + 2 * (a1).toNatClampNeg)))]) C dX7_wish_33 rfl (by decide) rfl ?_
        refine x_aload_n C dX7_wish_34 rfl rfl ?_
        refine x_geti (Cn := RX2) (T := TX2) (N := 9) C u11 (by decide) rfl nX7_wish_2 1 (by decide) rfl kX7_wish_101 rfl dX7_wish_35 ?_
        refine x_bipush (v := (6 : Int32)) C dX7_wish_38 (by decide) ?_
        refine x_icmp_lt (tgt := 46) C dX7_wish_40 (by decide) (fun q12 => ?_) (fun q12 => ?_)
        · have hf := ift q12 hf
          refine x_aload_n C dX7_wish_46 rfl rfl ?_
          refine x_iload_n C dX7_wish_47 rfl rfl ?_
          obtain ⟨r13, M14, e15, hf⟩ := bd_of hf
          refine x_callV (n := 1) (Cn := RX2) (T := TX2) (N := 9) (As := [.int a2]) (rest := []) (maxL := 3) (ret := (some .int)) C (c_X2_placeOf u11 e15) gX7_wish_X2_placeOf rfl (by decide +kernel) ⟨Nat.le_of_ble_eq_true rfl, Nat.le_of_ble_eq_true rfl⟩ u11 (by decide) rfl rfl rfl rfl (Nat.le_of_ble_eq_true rfl) dX7_wish_48 ?_
          refine x_bipush (v := (-5 : Int32)) C dX7_wish_51 (by decide) ?_
          refine x_icmp_eq (tgt := 59) C dX7_wish_53 (by decide) (fun q16 => ?_) (fun q16 => ?_)
          · have hf := ift q16 hf
            refine x_aload_n C dX7_wish_59 rfl rfl ?_
            refine x_getr (Cn := RX7) (T := TX7) (N := 7) C tg_0 (by decide) rfl nX7_wish_7 3 (by decide) rfl kX7_wish_26 rfl dX7_wish_60 81 rfl ?_
            refine x_aload_n C dX7_wish_63 rfl rfl ?_
            refine x_getr (Cn := RX7) (T := TX7) (N := 7) C tg_0 (by decide) rfl nX7_wish_7 0 (by decide) rfl kX7_wish_10 rfl dX7_wish_64 1 rfl ?_
            obtain ⟨r17, M18, e19, hf⟩ := bd_of hf
            refine x_callVv (n := 1) (Cn := RX1) (T := TX1) (N := 2) (As := [.ref (ad 1)]) (rest := []) (maxL := 2) (ret := none) C (c_X1_record tg_1 e19) gX7_wish_X1_record rfl (by decide +kernel) ⟨Nat.le_of_ble_eq_true rfl, Nat.le_of_ble_eq_true rfl⟩ tg_81 (by decide) rfl rfl rfl rfl (Nat.le_of_ble_eq_true rfl) dX7_wish_67 ?_
            refine x_aload_n C dX7_wish_70 rfl rfl ?_
            refine x_iload_n C dX7_wish_71 rfl rfl ?_
            obtain ⟨r20, M21, e22, hf⟩ := bd_of hf
            refine x_callVv (n := 1) (Cn := RX2) (T := TX2) (N := 9) (As := [.int a2]) (rest := []) (maxL := 2) (ret := none) C (c_X2_addWish u11 e22) gX7_wish_X2_addWish rfl (by decide +kernel) ⟨Nat.le_of_ble_eq_true rfl, Nat.le_of_ble_eq_true rfl⟩ u11 (by decide) rfl rfl rfl rfl (Nat.le_of_ble_eq_true rfl) dX7_wish_72 ?_
            refine x_aload_n C dX7_wish_75 rfl rfl ?_
            refine x_geti (Cn := RX2) (T := TX2) (N := 9) C u11 (by decide) rfl nX7_wish_2 1 (by decide) rfl kX7_wish_101 rfl dX7_wish_76 ?_
            exact x_iret C hr hf dX7_wish_79
          · have hf := iff_ q16 hf
            refine x_bipush (v := (-4 : Int32)) C dX7_wish_56 (by decide) ?_
            exact x_iret C hr hf dX7_wish_58
        · have hf := iff_ q12 hf
          refine x_bipush (v := (-3 : Int32)) C dX7_wish_43 (by decide) ?_
          exact x_iret C hr hf dX7_wish_45

set_option maxHeartbeats 4000000 in
set_option maxRecDepth 100000 in
theorem c_X8_doesEnvy {a1 : Int32} {a2 : Int32} {M : Mem} {r : Int32} {M' : Mem}  (hf : f_X8_doesEnvy a1 a2 M = some (r, M')) : CnI yX8_doesEnvy wsX8_doesEnvy 3 (fun ad => [.ref (ad 255), .int a1, .int a2]) M r M' := by
  unfold f_X8_doesEnvy at hf
  refine x_metI (cc := cX8_doesEnvy) (maxL := 4) RX8 rfl (by decide) rfl (fun ad => Nat.le_of_ble_eq_true rfl) (fun ad v hv => ?_) (fun p l e s m args below meth c D cs ad C hr => ?_)
  · simp only [List.mem_cons, List.not_mem_nil, or_false] at hv
    rcases hv with rfl | rfl | rfl <;> rfl
  · show V p l e (rmk 3) s m args below meth c 4 D cs ad (QI below s args D cs ad r M') 0 [some (.ref (ad 255)), some (.int a1), some (.int a2), none] [] M
    refine x_aload_n C dX8_doesEnvy_0 rfl rfl ?_
    refine x_iload_n C dX8_doesEnvy_1 rfl rfl ?_
    refine x_iconst (v := (4 : Int32)) C dX8_doesEnvy_2 (by decide) ?_
    obtain ⟨r1, M2, e3, hf⟩ := bd_of hf
    refine x_callV (n := 2) (Cn := RX8) (T := TX8) (N := 13) (As := [.int a2, .int (4 : Int32)]) (rest := []) (maxL := 3) (ret := (some .int)) C (c_X8_of  e3) gX8_doesEnvy_X8_of rfl (by decide +kernel) ⟨Nat.le_of_ble_eq_true rfl, Nat.le_of_ble_eq_true rfl⟩ tg_255 (by decide) rfl rfl rfl rfl (Nat.le_of_ble_eq_true rfl) dX8_doesEnvy_3 ?_
    refine x_istore_n (lv' := [some (.ref (ad 255)), some (.int a1), some (.int a2), some (.int r1)]) C dX8_doesEnvy_6 rfl (by decide) rfl ?_
    refine x_iload_n C dX8_doesEnvy_7 rfl rfl ?_
    refine x_iload_n C dX8_doesEnvy_8 rfl rfl ?_
    refine x_icmp_eq (tgt := 40) C dX8_doesEnvy_9 (by decide) (fun q4 => ?_) (fun q4 => ?_)
    · have hf := ift q4 hf
      refine x_iconst (v := (0 : Int32)) C dX8_doesEnvy_40 (by decide) ?_
      exact x_zret C hr rfl hf dX8_doesEnvy_41
    · have hf := iff_ q4 hf
      refine x_iload_n C dX8_doesEnvy_12 rfl rfl ?_
      refine x_bipush (v := (-5 : Int32)) C dX8_doesEnvy_13 (by decide) ?_
      refine x_icmp_eq (tgt := 40) C dX8_doesEnvy_15 (by decide) (fun q5 => ?_) (fun q5 => ?_)
      · have hf := ift q5 hf
        refine x_iconst (v := (0 : Int32)) C dX8_doesEnvy_40 (by decide) ?_
        exact x_zret C hr rfl hf dX8_doesEnvy_41
      · have hf := iff_ q5 hf
        refine x_aload_n C dX8_doesEnvy_18 rfl rfl ?_
        refine x_iload_n C dX8_doesEnvy_19 rfl rfl ?_
        refine x_iload_n C dX8_doesEnvy_20 rfl rfl ?_
        obtain ⟨r6, M7, e8, hf⟩ := bd_of hf
        refine x_callV (n := 2) (Cn := RX8) (T := TX8) (N := 13) (As := [.int a1, .int r1]) (rest := []) (maxL := 5) (ret := (some .boolean)) C (c_X8_wishesMore  e8) gX8_doesEnvy_X8_wishesMore rfl (by decide +kernel) ⟨Nat.le_of_ble_eq_true rfl, Nat.le_of_ble_eq_true rfl⟩ tg_255 (by decide) rfl rfl rfl rfl (Nat.le_of_ble_eq_true rfl) dX8_doesEnvy_21 ?_
        refine x_if_eq (tgt := 40) C dX8_doesEnvy_24 (by decide) (fun q9 => ?_) (fun q9 => ?_)
        · have hf := ift q9 hf
          refine x_iconst (v := (0 : Int32)) C dX8_doesEnvy_40 (by decide) ?_
          exact x_zret C hr rfl hf dX8_doesEnvy_41
        · have hf := iff_ q9 hf
          refine x_aload_n C dX8_doesEnvy_27 rfl rfl ?_
          refine x_iload_n C dX8_doesEnvy_28 rfl rfl ?_
          refine x_iload_n C dX8_doesEnvy_29 rfl rfl ?_
          obtain ⟨r10, M11, e12, hf⟩ := bd_of hf
          refine x_callV (n := 2) (Cn := RX8) (T := TX8) (N := 13) (As := [.int a1, .int r1]) (rest := []) (maxL := 4) (ret := (some .boolean)) C (c_X8_isEligible  e12) gX8_doesEnvy_X8_isEligible rfl (by decide +kernel) ⟨Nat.le_of_ble_eq_true rfl, Nat.le_of_ble_eq_true rfl⟩ tg_255 (by decide) rfl rfl rfl rfl (Nat.le_of_ble_eq_true rfl) dX8_doesEnvy_30 ?_
          refine x_if_eq (tgt := 40) C dX8_doesEnvy_33 (by decide) (fun q13 => ?_) (fun q13 => ?_)
          · have hf := ift q13 hf
            refine x_iconst (v := (0 : Int32)) C dX8_doesEnvy_40 (by decide) ?_
            exact x_zret C hr rfl hf dX8_doesEnvy_41
          · have hf := iff_ q13 hf
            refine x_iconst (v := (1 : Int32)) C dX8_doesEnvy_36 (by decide) ?_
            refine x_goto (tgt := 41) C dX8_doesEnvy_37 (by decide) ?_
            exact x_zret C hr rfl hf dX8_doesEnvy_41

theorem kX8_draw_7 : Cond.fieldLink RX8 7 "FlatLotteryModel" "s" "[I" ∈ wsX8_draw := List.mem_of_getElem? (i := 1) rfl
theorem nX8_draw_8 : ∀ w ∈ u_ws RX8 TX8 13, w ∈ wsX8_draw := in_r [35, 36, 37, 38, 39, 40, 41, 42, 43, 44, 45, 46, 47] (by decide +kernel)
set_option maxHeartbeats 4000000 in
set_option maxRecDepth 100000 in
theorem cl_X8_draw_26 {p : Program} {l : Launch} {e : Env} {s : State} {m : MethodId} {args : Array Value} {below : List Frame} {meth : Method} {c : Code} {D : va_G} {cs : Nat → ClassId} {ad : Nat → Nat} (C : Cx p s m args meth c RX8 cX8_draw 4 wsX8_draw D cs ad) (hr : meth.sig.returnType = some .int) {a1 : Int32} {a2 : Int32} {r : Int32} {M' : Mem}  {k : Mem → Option (Int32 × Mem)} (hk : ∀ (M : Mem), k M = some (r, M') → V p l e (rmk 3) s m args below meth c 4 D cs ad (QI below s args D cs ad r M') 60 [some (.ref (ad 255)), some (.int a1), some (.int a2), none] [] M) : ∀ (n : Nat) (a3 : Int32) (M : Mem), l_X8_draw_26 a1 a2 k n a3 M = some (r, M') → V p l e (rmk 3) s m args below meth c 4 D cs ad (QI below s args D cs ad r M') 26 [some (.ref (ad 255)), some (.int a1), some (.int a2), some (.int a3)] [] M := by
  intro n
  induction n with
  | zero => intro a3 M hf; cases hf
  | succ n ih =>
    intro a3 M hf
    rw [l_X8_draw_26_s] at hf
    refine x_iload_n C dX8_draw_26 rfl rfl ?_
    refine x_aload_n C dX8_draw_27 rfl rfl ?_
    refine x_getr (Cn := RX8) (T := TX8) (N := 13) C tg_255 (by decide) rfl nX8_draw_8 0 (by decide) rfl kX8_draw_7 rfl dX8_draw_28 256 rfl ?_
    refine x_iconst (v := (1 : Int32)) C dX8_draw_31 (by decide) ?_
    refine x_iald (j := 1) C tg_256 tl_256 (by decide) (by decide) dX8_draw_32 ?_
    refine x_icmp_ge (tgt := 60) C dX8_draw_33 (by decide) (fun q9 => ?_) (fun q9 => ?_)
    · have hf := ift q9 hf
      exact x_weak (hk _ hf) [0, 1, 2] rfl
    · have hf := iff_ q9 hf
      refine x_iload_n C dX8_draw_36 rfl rfl ?_
      refine x_iload_n C dX8_draw_37 rfl rfl ?_
      refine x_icmp_eq (tgt := 54) C dX8_draw_38 (by decide) (fun q10 => ?_) (fun q10 => ?_)
      · have hf := ift q10 hf
        refine x_iinc (d := (1 : Int32)) (v := (a3 + (1 : Int32))) (lv' := [some (.ref (ad 255)), some (.int a1), some (.int a2), some (.int (a3 + (1 : Int32)))]) C dX8_draw_54 rfl (by decide) rfl (by decide) rfl ?_
        refine x_goto (tgt := 26) C dX8_draw_57 (by decide) ?_
        exact x_weak (ih _ _ hf) [0, 1, 2, 3] rfl
      · have hf := iff_ q10 hf
        refine x_aload_n C dX8_draw_41 rfl rfl ?_
        refine x_iload_n C dX8_draw_42 rfl rfl ?_
        refine x_iconst (v := (2 : Int32)) C dX8_draw_43 (by decide) ?_
        obtain ⟨r11, M12, e13, hf⟩ := bd_of hf
        refine x_callV (n := 2) (Cn := RX8) (T := TX8) (N := 13) (As := [.int a3, .int (2 : Int32)]) (rest := []) (maxL := 3) (ret := (some .int)) C (c_X8_of  e13) gX8_draw_X8_of rfl (by decide +kernel) ⟨Nat.le_of_ble_eq_true rfl, Nat.le_of_ble_eq_true rfl⟩ tg_255 (by decide) rfl rfl rfl rfl (Nat.le_of_ble_eq_true rfl) dX8_draw_44 ?_
        refine x_iload_n C dX8_draw_47 rfl rfl ?_
        refine x_icmp_ne (tgt := 54) C dX8_draw_48 (by decide) (fun q14 => ?_) (fun q14 => ?_)
        · have hf := ift q14 hf
          refine x_bipush (v := (-4 : Int32)) C dX8_draw_51 (by decide) ?_
          exact x_iret C hr hf dX8_draw_53
        · have hf := iff_ q14 hf
          refine x_iinc (d := (1 : Int32)) (v := (a3 + (1 : Int32))) (lv' := [some (.ref (ad 255)), some (.int a1), some (.int a2), some (.int (a3 + (1 : Int32)))]) C dX8_draw_54 rfl (by decide) rfl (by decide) rfl ?_
          refine x_goto (tgt := 26) C dX8_draw_57 (by decide) ?_
          exact x_weak (ih _ _ hf) [0, 1, 2, 3] rfl

set_option maxHeartbeats 4000000 in
set_option maxRecDepth 100000 in
theorem c_X8_draw {a1 : Int32} {a2 : Int32} {M : Mem} {r : Int32} {M' : Mem}  (hf : f_X8_draw a1 a2 M = some (r, M')) : CnI yX8_draw wsX8_draw 3 (fun ad => [.ref (ad 255), .int a1, .int a2]) M r M' := by
  unfold f_X8_draw at hf
  refine x_metI (cc := cX8_draw) (maxL := 4) RX8 rfl (by decide) rfl (fun ad => Nat.le_of_ble_eq_true rfl) (fun ad v hv => ?_) (fun p l e s m args below meth c D cs ad C hr => ?_)
  · simp only [List.mem_cons, List.not_mem_nil, or_false] at hv
    rcases hv with rfl | rfl | rfl <;> rfl
  · show V p l e (rmk 3) s m args below meth c 4 D cs ad (QI below s args D cs ad r M') 0 [some (.ref (ad 255)), some (.int a1), some (.int a2), none] [] M
    refine x_aload_n C dX8_draw_0 rfl rfl ?_
    refine x_iload_n C dX8_draw_1 rfl rfl ?_
    obtain ⟨r1, M2, e3, hf⟩ := bd_of hf
    refine x_callV (n := 1) (Cn := RX8) (T := TX8) (N := 13) (As := [.int a1]) (rest := []) (maxL := 2) (ret := (some .boolean)) C (c_X8_isHome  e3) gX8_draw_X8_isHome rfl (by decide +kernel) ⟨Nat.le_of_ble_eq_true rfl, Nat.le_of_ble_eq_true rfl⟩ tg_255 (by decide) rfl rfl rfl rfl (Nat.le_of_ble_eq_true rfl) dX8_draw_2 ?_
    refine x_if_ne (tgt := 10) C dX8_draw_5 (by decide) (fun q4 => ?_) (fun q4 => ?_)
    · have hf := ift q4 hf
      refine x_iconst (v := (-1 : Int32)) C dX8_draw_8 (by decide) ?_
      exact x_iret C hr hf dX8_draw_9
    · have hf := iff_ q4 hf
      refine x_iload_n C dX8_draw_10 rfl rfl ?_
      refine x_iconst (v := (1 : Int32)) C dX8_draw_11 (by decide) ?_
      refine x_sipush (v := (999 : Int32)) C dX8_draw_12 (by decide) ?_
      obtain ⟨r5, M6, e7, hf⟩ := bd_of hf
      refine x_callS (n := 3) (As := [.int a2, .int (1 : Int32), .int (999 : Int32)]) (rest := []) (maxL := 3) (ret := (some .boolean)) C (c_X8_in  e7) gX8_draw_X8_in rfl (by decide +kernel) ⟨Nat.le_of_ble_eq_true rfl, Nat.le_of_ble_eq_true rfl⟩ rfl rfl rfl (Nat.le_of_ble_eq_true rfl) dX8_draw_15 ?_
      refine x_if_ne (tgt := 24) C dX8_draw_18 (by decide) (fun q8 => ?_) (fun q8 => ?_)
      · have hf := ift q8 hf
        refine x_bipush (v := (-2 : Int32)) C dX8_draw_21 (by decide) ?_
        exact x_iret C hr hf dX8_draw_23
      · have hf := iff_ q8 hf
        refine x_iconst (v := (0 : Int32)) C dX8_draw_24 (by decide) ?_
        refine x_istore_n (lv' := [some (.ref (ad 255)), some (.int a1), some (.int a2), some (.int (0 : Int32))]) C dX8_draw_25 rfl (by decide) rfl ?_
        refine x_weak (cl_X8_draw_26 C hr  (fun M15 hf => ?_) _ _ _ hf) [0, 1, 2, 3] rfl
        refine x_aload_n C dX8_draw_60 rfl rfl ?_
        refine x_iload_n C dX8_draw_61 rfl rfl ?_
        refine x_iconst (v := (2 : Int32)) C dX8_draw_62 (by decide) ?_
        obtain ⟨r16, M17, e18, hf⟩ := bd_of hf
        refine x_callV (n := 2) (Cn := RX8) (T := TX8) (N := 13) (As := [.int a1, .int (2 : Int32)]) (rest := []) (maxL := 3) (ret := (some .int)) C (c_X8_of  e18) gX8_draw_X8_of rfl (by decide +kernel) ⟨Nat.le_of_ble_eq_true rfl, Nat.le_of_ble_eq_true rfl⟩ tg_255 (by decide) rfl rfl rfl rfl (Nat.le_of_ble_eq_true rfl) dX8_draw_63 ?_
        refine x_iload_n C dX8_draw_66 rfl rfl ?_
        refine x_icmp_ne (tgt := 73) C dX8_draw_67 (by decide) (fun q19 => ?_) (fun q19 => ?_)
        · have hf := ift q19 hf
          refine x_bipush (v := (-5 : Int32)) C dX8_draw_70 (by decide) ?_
          exact x_iret C hr hf dX8_draw_72
        · have hf := iff_ q19 hf
          refine x_aload_n C dX8_draw_73 rfl rfl ?_
          obtain ⟨r20, M21, e22, hf⟩ := bd_of hf
          refine x_callVv (n := 0) (Cn := RX8) (T := TX8) (N := 13) (As := []) (rest := []) (maxL := 2) (ret := none) C (c_X8_records  e22) gX8_draw_X8_records rfl (by decide +kernel) ⟨Nat.le_of_ble_eq_true rfl, Nat.le_of_ble_eq_true rfl⟩ tg_255 (by decide) rfl rfl rfl rfl (Nat.le_of_ble_eq_true rfl) dX8_draw_74 ?_
          refine x_aload_n C dX8_draw_77 rfl rfl ?_
          refine x_iload_n C dX8_draw_78 rfl rfl ?_
          refine x_iconst (v := (2 : Int32)) C dX8_draw_79 (by decide) ?_
          refine x_iload_n C dX8_draw_80 rfl rfl ?_
          obtain ⟨r23, M24, e25, hf⟩ := bd_of hf
          refine x_callVv (n := 3) (Cn := RX8) (T := TX8) (N := 13) (As := [.int a1, .int (2 : Int32), .int a2]) (rest := []) (maxL := 4) (ret := none) C (c_X8_puts  e25) gX8_draw_X8_puts rfl (by decide +kernel) ⟨Nat.le_of_ble_eq_true rfl, Nat.le_of_ble_eq_true rfl⟩ tg_255 (by decide) rfl rfl rfl rfl (Nat.le_of_ble_eq_true rfl) dX8_draw_81 ?_
          refine x_aload_n C dX8_draw_84 rfl rfl ?_
          obtain ⟨r26, M27, e28, hf⟩ := bd_of hf
          refine x_callV (n := 0) (Cn := RX8) (T := TX8) (N := 13) (As := []) (rest := []) (maxL := 3) (ret := (some .int)) C (c_X8_drawn  e28) gX8_draw_X8_drawn rfl (by decide +kernel) ⟨Nat.le_of_ble_eq_true rfl, Nat.le_of_ble_eq_true rfl⟩ tg_255 (by decide) rfl rfl rfl rfl (Nat.le_of_ble_eq_true rfl) dX8_draw_85 ?_
          exact x_iret C hr hf dX8_draw_88

set_option maxHeartbeats 4000000 in
set_option maxRecDepth 100000 in
theorem c_X8_flat {a1 : Int32} {a2 : Int32} {M : Mem} {r : Int32} {M' : Mem}  (hf : f_X8_flat a1 a2 M = some (r, M')) : CnI yX8_flat wsX8_flat 3 (fun ad => [.ref (ad 255), .int a1, .int a2]) M r M' := by
  unfold f_X8_flat at hf
  refine x_metI (cc := cX8_flat) (maxL := 3) RX8 rfl (by decide) rfl (fun ad => Nat.le_of_ble_eq_true rfl) (fun ad v hv => ?_) (fun p l e s m args below meth c D cs ad C hr => ?_)
  · simp only [List.mem_cons, List.not_mem_nil, or_false] at hv
    rcases hv with rfl | rfl | rfl <;> rfl
  · show V p l e (rmk 3) s m args below meth c 3 D cs ad (QI below s args D cs ad r M') 0 [some (.ref (ad 255)), some (.int a1), some (.int a2)] [] M
    refine x_aload_n C dX8_flat_0 rfl rfl ?_
    refine x_iload_n C dX8_flat_1 rfl rfl ?_
    obtain ⟨r1, M2, e3, hf⟩ := bd_of hf
    refine x_callV (n := 1) (Cn := RX8) (T := TX8) (N := 13) (As := [.int a1]) (rest := []) (maxL := 2) (ret := (some .boolean)) C (c_X8_isFlat  e3) gX8_flat_X8_isFlat rfl (by decide +kernel) ⟨Nat.le_of_ble_eq_true rfl, Nat.le_of_ble_eq_true rfl⟩ tg_255 (by decide) rfl rfl rfl rfl (Nat.le_of_ble_eq_true rfl) dX8_flat_2 ?_
    refine x_if_ne (tgt := 10) C dX8_flat_5 (by decide) (fun q4 => ?_) (fun q4 => ?_)
    · have hf := ift q4 hf
      refine x_iconst (v := (-1 : Int32)) C dX8_flat_8 (by decide) ?_
      exact x_iret C hr hf dX8_flat_9
    · have hf := iff_ q4 hf
      refine x_iload_n C dX8_flat_10 rfl rfl ?_
      by_cases q5 : a2 = (0 : Int32)
      · have hf := ift q5 hf
        refine x_tabIn (tgt := 44) (off := 33) C dX8_flat_11 (0 : Int32) q5 (by decide) (by decide) (by decide) (by decide) ?_
        refine x_aload_n C dX8_flat_44 rfl rfl ?_
        refine x_iload_n C dX8_flat_45 rfl rfl ?_
        obtain ⟨r6, M7, e8, hf⟩ := bd_of hf
        refine x_callV (n := 1) (Cn := RX8) (T := TX8) (N := 13) (As := [.int a1]) (rest := []) (maxL := 2) (ret := (some .int)) C (c_X8_rooms  e8) gX8_flat_X8_rooms rfl (by decide +kernel) ⟨Nat.le_of_ble_eq_true rfl, Nat.le_of_ble_eq_true rfl⟩ tg_255 (by decide) rfl rfl rfl rfl (Nat.le_of_ble_eq_true rfl) dX8_flat_46 ?_
        exact x_iret C hr hf dX8_flat_49
      · have hf := iff_ q5 hf
        by_cases q9 : a2 = (1 : Int32)
        · have hf := ift q9 hf
          refine x_tabIn (tgt := 50) (off := 39) C dX8_flat_11 (1 : Int32) q9 (by decide) (by decide) (by decide) (by decide) ?_
          refine x_aload_n C dX8_flat_50 rfl rfl ?_
          refine x_iload_n C dX8_flat_51 rfl rfl ?_
          obtain ⟨r10, M11, e12, hf⟩ := bd_of hf
          refine x_callV (n := 1) (Cn := RX8) (T := TX8) (N := 13) (As := [.int a1]) (rest := []) (maxL := 2) (ret := (some .int)) C (c_X8_rent  e12) gX8_flat_X8_rent rfl (by decide +kernel) ⟨Nat.le_of_ble_eq_true rfl, Nat.le_of_ble_eq_true rfl⟩ tg_255 (by decide) rfl rfl rfl rfl (Nat.le_of_ble_eq_true rfl) dX8_flat_52 ?_
          exact x_iret C hr hf dX8_flat_55
        · have hf := iff_ q9 hf
          by_cases q13 : a2 = (2 : Int32)
          · have hf := ift q13 hf
            refine x_tabIn (tgt := 56) (off := 45) C dX8_flat_11 (2 : Int32) q13 (by decide) (by decide) (by decide) (by decide) ?_
            refine x_aload_n C dX8_flat_56 rfl rfl ?_
            refine x_iload_n C dX8_flat_57 rfl rfl ?_
            obtain ⟨r14, M15, e16, hf⟩ := bd_of hf
            refine x_callV (n := 1) (Cn := RX8) (T := TX8) (N := 13) (As := [.int a1]) (rest := []) (maxL := 4) (ret := (some .int)) C (c_X8_holder  e16) gX8_flat_X8_holder rfl (by decide +kernel) ⟨Nat.le_of_ble_eq_true rfl, Nat.le_of_ble_eq_true rfl⟩ tg_255 (by decide) rfl rfl rfl rfl (Nat.le_of_ble_eq_true rfl) dX8_flat_58 ?_
            exact x_iret C hr hf dX8_flat_61
          · have hf := iff_ q13 hf
            by_cases q17 : a2 = (3 : Int32)
            · have hf := ift q17 hf
              refine x_tabIn (tgt := 62) (off := 51) C dX8_flat_11 (3 : Int32) q17 (by decide) (by decide) (by decide) (by decide) ?_
              refine x_aload_n C dX8_flat_62 rfl rfl ?_
              refine x_iload_n C dX8_flat_63 rfl rfl ?_
              refine x_iload_n C dX8_flat_64 rfl rfl ?_
              refine x_iconst (v := (4 : Int32)) C dX8_flat_65 (by decide) ?_
              refine x_icmp_ne (tgt := 73) C dX8_flat_66 (by decide) (fun q18 => ?_) (fun q18 => ?_)
              · have hf := ift q18 hf
                refine x_iconst (v := (1 : Int32)) C dX8_flat_69 (by decide) ?_
                refine x_goto (tgt := 74) C dX8_flat_70 (by decide) ?_
                obtain ⟨r19, M20, e21, hf⟩ := bd_of hf
                refine x_callV (n := 2) (Cn := RX8) (T := TX8) (N := 13) (As := [.int a1, .int (1 : Int32)]) (rest := []) (maxL := 5) (ret := (some .int)) C (c_X8_households  e21) gX8_flat_X8_households rfl (by decide +kernel) ⟨Nat.le_of_ble_eq_true rfl, Nat.le_of_ble_eq_true rfl⟩ tg_255 (by decide) rfl rfl rfl rfl (Nat.le_of_ble_eq_true rfl) dX8_flat_74 ?_
                exact x_iret C hr hf dX8_flat_77
              · have hf := iff_ q18 hf
                refine x_iconst (v := (0 : Int32)) C dX8_flat_73 (by decide) ?_
                obtain ⟨r22, M23, e24, hf⟩ := bd_of hf
                refine x_callV (n := 2) (Cn := RX8) (T := TX8) (N := 13) (As := [.int a1, .int (0 : Int32)]) (rest := []) (maxL := 5) (ret := (some .int)) C (c_X8_households  e24) gX8_flat_X8_households rfl (by decide +kernel) ⟨Nat.le_of_ble_eq_true rfl, Nat.le_of_ble_eq_true rfl⟩ tg_255 (by decide) rfl rfl rfl rfl (Nat.le_of_ble_eq_true rfl) dX8_flat_74 ?_
                exact x_iret C hr hf dX8_flat_77
            · have hf := iff_ q17 hf
              by_cases q25 : a2 = (4 : Int32)
              · have hf := ift q25 hf
                refine x_tabIn (tgt := 62) (off := 51) C dX8_flat_11 (4 : Int32) q25 (by decide) (by decide) (by decide) (by decide) ?_
                refine x_aload_n C dX8_flat_62 rfl rfl ?_
                refine x_iload_n C dX8_flat_63 rfl rfl ?_
                refine x_iload_n C dX8_flat_64 rfl rfl ?_
                refine x_iconst (v := (4 : Int32)) C dX8_flat_65 (by decide) ?_
                refine x_icmp_ne (tgt := 73) C dX8_flat_66 (by decide) (fun q26 => ?_) (fun q26 => ?_)
                · have hf := ift q26 hf
                  refine x_iconst (v := (1 : Int32)) C dX8_flat_69 (by decide) ?_
                  refine x_goto (tgt := 74) C dX8_flat_70 (by decide) ?_
                  obtain ⟨r27, M28, e29, hf⟩ := bd_of hf
                  refine x_callV (n := 2) (Cn := RX8) (T := TX8) (N := 13) (As := [.int a1, .int (1 : Int32)]) (rest := []) (maxL := 5) (ret := (some .int)) C (c_X8_households  e29) gX8_flat_X8_households rfl (by decide +kernel) ⟨Nat.le_of_ble_eq_true rfl, Nat.le_of_ble_eq_true rfl⟩ tg_255 (by decide) rfl rfl rfl rfl (Nat.le_of_ble_eq_true rfl) dX8_flat_74 ?_
                  exact x_iret C hr hf dX8_flat_77
                · have hf := iff_ q26 hf
                  refine x_iconst (v := (0 : Int32)) C dX8_flat_73 (by decide) ?_
                  obtain ⟨r30, M31, e32, hf⟩ := bd_of hf
                  refine x_callV (n := 2) (Cn := RX8) (T := TX8) (N := 13) (As := [.int a1, .int (0 : Int32)]) (rest := []) (maxL := 5) (ret := (some .int)) C (c_X8_households  e32) gX8_flat_X8_households rfl (by decide +kernel) ⟨Nat.le_of_ble_eq_true rfl, Nat.le_of_ble_eq_true rfl⟩ tg_255 (by decide) rfl rfl rfl rfl (Nat.le_of_ble_eq_true rfl) dX8_flat_74 ?_
                  exact x_iret C hr hf dX8_flat_77
              · have hf := iff_ q25 hf
                have zq5 := lv_neT q5 (a := 0) (by decide)
                have zq9 := lv_neT q9 (a := 1) (by decide)
                have zq13 := lv_neT q13 (a := 2) (by decide)
                have zq17 := lv_neT q17 (a := 3) (by decide)
                have zq25 := lv_neT q25 (a := 4) (by decide)
                refine x_tabOut (tgt := 78) C dX8_flat_11 (by omega) (by decide) ?_
                refine x_bipush (v := (-2 : Int32)) C dX8_flat_78 (by decide) ?_
                exact x_iret C hr hf dX8_flat_80

theorem kX8_most_7 : Cond.fieldLink RX8 7 "FlatLotteryModel" "s" "[I" ∈ wsX8_most := List.mem_of_getElem? (i := 2) rfl
theorem kX8_most_32 : Cond.fieldLink RX8 32 "FlatLotteryModel" "could" "[Z" ∈ wsX8_most := List.mem_of_getElem? (i := 1) rfl
theorem nX8_most_8 : ∀ w ∈ u_ws RX8 TX8 13, w ∈ wsX8_most := in_r [27, 28, 29, 30, 31, 32, 33, 34, 35, 36, 37, 38, 39] (by decide +kernel)
set_option maxHeartbeats 4000000 in
set_option maxRecDepth 100000 in
theorem cl_X8_most_2 {p : Program} {l : Launch} {e : Env} {s : State} {m : MethodId} {args : Array Value} {below : List Frame} {meth : Method} {c : Code} {D : va_G} {cs : Nat → ClassId} {ad : Nat → Nat} (C : Cx p s m args meth c RX8 cX8_most 6 wsX8_most D cs ad) (hr : meth.sig.returnType = some .int)  {r : Int32} {M' : Mem}  {k : Mem → Option (Int32 × Mem)} (hk : ∀ (M : Mem), k M = some (r, M') → V p l e (rmk 3) s m args below meth c 6 D cs ad (QI below s args D cs ad r M') 30 [some (.ref (ad 255)), none, none, none, none, none] [] M) : ∀ (n : Nat) (a1 : Int32) (M : Mem), l_X8_most_2 k n a1 M = some (r, M') → V p l e (rmk 3) s m args below meth c 6 D cs ad (QI below s args D cs ad r M') 2 [some (.ref (ad 255)), some (.int a1), none, none, none, none] [] M := by
  intro n
  induction n with
  | zero => intro a1 M hf; cases hf
  | succ n ih =>
    intro a1 M hf
    rw [l_X8_most_2_s] at hf
    refine x_iload_n C dX8_most_2 rfl rfl ?_
    refine x_sipush (v := (4096 : Int32)) C dX8_most_3 (by decide) ?_
    refine x_icmp_ge (tgt := 30) C dX8_most_6 (by decide) (fun q1 => ?_) (fun q1 => ?_)
    · have hf := ift q1 hf
      exact x_weak (hk _ hf) [0] rfl
    · have hf := iff_ q1 hf
      refine x_aload_n C dX8_most_9 rfl rfl ?_
      refine x_getr (Cn := RX8) (T := TX8) (N := 13) C tg_255 (by decide) rfl nX8_most_8 12 (by decide) rfl kX8_most_32 rfl dX8_most_10 263 rfl ?_
      refine x_iload_n C dX8_most_13 rfl rfl ?_
      refine x_iload_n C dX8_most_14 rfl rfl ?_
      refine x_if_ne (tgt := 22) C dX8_most_15 (by decide) (fun q2 => ?_) (fun q2 => ?_)
      · have hf := ift q2 hf
        refine x_iconst (v := (1 : Int32)) C dX8_most_18 (by decide) ?_
        refine x_goto (tgt := 23) C dX8_most_19 (by decide) ?_
        obtain ⟨g3, hf⟩ := ck_of hf
        refine x_zast (j := (a1).toNatClampNeg) C tg_263 tl_263 g3 rfl dX8_most_23 ?_
        refine x_gen hf (fun M4 hf => ?_)
        refine x_iinc (d := (1 : Int32)) (v := (a1 + (1 : Int32))) (lv' := [some (.ref (ad 255)), some (.int (a1 + (1 : Int32))), none, none, none, none]) C dX8_most_24 rfl (by decide) rfl (by decide) rfl ?_
        refine x_goto (tgt := 2) C dX8_most_27 (by decide) ?_
        exact x_weak (ih _ _ hf) [0, 1] rfl
      · have hf := iff_ q2 hf
        refine x_iconst (v := (0 : Int32)) C dX8_most_22 (by decide) ?_
        obtain ⟨g5, hf⟩ := ck_of hf
        refine x_zast (j := (a1).toNatClampNeg) C tg_263 tl_263 g5 rfl dX8_most_23 ?_
        refine x_gen hf (fun M6 hf => ?_)
        refine x_iinc (d := (1 : Int32)) (v := (a1 + (1 : Int32))) (lv' := [some (.ref (ad 255)), some (.int (a1 + (1 : Int32))), none, none, none, none]) C dX8_most_24 rfl (by decide) rfl (by decide) rfl ?_
        refine x_goto (tgt := 2) C dX8_most_27 (by decide) ?_
        exact x_weak (ih _ _ hf) [0, 1] rfl

set_option maxHeartbeats 4000000 in
set_option maxRecDepth 100000 in
theorem cl_X8_most_63 {p : Program} {l : Launch} {e : Env} {s : State} {m : MethodId} {args : Array Value} {below : List Frame} {meth : Method} {c : Code} {D : va_G} {cs : Nat → ClassId} {ad : Nat → Nat} (C : Cx p s m args meth c RX8 cX8_most 6 wsX8_most D cs ad) (hr : meth.sig.returnType = some .int) {a3 : Int32} {a4 : Int32} {x1 : Value} {x2 : Value} {r : Int32} {M' : Mem}  {k : Mem → Option (Int32 × Mem)} (hk : ∀ (M : Mem), k M = some (r, M') → V p l e (rmk 3) s m args below meth c 6 D cs ad (QI below s args D cs ad r M') 113 [some (.ref (ad 255)), some (x1), some (x2), some (.int a3), some (.int a4), none] [] M) : ∀ (n : Nat) (a5 : Int32) (M : Mem), l_X8_most_63 a3 a4 k n a5 M = some (r, M') → V p l e (rmk 3) s m args below meth c 6 D cs ad (QI below s args D cs ad r M') 63 [some (.ref (ad 255)), some (x1), some (x2), some (.int a3), some (.int a4), some (.int a5)] [] M := by
  intro n
  induction n with
  | zero => intro a5 M hf; cases hf
  | succ n ih =>
    intro a5 M hf
    rw [l_X8_most_63_s] at hf
    refine x_iload C dX8_most_63 rfl ?_
    refine x_bipush (v := (12 : Int32)) C dX8_most_65 (by decide) ?_
    refine x_icmp_ge (tgt := 113) C dX8_most_67 (by decide) (fun q13 => ?_) (fun q13 => ?_)
    · have hf := ift q13 hf
      exact x_weak (hk _ hf) [0, 1, 2, 3, 4] rfl
    · have hf := iff_ q13 hf
      refine x_aload_n C dX8_most_70 rfl rfl ?_
      refine x_getr (Cn := RX8) (T := TX8) (N := 13) C tg_255 (by decide) rfl nX8_most_8 12 (by decide) rfl kX8_most_32 rfl dX8_most_71 263 rfl ?_
      refine x_iload C dX8_most_74 rfl ?_
      obtain ⟨g14, hf⟩ := ck_of hf
      refine x_zald (j := (a4).toNatClampNeg) C tg_263 tl_263 g14 rfl dX8_most_76 ?_
      refine x_if_eq (tgt := 113) C dX8_most_77 (by decide) (fun q15 => ?_) (fun q15 => ?_)
      · have hf := ift q15 hf
        exact x_weak (hk _ hf) [0, 1, 2, 3, 4] rfl
      · have hf := iff_ q15 hf
        refine x_iload_n C dX8_most_80 rfl rfl ?_
        refine x_iload C dX8_most_81 rfl ?_
        refine x_iconst (v := (-1 : Int32)) C dX8_most_83 (by decide) ?_
        refine x_ixor C dX8_most_84 ?_
        refine x_iand C dX8_most_85 ?_
        refine x_iconst (v := (1 : Int32)) C dX8_most_86 (by decide) ?_
        refine x_iload C dX8_most_87 rfl ?_
        refine x_ishl C dX8_most_89 ?_
        refine x_iand C dX8_most_90 ?_
        refine x_if_eq (tgt := 107) C dX8_most_91 (by decide) (fun q16 => ?_) (fun q16 => ?_)
        · have hf := ift q16 hf
          refine x_iinc (d := (1 : Int32)) (v := (a5 + (1 : Int32))) (lv' := [some (.ref (ad 255)), some (x1), some (x2), some (.int a3), some (.int a4), some (.int (a5 + (1 : Int32)))]) C dX8_most_107 rfl (by decide) rfl (by decide) rfl ?_
          refine x_goto (tgt := 63) C dX8_most_110 (by decide) ?_
          exact x_weak (ih _ _ hf) [0, 1, 2, 3, 4, 5] rfl
        · have hf := iff_ q16 hf
          refine x_aload_n C dX8_most_94 rfl rfl ?_
          refine x_getr (Cn := RX8) (T := TX8) (N := 13) C tg_255 (by decide) rfl nX8_most_8 12 (by decide) rfl kX8_most_32 rfl dX8_most_95 263 rfl ?_
          refine x_iload C dX8_most_98 rfl ?_
          refine x_iconst (v := (1 : Int32)) C dX8_most_100 (by decide) ?_
          refine x_iload C dX8_most_101 rfl ?_
          refine x_ishl C dX8_most_103 ?_
          refine x_ior C dX8_most_104 ?_
          refine x_iconst (v := (1 : Int32)) C dX8_most_105 (by decide) ?_
          obtain ⟨g17, hf⟩ := ck_of hf
          refine x_zast (j := ((a4 ||| ((1 : Int32) <<< (a5 &&& (31 : Int32))))).toNatClampNeg) C tg_263 tl_263 g17 rfl dX8_most_106 ?_
          refine x_gen hf (fun M18 hf => ?_)
          refine x_iinc (d := (1 : Int32)) (v := (a5 + (1 : Int32))) (lv' := [some (.ref (ad 255)), some (x1), some (x2), some (.int a3), some (.int a4), some (.int (a5 + (1 : Int32)))]) C dX8_most_107 rfl (by decide) rfl (by decide) rfl ?_
          refine x_goto (tgt := 63) C dX8_most_110 (by decide) ?_
          exact x_weak (ih _ _ hf) [0, 1, 2, 3, 4, 5] rfl

set_option maxHeartbeats 4000000 in
set_option maxRecDepth 100000 in
theorem cl_X8_most_55 {p : Program} {l : Launch} {e : Env} {s : State} {m : MethodId} {args : Array Value} {below : List Frame} {meth : Method} {c : Code} {D : va_G} {cs : Nat → ClassId} {ad : Nat → Nat} (C : Cx p s m args meth c RX8 cX8_most 6 wsX8_most D cs ad) (hr : meth.sig.returnType = some .int) {a3 : Int32} {x1 : Value} {x2 : Value} {r : Int32} {M' : Mem}  {k : Mem → Option (Int32 × Mem)} (hk : ∀ (M : Mem), k M = some (r, M') → V p l e (rmk 3) s m args below meth c 6 D cs ad (QI below s args D cs ad r M') 119 [some (.ref (ad 255)), some (x1), some (x2), none, none, none] [] M) : ∀ (n : Nat) (a4 : Int32) (M : Mem), l_X8_most_55 a3 k n a4 M = some (r, M') → V p l e (rmk 3) s m args below meth c 6 D cs ad (QI below s args D cs ad r M') 55 [some (.ref (ad 255)), some (x1), some (x2), some (.int a3), some (.int a4), none] [] M := by
  intro n
  induction n with
  | zero => intro a4 M hf; cases hf
  | succ n ih =>
    intro a4 M hf
    rw [l_X8_most_55_s] at hf
    refine x_iload C dX8_most_55 rfl ?_
    refine x_if_lt (tgt := 119) C dX8_most_57 (by decide) (fun q12 => ?_) (fun q12 => ?_)
    · have hf := ift q12 hf
      exact x_weak (hk _ hf) [0, 1, 2] rfl
    · have hf := iff_ q12 hf
      refine x_iconst (v := (0 : Int32)) C dX8_most_60 (by decide) ?_
      refine x_istore (lv' := [some (.ref (ad 255)), some (x1), some (x2), some (.int a3), some (.int a4), some (.int (0 : Int32))]) C dX8_most_61 (by decide) rfl ?_
      refine x_weak (cl_X8_most_63 C hr  (fun M19 hf => ?_) _ _ _ hf) [0, 1, 2, 3, 4, 5] rfl
      refine x_iinc (d := (-1 : Int32)) (v := (a4 + (-1 : Int32))) (lv' := [some (.ref (ad 255)), some (x1), some (x2), some (.int a3), some (.int (a4 + (-1 : Int32))), none]) C dX8_most_113 rfl (by decide) rfl (by decide) rfl ?_
      refine x_goto (tgt := 55) C dX8_most_116 (by decide) ?_
      exact x_weak (ih _ _ hf) [0, 1, 2, 3, 4] rfl

set_option maxHeartbeats 4000000 in
set_option maxRecDepth 100000 in
theorem cl_X8_most_34 {p : Program} {l : Launch} {e : Env} {s : State} {m : MethodId} {args : Array Value} {below : List Frame} {meth : Method} {c : Code} {D : va_G} {cs : Nat → ClassId} {ad : Nat → Nat} (C : Cx p s m args meth c RX8 cX8_most 6 wsX8_most D cs ad) (hr : meth.sig.returnType = some .int)  {x1 : Value} {r : Int32} {M' : Mem}  {k : Mem → Option (Int32 × Mem)} (hk : ∀ (M : Mem), k M = some (r, M') → V p l e (rmk 3) s m args below meth c 6 D cs ad (QI below s args D cs ad r M') 125 [some (.ref (ad 255)), some (x1), none, none, none, none] [] M) : ∀ (n : Nat) (a2 : Int32) (M : Mem), l_X8_most_34 k n a2 M = some (r, M') → V p l e (rmk 3) s m args below meth c 6 D cs ad (QI below s args D cs ad r M') 34 [some (.ref (ad 255)), some (x1), some (.int a2), none, none, none] [] M := by
  intro n
  induction n with
  | zero => intro a2 M hf; cases hf
  | succ n ih =>
    intro a2 M hf
    rw [l_X8_most_34_s] at hf
    refine x_iload_n C dX8_most_34 rfl rfl ?_
    refine x_aload_n C dX8_most_35 rfl rfl ?_
    refine x_getr (Cn := RX8) (T := TX8) (N := 13) C tg_255 (by decide) rfl nX8_most_8 0 (by decide) rfl kX8_most_7 rfl dX8_most_36 256 rfl ?_
    refine x_iconst (v := (1 : Int32)) C dX8_most_39 (by decide) ?_
    refine x_iald (j := 1) C tg_256 tl_256 (by decide) (by decide) dX8_most_40 ?_
    refine x_icmp_ge (tgt := 125) C dX8_most_41 (by decide) (fun q8 => ?_) (fun q8 => ?_)
    · have hf := ift q8 hf
      exact x_weak (hk _ hf) [0, 1] rfl
    · have hf := iff_ q8 hf
      refine x_aload_n C dX8_most_44 rfl rfl ?_
      refine x_iload_n C dX8_most_45 rfl rfl ?_
      obtain ⟨r9, M10, e11, hf⟩ := bd_of hf
      refine x_callV (n := 1) (Cn := RX8) (T := TX8) (N := 13) (As := [.int a2]) (rest := []) (maxL := 5) (ret := (some .int)) C (c_X8_goods  e11) gX8_most_X8_goods rfl (by decide +kernel) ⟨Nat.le_of_ble_eq_true rfl, Nat.le_of_ble_eq_true rfl⟩ tg_255 (by decide) rfl rfl rfl rfl (Nat.le_of_ble_eq_true rfl) dX8_most_46 ?_
      refine x_istore_n (lv' := [some (.ref (ad 255)), some (x1), some (.int a2), some (.int r9), none, none]) C dX8_most_49 rfl (by decide) rfl ?_
      refine x_sipush (v := (4095 : Int32)) C dX8_most_50 (by decide) ?_
      refine x_istore (lv' := [some (.ref (ad 255)), some (x1), some (.int a2), some (.int r9), some (.int (4095 : Int32)), none]) C dX8_most_53 (by decide) rfl ?_
      refine x_weak (cl_X8_most_55 C hr  (fun M20 hf => ?_) _ _ _ hf) [0, 1, 2, 3, 4] rfl
      refine x_iinc (d := (1 : Int32)) (v := (a2 + (1 : Int32))) (lv' := [some (.ref (ad 255)), some (x1), some (.int (a2 + (1 : Int32))), none, none, none]) C dX8_most_119 rfl (by decide) rfl (by decide) rfl ?_
      refine x_goto (tgt := 34) C dX8_most_122 (by decide) ?_
      exact x_weak (ih _ _ hf) [0, 1, 2] rfl

set_option maxHeartbeats 4000000 in
set_option maxRecDepth 100000 in
theorem cl_X8_most_127 {p : Program} {l : Launch} {e : Env} {s : State} {m : MethodId} {args : Array Value} {below : List Frame} {meth : Method} {c : Code} {D : va_G} {cs : Nat → ClassId} {ad : Nat → Nat} (C : Cx p s m args meth c RX8 cX8_most 6 wsX8_most D cs ad) (hr : meth.sig.returnType = some .int)  {r : Int32} {M' : Mem}  : ∀ (n : Nat) (a1 : Int32) (a2 : Int32) (M : Mem), l_X8_most_127 n a1 a2 M = some (r, M') → V p l e (rmk 3) s m args below meth c 6 D cs ad (QI below s args D cs ad r M') 127 [some (.ref (ad 255)), some (.int a1), some (.int a2), none, none, none] [] M := by
  intro n
  induction n with
  | zero => intro a1 a2 M hf; cases hf
  | succ n ih =>
    intro a1 a2 M hf
    rw [l_X8_most_127_s] at hf
    refine x_iload_n C dX8_most_127 rfl rfl ?_
    refine x_sipush (v := (4096 : Int32)) C dX8_most_128 (by decide) ?_
    refine x_icmp_ge (tgt := 166) C dX8_most_131 (by decide) (fun q22 => ?_) (fun q22 => ?_)
    · have hf := ift q22 hf
      refine x_iload_n C dX8_most_166 rfl rfl ?_
      exact x_iret C hr hf dX8_most_167
    · have hf := iff_ q22 hf
      refine x_aload_n C dX8_most_134 rfl rfl ?_
      refine x_getr (Cn := RX8) (T := TX8) (N := 13) C tg_255 (by decide) rfl nX8_most_8 12 (by decide) rfl kX8_most_32 rfl dX8_most_135 263 rfl ?_
      refine x_iload_n C dX8_most_138 rfl rfl ?_
      obtain ⟨g23, hf⟩ := ck_of hf
      refine x_zald (j := (a2).toNatClampNeg) C tg_263 tl_263 g23 rfl dX8_most_139 ?_
      refine x_if_eq (tgt := 158) C dX8_most_140 (by decide) (fun q24 => ?_) (fun q24 => ?_)
      · have hf := ift q24 hf
        refine x_iload_n C dX8_most_158 rfl rfl ?_
        refine x_istore_n (lv' := [some (.ref (ad 255)), some (.int a1), some (.int a2), none, none, none]) C dX8_most_159 rfl (by decide) rfl ?_
        refine x_iinc (d := (1 : Int32)) (v := (a2 + (1 : Int32))) (lv' := [some (.ref (ad 255)), some (.int a1), some (.int (a2 + (1 : Int32))), none, none, none]) C dX8_most_160 rfl (by decide) rfl (by decide) rfl ?_
        refine x_goto (tgt := 127) C dX8_most_163 (by decide) ?_
        exact x_weak (ih _ _ _ hf) [0, 1, 2] rfl
      · have hf := iff_ q24 hf
        refine x_iload_n C dX8_most_143 rfl rfl ?_
        obtain ⟨r25, M26, e27, hf⟩ := bd_of hf
        refine x_callS (n := 1) (As := [.int a2]) (rest := []) (maxL := 3) (ret := (some .int)) C (c_X8_ones  e27) gX8_most_X8_ones rfl (by decide +kernel) ⟨Nat.le_of_ble_eq_true rfl, Nat.le_of_ble_eq_true rfl⟩ rfl rfl rfl (Nat.le_of_ble_eq_true rfl) dX8_most_144 ?_
        refine x_iload_n C dX8_most_147 rfl rfl ?_
        refine x_icmp_le (tgt := 158) C dX8_most_148 (by decide) (fun q28 => ?_) (fun q28 => ?_)
        · have hf := ift q28 hf
          refine x_iload_n C dX8_most_158 rfl rfl ?_
          refine x_istore_n (lv' := [some (.ref (ad 255)), some (.int a1), some (.int a2), none, none, none]) C dX8_most_159 rfl (by decide) rfl ?_
          refine x_iinc (d := (1 : Int32)) (v := (a2 + (1 : Int32))) (lv' := [some (.ref (ad 255)), some (.int a1), some (.int (a2 + (1 : Int32))), none, none, none]) C dX8_most_160 rfl (by decide) rfl (by decide) rfl ?_
          refine x_goto (tgt := 127) C dX8_most_163 (by decide) ?_
          exact x_weak (ih _ _ _ hf) [0, 1, 2] rfl
        · have hf := iff_ q28 hf
          refine x_iload_n C dX8_most_151 rfl rfl ?_
          obtain ⟨r29, M30, e31, hf⟩ := bd_of hf
          refine x_callS (n := 1) (As := [.int a2]) (rest := []) (maxL := 3) (ret := (some .int)) C (c_X8_ones  e31) gX8_most_X8_ones rfl (by decide +kernel) ⟨Nat.le_of_ble_eq_true rfl, Nat.le_of_ble_eq_true rfl⟩ rfl rfl rfl (Nat.le_of_ble_eq_true rfl) dX8_most_152 ?_
          refine x_goto (tgt := 159) C dX8_most_155 (by decide) ?_
          refine x_istore_n (lv' := [some (.ref (ad 255)), some (.int r29), some (.int a2), none, none, none]) C dX8_most_159 rfl (by decide) rfl ?_
          refine x_iinc (d := (1 : Int32)) (v := (a2 + (1 : Int32))) (lv' := [some (.ref (ad 255)), some (.int r29), some (.int (a2 + (1 : Int32))), none, none, none]) C dX8_most_160 rfl (by decide) rfl (by decide) rfl ?_
          refine x_goto (tgt := 127) C dX8_most_163 (by decide) ?_
          exact x_weak (ih _ _ _ hf) [0, 1, 2] rfl

set_option maxHeartbeats 4000000 in
set_option maxRecDepth 100000 in
theorem c_X8_most  {M : Mem} {r : Int32} {M' : Mem}  (hf : f_X8_most  M = some (r, M')) : CnI yX8_most wsX8_most 3 (fun ad => [.ref (ad 255)]) M r M' := by
  unfold f_X8_most at hf
  refine x_metI (cc := cX8_most) (maxL := 6) RX8 rfl (by decide) rfl (fun ad => Nat.le_of_ble_eq_true rfl) (fun ad v hv => ?_) (fun p l e s m args below meth c D cs ad C hr => ?_)
  · simp only [List.mem_cons, List.not_mem_nil, or_false] at hv
    rcases hv with rfl <;> rfl
  · show V p l e (rmk 3) s m args below meth c 6 D cs ad (QI below s args D cs ad r M') 0 [some (.ref (ad 255)), none, none, none, none, none] [] M
    refine x_iconst (v := (0 : Int32)) C dX8_most_0 (by decide) ?_
    refine x_istore_n (lv' := [some (.ref (ad 255)), some (.int (0 : Int32)), none, none, none, none]) C dX8_most_1 rfl (by decide) rfl ?_
    refine x_weak (cl_X8_most_2 C hr  (fun M7 hf => ?_) _ _ _ hf) [0, 1] rfl
    refine x_iconst (v := (0 : Int32)) C dX8_most_30 (by decide) ?_
    refine x_istore_n (lv' := [some (.ref (ad 255)), some (.int (0 : Int32)), none, none, none, none]) C dX8_most_31 rfl (by decide) rfl ?_
    refine x_iconst (v := (0 : Int32)) C dX8_most_32 (by decide) ?_
    refine x_istore_n (lv' := [some (.ref (ad 255)), some (.int (0 : Int32)), some (.int (0 : Int32)), none, none, none]) C dX8_most_33 rfl (by decide) rfl ?_
    refine x_weak (cl_X8_most_34 C hr  (fun M21 hf => ?_) _ _ _ hf) [0, 1, 2] rfl
    refine x_iconst (v := (0 : Int32)) C dX8_most_125 (by decide) ?_
    refine x_istore_n (lv' := [some (.ref (ad 255)), some (.int (0 : Int32)), some (.int (0 : Int32)), none, none, none]) C dX8_most_126 rfl (by decide) rfl ?_
    exact x_weak (cl_X8_most_127 C hr  _ _ _ _ hf) [0, 1, 2] rfl

theorem kX8_placeOf_7 : Cond.fieldLink RX8 7 "FlatLotteryModel" "s" "[I" ∈ wsX8_placeOf := List.mem_of_getElem? (i := 1) rfl
theorem nX8_placeOf_8 : ∀ w ∈ u_ws RX8 TX8 13, w ∈ wsX8_placeOf := in_r [15, 16, 17, 18, 19, 20, 21, 22, 23, 24, 25, 26, 27] (by decide +kernel)
set_option maxHeartbeats 4000000 in
set_option maxRecDepth 100000 in
theorem cl_X8_placeOf_4 {p : Program} {l : Launch} {e : Env} {s : State} {m : MethodId} {args : Array Value} {below : List Frame} {meth : Method} {c : Code} {D : va_G} {cs : Nat → ClassId} {ad : Nat → Nat} (C : Cx p s m args meth c RX8 cX8_placeOf 4 wsX8_placeOf D cs ad) (hr : meth.sig.returnType = some .int) {a1 : Int32} {r : Int32} {M' : Mem}  : ∀ (n : Nat) (a2 : Int32) (a3 : Int32) (M : Mem), l_X8_placeOf_4 a1 n a2 a3 M = some (r, M') → V p l e (rmk 3) s m args below meth c 4 D cs ad (QI below s args D cs ad r M') 4 [some (.ref (ad 255)), some (.int a1), some (.int a2), some (.int a3)] [] M := by
  intro n
  induction n with
  | zero => intro a2 a3 M hf; cases hf
  | succ n ih =>
    intro a2 a3 M hf
    rw [l_X8_placeOf_4_s] at hf
    refine x_iload_n C dX8_placeOf_4 rfl rfl ?_
    refine x_aload_n C dX8_placeOf_5 rfl rfl ?_
    refine x_getr (Cn := RX8) (T := TX8) (N := 13) C tg_255 (by decide) rfl nX8_placeOf_8 0 (by decide) rfl kX8_placeOf_7 rfl dX8_placeOf_6 256 rfl ?_
    refine x_iconst (v := (1 : Int32)) C dX8_placeOf_9 (by decide) ?_
    refine x_iald (j := 1) C tg_256 tl_256 (by decide) (by decide) dX8_placeOf_10 ?_
    refine x_icmp_ge (tgt := 45) C dX8_placeOf_11 (by decide) (fun q1 => ?_) (fun q1 => ?_)
    · have hf := ift q1 hf
      refine x_aload_n C dX8_placeOf_45 rfl rfl ?_
      refine x_iload_n C dX8_placeOf_46 rfl rfl ?_
      obtain ⟨r2, M3, e4, hf⟩ := bd_of hf
      refine x_callV (n := 1) (Cn := RX8) (T := TX8) (N := 13) (As := [.int a1]) (rest := []) (maxL := 2) (ret := (some .boolean)) C (c_X8_isDrawn  e4) gX8_placeOf_X8_isDrawn rfl (by decide +kernel) ⟨Nat.le_of_ble_eq_true rfl, Nat.le_of_ble_eq_true rfl⟩ tg_255 (by decide) rfl rfl rfl rfl (Nat.le_of_ble_eq_true rfl) dX8_placeOf_47 ?_
      refine x_if_eq (tgt := 57) C dX8_placeOf_50 (by decide) (fun q5 => ?_) (fun q5 => ?_)
      · have hf := ift q5 hf
        refine x_bipush (v := (-5 : Int32)) C dX8_placeOf_57 (by decide) ?_
        exact x_iret C hr hf dX8_placeOf_59
      · have hf := iff_ q5 hf
        refine x_iload_n C dX8_placeOf_53 rfl rfl ?_
        refine x_goto (tgt := 59) C dX8_placeOf_54 (by decide) ?_
        exact x_iret C hr hf dX8_placeOf_59
    · have hf := iff_ q1 hf
      refine x_iload_n C dX8_placeOf_14 rfl rfl ?_
      refine x_aload_n C dX8_placeOf_15 rfl rfl ?_
      refine x_iload_n C dX8_placeOf_16 rfl rfl ?_
      obtain ⟨r6, M7, e8, hf⟩ := bd_of hf
      refine x_callV (n := 1) (Cn := RX8) (T := TX8) (N := 13) (As := [.int a3]) (rest := [.int a2]) (maxL := 2) (ret := (some .boolean)) C (c_X8_isDrawn  e8) gX8_placeOf_X8_isDrawn rfl (by decide +kernel) ⟨Nat.le_of_ble_eq_true rfl, Nat.le_of_ble_eq_true rfl⟩ tg_255 (by decide) rfl rfl rfl rfl (Nat.le_of_ble_eq_true rfl) dX8_placeOf_17 ?_
      refine x_if_eq (tgt := 36) C dX8_placeOf_20 (by decide) (fun q9 => ?_) (fun q9 => ?_)
      · have hf := ift q9 hf
        refine x_iconst (v := (0 : Int32)) C dX8_placeOf_36 (by decide) ?_
        refine x_iadd C dX8_placeOf_37 ?_
        refine x_istore_n (lv' := [some (.ref (ad 255)), some (.int a1), some (.int (a2 + (0 : Int32))), some (.int a3)]) C dX8_placeOf_38 rfl (by decide) rfl ?_
        refine x_iinc (d := (1 : Int32)) (v := (a3 + (1 : Int32))) (lv' := [some (.ref (ad 255)), some (.int a1), some (.int (a2 + (0 : Int32))), some (.int (a3 + (1 : Int32)))]) C dX8_placeOf_39 rfl (by decide) rfl (by decide) rfl ?_
        refine x_goto (tgt := 4) C dX8_placeOf_42 (by decide) ?_
        exact x_weak (ih _ _ _ hf) [0, 1, 2, 3] rfl
      · have hf := iff_ q9 hf
        refine x_aload_n C dX8_placeOf_23 rfl rfl ?_
        refine x_iload_n C dX8_placeOf_24 rfl rfl ?_
        refine x_iload_n C dX8_placeOf_25 rfl rfl ?_
        obtain ⟨r10, M11, e12, hf⟩ := bd_of hf
        refine x_callV (n := 2) (Cn := RX8) (T := TX8) (N := 13) (As := [.int a3, .int a1]) (rest := [.int a2]) (maxL := 4) (ret := (some .boolean)) C (c_X8_isAhead  e12) gX8_placeOf_X8_isAhead rfl (by decide +kernel) ⟨Nat.le_of_ble_eq_true rfl, Nat.le_of_ble_eq_true rfl⟩ tg_255 (by decide) rfl rfl rfl rfl (Nat.le_of_ble_eq_true rfl) dX8_placeOf_26 ?_
        refine x_if_eq (tgt := 36) C dX8_placeOf_29 (by decide) (fun q13 => ?_) (fun q13 => ?_)
        · have hf := ift q13 hf
          refine x_iconst (v := (0 : Int32)) C dX8_placeOf_36 (by decide) ?_
          refine x_iadd C dX8_placeOf_37 ?_
          refine x_istore_n (lv' := [some (.ref (ad 255)), some (.int a1), some (.int (a2 + (0 : Int32))), some (.int a3)]) C dX8_placeOf_38 rfl (by decide) rfl ?_
          refine x_iinc (d := (1 : Int32)) (v := (a3 + (1 : Int32))) (lv' := [some (.ref (ad 255)), some (.int a1), some (.int (a2 + (0 : Int32))), some (.int (a3 + (1 : Int32)))]) C dX8_placeOf_39 rfl (by decide) rfl (by decide) rfl ?_
          refine x_goto (tgt := 4) C dX8_placeOf_42 (by decide) ?_
          exact x_weak (ih _ _ _ hf) [0, 1, 2, 3] rfl
        · have hf := iff_ q13 hf
          refine x_iconst (v := (1 : Int32)) C dX8_placeOf_32 (by decide) ?_
          refine x_goto (tgt := 37) C dX8_placeOf_33 (by decide) ?_
          refine x_iadd C dX8_placeOf_37 ?_
          refine x_istore_n (lv' := [some (.ref (ad 255)), some (.int a1), some (.int (a2 + (1 : Int32))), some (.int a3)]) C dX8_placeOf_38 rfl (by decide) rfl ?_
          refine x_iinc (d := (1 : Int32)) (v := (a3 + (1 : Int32))) (lv' := [some (.ref (ad 255)), some (.int a1), some (.int (a2 + (1 : Int32))), some (.int (a3 + (1 : Int32)))]) C dX8_placeOf_39 rfl (by decide) rfl (by decide) rfl ?_
          refine x_goto (tgt := 4) C dX8_placeOf_42 (by decide) ?_
          exact x_weak (ih _ _ _ hf) [0, 1, 2, 3] rfl

set_option maxHeartbeats 4000000 in
set_option maxRecDepth 100000 in
theorem c_X8_placeOf {a1 : Int32} {M : Mem} {r : Int32} {M' : Mem}  (hf : f_X8_placeOf a1 M = some (r, M')) : CnI yX8_placeOf wsX8_placeOf 3 (fun ad => [.ref (ad 255), .int a1]) M r M' := by
  unfold f_X8_placeOf at hf
  refine x_metI (cc := cX8_placeOf) (maxL := 4) RX8 rfl (by decide) rfl (fun ad => Nat.le_of_ble_eq_true rfl) (fun ad v hv => ?_) (fun p l e s m args below meth c D cs ad C hr => ?_)
  · simp only [List.mem_cons, List.not_mem_nil, or_false] at hv
    rcases hv with rfl | rfl <;> rfl
  · show V p l e (rmk 3) s m args below meth c 4 D cs ad (QI below s args D cs ad r M') 0 [some (.ref (ad 255)), some (.int a1), none, none] [] M
    refine x_iconst (v := (0 : Int32)) C dX8_placeOf_0 (by decide) ?_
    refine x_istore_n (lv' := [some (.ref (ad 255)), some (.int a1), some (.int (0 : Int32)), none]) C dX8_placeOf_1 rfl (by decide) rfl ?_
    refine x_iconst (v := (0 : Int32)) C dX8_placeOf_2 (by decide) ?_
    refine x_istore_n (lv' := [some (.ref (ad 255)), some (.int a1), some (.int (0 : Int32)), some (.int (0 : Int32))]) C dX8_placeOf_3 rfl (by decide) rfl ?_
    exact x_weak (cl_X8_placeOf_4 C hr  _ _ _ _ hf) [0, 1, 2, 3] rfl

set_option maxHeartbeats 4000000 in
set_option maxRecDepth 100000 in
theorem cl_X8_pointed_13 {p : Program} {l : Launch} {e : Env} {s : State} {m : MethodId} {args : Array Value} {below : List Frame} {meth : Method} {c : Code} {D : va_G} {cs : Nat → ClassId} {ad : Nat → Nat} (C : Cx p s m args meth c RX8 cX8_pointed 6 wsX8_pointed D cs ad) (hr : meth.sig.returnType = some .int) {a1 : Int32} {r : Int32} {M' : Mem}  : ∀ (n : Nat) (a2 : Int32) (a3 : Int32) (M : Mem), l_X8_pointed_13 a1 n a2 a3 M = some (r, M') → V p l e (rmk 3) s m args below meth c 6 D cs ad (QI below s args D cs ad r M') 13 [some (.ref (ad 255)), some (.int a1), some (.int a2), some (.int a3), none, none] [] M := by
  intro n
  induction n with
  | zero => intro a2 a3 M hf; cases hf
  | succ n ih =>
    intro a2 a3 M hf
    rw [l_X8_pointed_13_s] at hf
    refine x_iload_n C dX8_pointed_13 rfl rfl ?_
    refine x_if_lt (tgt := 87) C dX8_pointed_14 (by decide) (fun q4 => ?_) (fun q4 => ?_)
    · have hf := ift q4 hf
      refine x_iload_n C dX8_pointed_87 rfl rfl ?_
      exact x_iret C hr hf dX8_pointed_88
    · have hf := iff_ q4 hf
      refine x_aload_n C dX8_pointed_17 rfl rfl ?_
      refine x_iload_n C dX8_pointed_18 rfl rfl ?_
      refine x_iconst (v := (4 : Int32)) C dX8_pointed_19 (by decide) ?_
      obtain ⟨r5, M6, e7, hf⟩ := bd_of hf
      refine x_callV (n := 2) (Cn := RX8) (T := TX8) (N := 13) (As := [.int a1, .int (4 : Int32)]) (rest := []) (maxL := 3) (ret := (some .int)) C (c_X8_of  e7) gX8_pointed_X8_of rfl (by decide +kernel) ⟨Nat.le_of_ble_eq_true rfl, Nat.le_of_ble_eq_true rfl⟩ tg_255 (by decide) rfl rfl rfl rfl (Nat.le_of_ble_eq_true rfl) dX8_pointed_20 ?_
      refine x_bipush (v := (-5 : Int32)) C dX8_pointed_23 (by decide) ?_
      refine x_icmp_eq (tgt := 87) C dX8_pointed_25 (by decide) (fun q8 => ?_) (fun q8 => ?_)
      · have hf := ift q8 hf
        refine x_iload_n C dX8_pointed_87 rfl rfl ?_
        exact x_iret C hr hf dX8_pointed_88
      · have hf := iff_ q8 hf
        refine x_aload_n C dX8_pointed_28 rfl rfl ?_
        refine x_iload_n C dX8_pointed_29 rfl rfl ?_
        refine x_bipush (v := (8 : Int32)) C dX8_pointed_30 (by decide) ?_
        refine x_iload_n C dX8_pointed_32 rfl rfl ?_
        refine x_iadd C dX8_pointed_33 ?_
        obtain ⟨r9, M10, e11, hf⟩ := bd_of hf
        refine x_callV (n := 2) (Cn := RX8) (T := TX8) (N := 13) (As := [.int a1, .int ((8 : Int32) + a3)]) (rest := []) (maxL := 3) (ret := (some .int)) C (c_X8_of  e11) gX8_pointed_X8_of rfl (by decide +kernel) ⟨Nat.le_of_ble_eq_true rfl, Nat.le_of_ble_eq_true rfl⟩ tg_255 (by decide) rfl rfl rfl rfl (Nat.le_of_ble_eq_true rfl) dX8_pointed_34 ?_
        refine x_istore (lv' := [some (.ref (ad 255)), some (.int a1), some (.int a2), some (.int a3), some (.int r9), none]) C dX8_pointed_37 (by decide) rfl ?_
        refine x_aload_n C dX8_pointed_39 rfl rfl ?_
        refine x_iload C dX8_pointed_40 rfl ?_
        obtain ⟨r12, M13, e14, hf⟩ := bd_of hf
        refine x_callV (n := 1) (Cn := RX8) (T := TX8) (N := 13) (As := [.int r9]) (rest := []) (maxL := 4) (ret := (some .int)) C (c_X8_holder  e14) gX8_pointed_X8_holder rfl (by decide +kernel) ⟨Nat.le_of_ble_eq_true rfl, Nat.le_of_ble_eq_true rfl⟩ tg_255 (by decide) rfl rfl rfl rfl (Nat.le_of_ble_eq_true rfl) dX8_pointed_42 ?_
        refine x_istore (lv' := [some (.ref (ad 255)), some (.int a1), some (.int a2), some (.int a3), some (.int r9), some (.int r12)]) C dX8_pointed_45 (by decide) rfl ?_
        refine x_iload C dX8_pointed_47 rfl ?_
        refine x_bipush (v := (-5 : Int32)) C dX8_pointed_49 (by decide) ?_
        refine x_icmp_eq (tgt := 79) C dX8_pointed_51 (by decide) (fun q15 => ?_) (fun q15 => ?_)
        · have hf := ift q15 hf
          refine x_iload_n C dX8_pointed_79 rfl rfl ?_
          refine x_istore_n (lv' := [some (.ref (ad 255)), some (.int a1), some (.int a2), some (.int a3), some (.int r9), some (.int r12)]) C dX8_pointed_80 rfl (by decide) rfl ?_
          refine x_iinc (d := (-1 : Int32)) (v := (a3 + (-1 : Int32))) (lv' := [some (.ref (ad 255)), some (.int a1), some (.int a2), some (.int (a3 + (-1 : Int32))), some (.int r9), some (.int r12)]) C dX8_pointed_81 rfl (by decide) rfl (by decide) rfl ?_
          refine x_goto (tgt := 13) C dX8_pointed_84 (by decide) ?_
          exact x_weak (ih _ _ _ hf) [0, 1, 2, 3] rfl
        · have hf := iff_ q15 hf
          refine x_aload_n C dX8_pointed_54 rfl rfl ?_
          refine x_iload_n C dX8_pointed_55 rfl rfl ?_
          refine x_iload C dX8_pointed_56 rfl ?_
          obtain ⟨r16, M17, e18, hf⟩ := bd_of hf
          refine x_callV (n := 2) (Cn := RX8) (T := TX8) (N := 13) (As := [.int a1, .int r9]) (rest := []) (maxL := 4) (ret := (some .boolean)) C (c_X8_isEligible  e18) gX8_pointed_X8_isEligible rfl (by decide +kernel) ⟨Nat.le_of_ble_eq_true rfl, Nat.le_of_ble_eq_true rfl⟩ tg_255 (by decide) rfl rfl rfl rfl (Nat.le_of_ble_eq_true rfl) dX8_pointed_58 ?_
          refine x_if_eq (tgt := 79) C dX8_pointed_61 (by decide) (fun q19 => ?_) (fun q19 => ?_)
          · have hf := ift q19 hf
            refine x_iload_n C dX8_pointed_79 rfl rfl ?_
            refine x_istore_n (lv' := [some (.ref (ad 255)), some (.int a1), some (.int a2), some (.int a3), some (.int r9), some (.int r12)]) C dX8_pointed_80 rfl (by decide) rfl ?_
            refine x_iinc (d := (-1 : Int32)) (v := (a3 + (-1 : Int32))) (lv' := [some (.ref (ad 255)), some (.int a1), some (.int a2), some (.int (a3 + (-1 : Int32))), some (.int r9), some (.int r12)]) C dX8_pointed_81 rfl (by decide) rfl (by decide) rfl ?_
            refine x_goto (tgt := 13) C dX8_pointed_84 (by decide) ?_
            exact x_weak (ih _ _ _ hf) [0, 1, 2, 3] rfl
          · have hf := iff_ q19 hf
            refine x_aload_n C dX8_pointed_64 rfl rfl ?_
            refine x_iload_n C dX8_pointed_65 rfl rfl ?_
            refine x_iload C dX8_pointed_66 rfl ?_
            obtain ⟨r20, M21, e22, hf⟩ := bd_of hf
            refine x_callV (n := 2) (Cn := RX8) (T := TX8) (N := 13) (As := [.int a1, .int r9]) (rest := []) (maxL := 5) (ret := (some .boolean)) C (c_X8_wishesMore  e22) gX8_pointed_X8_wishesMore rfl (by decide +kernel) ⟨Nat.le_of_ble_eq_true rfl, Nat.le_of_ble_eq_true rfl⟩ tg_255 (by decide) rfl rfl rfl rfl (Nat.le_of_ble_eq_true rfl) dX8_pointed_68 ?_
            refine x_if_eq (tgt := 79) C dX8_pointed_71 (by decide) (fun q23 => ?_) (fun q23 => ?_)
            · have hf := ift q23 hf
              refine x_iload_n C dX8_pointed_79 rfl rfl ?_
              refine x_istore_n (lv' := [some (.ref (ad 255)), some (.int a1), some (.int a2), some (.int a3), some (.int r9), some (.int r12)]) C dX8_pointed_80 rfl (by decide) rfl ?_
              refine x_iinc (d := (-1 : Int32)) (v := (a3 + (-1 : Int32))) (lv' := [some (.ref (ad 255)), some (.int a1), some (.int a2), some (.int (a3 + (-1 : Int32))), some (.int r9), some (.int r12)]) C dX8_pointed_81 rfl (by decide) rfl (by decide) rfl ?_
              refine x_goto (tgt := 13) C dX8_pointed_84 (by decide) ?_
              exact x_weak (ih _ _ _ hf) [0, 1, 2, 3] rfl
            · have hf := iff_ q23 hf
              refine x_iload C dX8_pointed_74 rfl ?_
              refine x_goto (tgt := 80) C dX8_pointed_76 (by decide) ?_
              refine x_istore_n (lv' := [some (.ref (ad 255)), some (.int a1), some (.int r12), some (.int a3), some (.int r9), some (.int r12)]) C dX8_pointed_80 rfl (by decide) rfl ?_
              refine x_iinc (d := (-1 : Int32)) (v := (a3 + (-1 : Int32))) (lv' := [some (.ref (ad 255)), some (.int a1), some (.int r12), some (.int (a3 + (-1 : Int32))), some (.int r9), some (.int r12)]) C dX8_pointed_81 rfl (by decide) rfl (by decide) rfl ?_
              refine x_goto (tgt := 13) C dX8_pointed_84 (by decide) ?_
              exact x_weak (ih _ _ _ hf) [0, 1, 2, 3] rfl

set_option maxHeartbeats 4000000 in
set_option maxRecDepth 100000 in
theorem c_X8_pointed {a1 : Int32} {M : Mem} {r : Int32} {M' : Mem}  (hf : f_X8_pointed a1 M = some (r, M')) : CnI yX8_pointed wsX8_pointed 3 (fun ad => [.ref (ad 255), .int a1]) M r M' := by
  unfold f_X8_pointed at hf
  refine x_metI (cc := cX8_pointed) (maxL := 6) RX8 rfl (by decide) rfl (fun ad => Nat.le_of_ble_eq_true rfl) (fun ad v hv => ?_) (fun p l e s m args below meth c D cs ad C hr => ?_)
  · simp only [List.mem_cons, List.not_mem_nil, or_false] at hv
    rcases hv with rfl | rfl <;> rfl
  · show V p l e (rmk 3) s m args below meth c 6 D cs ad (QI below s args D cs ad r M') 0 [some (.ref (ad 255)), some (.int a1), none, none, none, none] [] M
    refine x_bipush (v := (-5 : Int32)) C dX8_pointed_0 (by decide) ?_
    refine x_istore_n (lv' := [some (.ref (ad 255)), some (.int a1), some (.int (-5 : Int32)), none, none, none]) C dX8_pointed_2 rfl (by decide) rfl ?_
    refine x_aload_n C dX8_pointed_3 rfl rfl ?_
    refine x_iload_n C dX8_pointed_4 rfl rfl ?_
    refine x_bipush (v := (7 : Int32)) C dX8_pointed_5 (by decide) ?_
    obtain ⟨r1, M2, e3, hf⟩ := bd_of hf
    refine x_callV (n := 2) (Cn := RX8) (T := TX8) (N := 13) (As := [.int a1, .int (7 : Int32)]) (rest := []) (maxL := 3) (ret := (some .int)) C (c_X8_of  e3) gX8_pointed_X8_of rfl (by decide +kernel) ⟨Nat.le_of_ble_eq_true rfl, Nat.le_of_ble_eq_true rfl⟩ tg_255 (by decide) rfl rfl rfl rfl (Nat.le_of_ble_eq_true rfl) dX8_pointed_7 ?_
    refine x_iconst (v := (1 : Int32)) C dX8_pointed_10 (by decide) ?_
    refine x_isub C dX8_pointed_11 ?_
    refine x_istore_n (lv' := [some (.ref (ad 255)), some (.int a1), some (.int (-5 : Int32)), some (.int (r1 - (1 : Int32))), none, none]) C dX8_pointed_12 rfl (by decide) rfl ?_
    exact x_weak (cl_X8_pointed_13 C hr  _ _ _ _ hf) [0, 1, 2, 3] rfl

