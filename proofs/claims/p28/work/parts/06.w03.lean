theorem kX7_change_10 : Cond.fieldLink RX7 10 "FlatLottery" "state" "LFlatLottery$State;" ∈ wsX7_change := List.mem_of_getElem? (i := 1) rfl
theorem kX7_change_26 : Cond.fieldLink RX7 26 "FlatLottery" "history" "LFlatLottery$History;" ∈ wsX7_change := List.mem_of_getElem? (i := 5) rfl
theorem kX7_change_78 : Cond.fieldLink RX7 78 "FlatLottery$State" "households" "[LFlatLottery$Household;" ∈ wsX7_change := List.mem_of_getElem? (i := 2) rfl
theorem kX7_change_92 : Cond.fieldLink RX7 92 "FlatLottery$Household" "income" "I" ∈ wsX7_change := List.mem_of_getElem? (i := 3) rfl
theorem kX7_change_95 : Cond.fieldLink RX7 95 "FlatLottery$Household" "members" "I" ∈ wsX7_change := List.mem_of_getElem? (i := 4) rfl
theorem nX7_change_2 : ∀ w ∈ u_ws RX2 TX2 9, w ∈ wsX7_change := in_r [73, 74, 75, 76, 77, 78, 79, 80, 81] (by decide +kernel)
theorem nX7_change_6 : ∀ w ∈ u_ws RX6 TX6 8, w ∈ wsX7_change := in_r [65, 66, 67, 68, 69, 70, 71, 72] (by decide +kernel)
theorem nX7_change_7 : ∀ w ∈ u_ws RX7 TX7 7, w ∈ wsX7_change := in_r [58, 59, 60, 61, 62, 63, 64] (by decide +kernel)
set_option maxHeartbeats 4000000 in
set_option maxRecDepth 100000 in
theorem c_X7_change {a1 : Int32} {a2 : Int32} {a3 : Int32} {M : Mem} {r : Int32} {M' : Mem}  (hf : f_X7_change a1 a2 a3 M = some (r, M')) : CnI yX7_change wsX7_change 3 (fun ad => [.ref (ad 0), .int a1, .int a2, .int a3]) M r M' := by
  unfold f_X7_change at hf
  refine x_metI (cc := cX7_change) (maxL := 6) RX7 rfl (by decide) rfl (fun ad => Nat.le_of_ble_eq_true rfl) (fun ad v hv => ?_) (fun p l e s m args below meth c D cs ad C hr => ?_)
  · simp only [List.mem_cons, List.not_mem_nil, or_false] at hv
    rcases hv with rfl | rfl | rfl | rfl <;> rfl
  · show V p l e (rmk 3) s m args below meth c 6 D cs ad (QI below s args D cs ad r M') 0 [some (.ref (ad 0)), some (.int a1), some (.int a2), some (.int a3), none, none] [] M
    refine x_aload_n C dX7_change_0 rfl rfl ?_
    refine x_getr (Cn := RX7) (T := TX7) (N := 7) C tg_0 (by decide) rfl nX7_change_7 0 (by decide) rfl kX7_change_10 rfl dX7_change_1 1 rfl ?_
    refine x_iload_n C dX7_change_4 rfl rfl ?_
    obtain ⟨r1, M2, e3, hf⟩ := bd_of hf
    refine x_callV (n := 1) (Cn := RX6) (T := TX6) (N := 8) (As := [.int a1]) (rest := []) (maxL := 2) (ret := (some .boolean)) C (c_X6_hasHousehold tg_1 e3) gX7_change_X6_hasHousehold rfl (by decide +kernel) ⟨Nat.le_of_ble_eq_true rfl, Nat.le_of_ble_eq_true rfl⟩ tg_1 (by decide) rfl rfl rfl rfl (Nat.le_of_ble_eq_true rfl) dX7_change_5 ?_
    refine x_if_ne (tgt := 13) C dX7_change_8 (by decide) (fun q4 => ?_) (fun q4 => ?_)
    · have hf := ift q4 hf
      refine x_iconst (v := (-1 : Int32)) C dX7_change_11 (by decide) ?_
      exact x_iret C hr hf dX7_change_12
    · have hf := iff_ q4 hf
      refine x_iload_n C dX7_change_13 rfl rfl ?_
      refine x_iconst (v := (1 : Int32)) C dX7_change_14 (by decide) ?_
      refine x_iload_n C dX7_change_15 rfl rfl ?_
      refine x_if_eq (tgt := 25) C dX7_change_16 (by decide) (fun q5 => ?_) (fun q5 => ?_)
      · have hf := ift q5 hf
        refine x_bipush (v := (9 : Int32)) C dX7_change_25 (by decide) ?_
        obtain ⟨r6, M7, e8, hf⟩ := bd_of hf
        refine x_callS (n := 3) (As := [.int a3, .int (1 : Int32), .int (9 : Int32)]) (rest := []) (maxL := 3) (ret := (some .boolean)) C (c_X7_isWithin  e8) gX7_change_X7_isWithin rfl (by decide +kernel) ⟨Nat.le_of_ble_eq_true rfl, Nat.le_of_ble_eq_true rfl⟩ rfl rfl rfl (Nat.le_of_ble_eq_true rfl) dX7_change_27 ?_
        refine x_if_ne (tgt := 36) C dX7_change_30 (by decide) (fun q9 => ?_) (fun q9 => ?_)
        · have hf := ift q9 hf
          refine x_bipush (v := (-2 : Int32)) C dX7_change_33 (by decide) ?_
          exact x_iret C hr hf dX7_change_35
        · have hf := iff_ q9 hf
          refine x_aload_n C dX7_change_36 rfl rfl ?_
          refine x_getr (Cn := RX7) (T := TX7) (N := 7) C tg_0 (by decide) rfl nX7_change_7 0 (by decide) rfl kX7_change_10 rfl dX7_change_37 1 rfl ?_
          refine x_getr (Cn := RX6) (T := TX6) (N := 8) C tg_1 (by decide) rfl nX7_change_6 1 (by decide) rfl kX7_change_78 rfl dX7_change_40 3 rfl ?_
          refine x_iload_n C dX7_change_43 rfl rfl ?_
          obtain ⟨g10, hf⟩ := ck_of hf
          have w11 : 3 + 14 + 2 * (a1).toNatClampNeg = (17 + 2 * (a1).toNatClampNeg) := by omega
          have u12 : tg (17 + 2 * (a1).toNatClampNeg) = 2 := te_H (x := a1) tg_3 g10 w11
          refine x_aaldH (j := (a1).toNatClampNeg) C tg_3 tl_3 g10 rfl dX7_change_44 (17 + 2 * (a1).toNatClampNeg) w11 ?_
          refine x_astore (lv' := [some (.ref (ad 0)), some (.int a1), some (.int a2), some (.int a3), some (.ref (ad (17 + 2 * (a1).toNatClampNeg))), none]) C dX7_change_45 (by decide) rfl ?_
          refine x_iload_n C dX7_change_47 rfl rfl ?_
          refine x_if_eq (tgt := 59) C dX7_change_48 (by decide) (fun q13 => ?_) (fun q13 => ?_)
          · have hf := ift q13 hf
            refine x_aload C dX7_change_59 rfl ?_
            refine x_geti (Cn := RX2) (T := TX2) (N := 9) C u12 (by decide) rfl nX7_change_2 2 (by decide) rfl kX7_change_95 rfl dX7_change_61 ?_
            refine x_istore (lv' := [some (.ref (ad 0)), some (.int a1), some (.int a2), some (.int a3), some (.ref (ad (17 + 2 * (a1).toNatClampNeg))), some (.int (M7 (17 + 2 * (a1).toNatClampNeg) 2))]) C dX7_change_64 (by decide) rfl ?_
            refine x_iload C dX7_change_66 rfl ?_
            refine x_iload_n C dX7_change_68 rfl rfl ?_
            refine x_icmp_ne (tgt := 75) C dX7_change_69 (by decide) (fun q14 => ?_) (fun q14 => ?_)
            · have hf := ift q14 hf
              refine x_bipush (v := (-5 : Int32)) C dX7_change_72 (by decide) ?_
              exact x_iret C hr hf dX7_change_74
            · have hf := iff_ q14 hf
              refine x_aload_n C dX7_change_75 rfl rfl ?_
              refine x_getr (Cn := RX7) (T := TX7) (N := 7) C tg_0 (by decide) rfl nX7_change_7 3 (by decide) rfl kX7_change_26 rfl dX7_change_76 81 rfl ?_
              refine x_aload_n C dX7_change_79 rfl rfl ?_
              refine x_getr (Cn := RX7) (T := TX7) (N := 7) C tg_0 (by decide) rfl nX7_change_7 0 (by decide) rfl kX7_change_10 rfl dX7_change_80 1 rfl ?_
              obtain ⟨r15, M16, e17, hf⟩ := bd_of hf
              refine x_callVv (n := 1) (Cn := RX1) (T := TX1) (N := 2) (As := [.ref (ad 1)]) (rest := []) (maxL := 2) (ret := none) C (c_X1_record tg_1 e17) gX7_change_X1_record rfl (by decide +kernel) ⟨Nat.le_of_ble_eq_true rfl, Nat.le_of_ble_eq_true rfl⟩ tg_81 (by decide) rfl rfl rfl rfl (Nat.le_of_ble_eq_true rfl) dX7_change_83 ?_
              refine x_iload_n C dX7_change_86 rfl rfl ?_
              refine x_if_eq (tgt := 99) C dX7_change_87 (by decide) (fun q18 => ?_) (fun q18 => ?_)
              · have hf := ift q18 hf
                refine x_aload C dX7_change_99 rfl ?_
                refine x_iload_n C dX7_change_101 rfl rfl ?_
                refine x_puti (ty := .int) (Cn := RX2) (T := TX2) (N := 9) C u12 (by decide) rfl nX7_change_2 tyX2 tyX2_ok nmX2 2 (by decide) rfl kX7_change_95 rfl rfl (by decide +kernel) rfl rfl dX7_change_102 ?_
                refine x_gen hf (fun M19 hf => ?_)
                refine x_iload C dX7_change_105 rfl ?_
                exact x_iret C hr hf dX7_change_107
              · have hf := iff_ q18 hf
                refine x_aload C dX7_change_90 rfl ?_
                refine x_iload_n C dX7_change_92 rfl rfl ?_
                refine x_puti (ty := .int) (Cn := RX2) (T := TX2) (N := 9) C u12 (by decide) rfl nX7_change_2 tyX2 tyX2_ok nmX2 3 (by decide) rfl kX7_change_92 rfl rfl (by decide +kernel) rfl rfl dX7_change_93 ?_
                refine x_gen hf (fun M20 hf => ?_)
                refine x_goto (tgt := 105) C dX7_change_96 (by decide) ?_
                refine x_iload C dX7_change_105 rfl ?_
                exact x_iret C hr hf dX7_change_107
          · have hf := iff_ q13 hf
            refine x_aload C dX7_change_51 rfl ?_
            refine x_geti (Cn := RX2) (T := TX2) (N := 9) C u12 (by decide) rfl nX7_change_2 3 (by decide) rfl kX7_change_92 rfl dX7_change_53 ?_
            refine x_goto (tgt := 64) C dX7_change_56 (by decide) ?_
            refine x_istore (lv' := [some (.ref (ad 0)), some (.int a1), some (.int a2), some (.int a3), some (.ref (ad (17 + 2 * (a1).toNatClampNeg))), some (.int (M7 (17 + 2 * (a1).toNatClampNeg) 3))]) C dX7_change_64 (by decide) rfl ?_
            refine x_iload C dX7_change_66 rfl ?_
            refine x_iload_n C dX7_change_68 rfl rfl ?_
            refine x_icmp_ne (tgt := 75) C dX7_change_69 (by decide) (fun q21 => ?_) (fun q21 => ?_)
            · have hf := ift q21 hf
              refine x_bipush (v := (-5 : Int32)) C dX7_change_72 (by decide) ?_
              exact x_iret C hr hf dX7_change_74
            · have hf := iff_ q21 hf
              refine x_aload_n C dX7_change_75 rfl rfl ?_
              refine x_getr (Cn := RX7) (T := TX7) (N := 7) C tg_0 (by decide) rfl nX7_change_7 3 (by decide) rfl kX7_change_26 rfl dX7_change_76 81 rfl ?_
              refine x_aload_n C dX7_change_79 rfl rfl ?_
              refine x_getr (Cn := RX7) (T := TX7) (N := 7) C tg_0 (by decide) rfl nX7_change_7 0 (by decide) rfl kX7_change_10 rfl dX7_change_80 1 rfl ?_
              obtain ⟨r22, M23, e24, hf⟩ := bd_of hf
              refine x_callVv (n := 1) (Cn := RX1) (T := TX1) (N := 2) (As := [.ref (ad 1)]) (rest := []) (maxL := 2) (ret := none) C (c_X1_record tg_1 e24) gX7_change_X1_record rfl (by decide +kernel) ⟨Nat.le_of_ble_eq_true rfl, Nat.le_of_ble_eq_true rfl⟩ tg_81 (by decide) rfl rfl rfl rfl (Nat.le_of_ble_eq_true rfl) dX7_change_83 ?_
              refine x_iload_n C dX7_change_86 rfl rfl ?_
              refine x_if_eq (tgt := 99) C dX7_change_87 (by decide) (fun q25 => ?_) (fun q25 => ?_)
              · have hf := ift q25 hf
                refine x_aload C dX7_change_99 rfl ?_
                refine x_iload_n C dX7_change_101 rfl rfl ?_
                refine x_puti (ty := .int) (Cn := RX2) (T := TX2) (N := 9) C u12 (by decide) rfl nX7_change_2 tyX2 tyX2_ok nmX2 2 (by decide) rfl kX7_change_95 rfl rfl (by decide +kernel) rfl rfl dX7_change_102 ?_
                refine x_gen hf (fun M26 hf => ?_)
                refine x_iload C dX7_change_105 rfl ?_
                exact x_iret C hr hf dX7_change_107
              · have hf := iff_ q25 hf
                refine x_aload C dX7_change_90 rfl ?_
                refine x_iload_n C dX7_change_92 rfl rfl ?_
                refine x_puti (ty := .int) (Cn := RX2) (T := TX2) (N := 9) C u12 (by decide) rfl nX7_change_2 tyX2 tyX2_ok nmX2 3 (by decide) rfl kX7_change_92 rfl rfl (by decide +kernel) rfl rfl dX7_change_93 ?_
                refine x_gen hf (fun M27 hf => ?_)
                refine x_goto (tgt := 105) C dX7_change_96 (by decide) ?_
                refine x_iload C dX7_change_105 rfl ?_
                exact x_iret C hr hf dX7_change_107
      · have hf := iff_ q5 hf
        refine x_sipush (v := (9999 : Int32)) C dX7_change_19 (by decide) ?_
        refine x_goto (tgt := 27) C dX7_change_22 (by decide) ?_
        obtain ⟨r28, M29, e30, hf⟩ := bd_of hf
        refine x_callS (n := 3) (As := [.int a3, .int (1 : Int32), .int (9999 : Int32)]) (rest := []) (maxL := 3) (ret := (some .boolean)) C (c_X7_isWithin  e30) gX7_change_X7_isWithin rfl (by decide +kernel) ⟨Nat.le_of_ble_eq_true rfl, Nat.le_of_ble_eq_true rfl⟩ rfl rfl rfl (Nat.le_of_ble_eq_true rfl) dX7_change_27 ?_
        refine x_if_ne (tgt := 36) C dX7_change_30 (by decide) (fun q31 => ?_) (fun q31 => ?_)
        · have hf := ift q31 hf
          refine x_bipush (v := (-2 : Int32)) C dX7_change_33 (by decide) ?_
          exact x_iret C hr hf dX7_change_35
        · have hf := iff_ q31 hf
          refine x_aload_n C dX7_change_36 rfl rfl ?_
          refine x_getr (Cn := RX7) (T := TX7) (N := 7) C tg_0 (by decide) rfl nX7_change_7 0 (by decide) rfl kX7_change_10 rfl dX7_change_37 1 rfl ?_
          refine x_getr (Cn := RX6) (T := TX6) (N := 8) C tg_1 (by decide) rfl nX7_change_6 1 (by decide) rfl kX7_change_78 rfl dX7_change_40 3 rfl ?_
          refine x_iload_n C dX7_change_43 rfl rfl ?_
          obtain ⟨g32, hf⟩ := ck_of hf
          have w33 : 3 + 14 + 2 * (a1).toNatClampNeg = (17 + 2 * (a1).toNatClampNeg) := by omega
          have u34 : tg (17 + 2 * (a1).toNatClampNeg) = 2 := te_H (x := a1) tg_3 g32 w33
          refine x_aaldH (j := (a1).toNatClampNeg) C tg_3 tl_3 g32 rfl dX7_change_44 (17 + 2 * (a1).toNatClampNeg) w33 ?_
          refine x_astore (lv' := [some (.ref (ad 0)), some (.int a1), some (.int a2), some (.int a3), some (.ref (ad (17 + 2 * (a1).toNatClampNeg))), none]) C dX7_change_45 (by decide) rfl ?_
          refine x_iload_n C dX7_change_47 rfl rfl ?_
          refine x_if_eq (tgt := 59) C dX7_change_48 (by decide) (fun q35 => ?_) (fun q35 => ?_)
          · have hf := ift q35 hf
            refine x_aload C dX7_change_59 rfl ?_
            refine x_geti (Cn := RX2) (T := TX2) (N := 9) C u34 (by decide) rfl nX7_change_2 2 (by decide) rfl kX7_change_95 rfl dX7_change_61 ?_
            refine x_istore (lv' := [some (.ref (ad 0)), some (.int a1), some (.int a2), some (.int a3), some (.ref (ad (17 + 2 * (a1).toNatClampNeg))), some (.int (M29 (17 + 2 * (a1).toNatClampNeg) 2))]) C dX7_change_64 (by decide) rfl ?_
            refine x_iload C dX7_change_66 rfl ?_
            refine x_iload_n C dX7_change_68 rfl rfl ?_
            refine x_icmp_ne (tgt := 75) C dX7_change_69 (by decide) (fun q36 => ?_) (fun q36 => ?_)
            · have hf := ift q36 hf
              refine x_bipush (v := (-5 : Int32)) C dX7_change_72 (by decide) ?_
              exact x_iret C hr hf dX7_change_74
            · have hf := iff_ q36 hf
              refine x_aload_n C dX7_change_75 rfl rfl ?_
              refine x_getr (Cn := RX7) (T := TX7) (N := 7) C tg_0 (by decide) rfl nX7_change_7 3 (by decide) rfl kX7_change_26 rfl dX7_change_76 81 rfl ?_
              refine x_aload_n C dX7_change_79 rfl rfl ?_
              refine x_getr (Cn := RX7) (T := TX7) (N := 7) C tg_0 (by decide) rfl nX7_change_7 0 (by decide) rfl kX7_change_10 rfl dX7_change_80 1 rfl ?_
              obtain ⟨r37, M38, e39, hf⟩ := bd_of hf
              refine x_callVv (n := 1) (Cn := RX1) (T := TX1) (N := 2) (As := [.ref (ad 1)]) (rest := []) (maxL := 2) (ret := none) C (c_X1_record tg_1 e39) gX7_change_X1_record rfl (by decide +kernel) ⟨Nat.le_of_ble_eq_true rfl, Nat.le_of_ble_eq_true rfl⟩ tg_81 (by decide) rfl rfl rfl rfl (Nat.le_of_ble_eq_true rfl) dX7_change_83 ?_
              refine x_iload_n C dX7_change_86 rfl rfl ?_
              refine x_if_eq (tgt := 99) C dX7_change_87 (by decide) (fun q40 => ?_) (fun q40 => ?_)
              · have hf := ift q40 hf
                refine x_aload C dX7_change_99 rfl ?_
                refine x_iload_n C dX7_change_101 rfl rfl ?_
                refine x_puti (ty := .int) (Cn := RX2) (T := TX2) (N := 9) C u34 (by decide) rfl nX7_change_2 tyX2 tyX2_ok nmX2 2 (by decide) rfl kX7_change_95 rfl rfl (by decide +kernel) rfl rfl dX7_change_102 ?_
                refine x_gen hf (fun M41 hf => ?_)
                refine x_iload C dX7_change_105 rfl ?_
                exact x_iret C hr hf dX7_change_107
              · have hf := iff_ q40 hf
                refine x_aload C dX7_change_90 rfl ?_
                refine x_iload_n C dX7_change_92 rfl rfl ?_
                refine x_puti (ty := .int) (Cn := RX2) (T := TX2) (N := 9) C u34 (by decide) rfl nX7_change_2 tyX2 tyX2_ok nmX2 3 (by decide) rfl kX7_change_92 rfl rfl (by decide +kernel) rfl rfl dX7_change_93 ?_
                refine x_gen hf (fun M42 hf => ?_)
                refine x_goto (tgt := 105) C dX7_change_96 (by decide) ?_
                refine x_iload C dX7_change_105 rfl ?_
                exact x_iret C hr hf dX7_change_107
          · have hf := iff_ q35 hf
            refine x_aload C dX7_change_51 rfl ?_
            refine x_geti (Cn := RX2) (T := TX2) (N := 9) C u34 (by decide) rfl nX7_change_2 3 (by decide) rfl kX7_change_92 rfl dX7_change_53 ?_
            refine x_goto (tgt := 64) C dX7_change_56 (by decide) ?_
            refine x_istore (lv' := [some (.ref (ad 0)), some (.int a1), some (.int a2), some (.int a3), some (.ref (ad (17 + 2 * (a1).toNatClampNeg))), some (.int (M29 (17 + 2 * (a1).toNatClampNeg) 3))]) C dX7_change_64 (by decide) rfl ?_
            refine x_iload C dX7_change_66 rfl ?_
            refine x_iload_n C dX7_change_68 rfl rfl ?_
            refine x_icmp_ne (tgt := 75) C dX7_change_69 (by decide) (fun q43 => ?_) (fun q43 => ?_)
            · have hf := ift q43 hf
              refine x_bipush (v := (-5 : Int32)) C dX7_change_72 (by decide) ?_
              exact x_iret C hr hf dX7_change_74
            · have hf := iff_ q43 hf
              refine x_aload_n C dX7_change_75 rfl rfl ?_
              refine x_getr (Cn := RX7) (T := TX7) (N := 7) C tg_0 (by decide) rfl nX7_change_7 3 (by decide) rfl kX7_change_26 rfl dX7_change_76 81 rfl ?_
              refine x_aload_n C dX7_change_79 rfl rfl ?_
              refine x_getr (Cn := RX7) (T := TX7) (N := 7) C tg_0 (by decide) rfl nX7_change_7 0 (by decide) rfl kX7_change_10 rfl dX7_change_80 1 rfl ?_
              obtain ⟨r44, M45, e46, hf⟩ := bd_of hf
              refine x_callVv (n := 1) (Cn := RX1) (T := TX1) (N := 2) (As := [.ref (ad 1)]) (rest := []) (maxL := 2) (ret := none) C (c_X1_record tg_1 e46) gX7_change_X1_record rfl (by decide +kernel) ⟨Nat.le_of_ble_eq_true rfl, Nat.le_of_ble_eq_true rfl⟩ tg_81 (by decide) rfl rfl rfl rfl (Nat.le_of_ble_eq_true rfl) dX7_change_83 ?_
              refine x_iload_n C dX7_change_86 rfl rfl ?_
              refine x_if_eq (tgt := 99) C dX7_change_87 (by decide) (fun q47 => ?_) (fun q47 => ?_)
              · have hf := ift q47 hf
                refine x_aload C dX7_change_99 rfl ?_
                refine x_iload_n C dX7_change_101 rfl rfl ?_
                refine x_puti (ty := .int) (Cn := RX2) (T := TX2) (N := 9) C u34 (by decide) rfl nX7_change_2 tyX2 tyX2_ok nmX2 2 (by decide) rfl kX7_change_95 rfl rfl (by decide +kernel) rfl rfl dX7_change_102 ?_
                refine x_gen hf (fun M48 hf => ?_)
                refine x_iload C dX7_change_105 rfl ?_
                exact x_iret C hr hf dX7_change_107
              · have hf := iff_ q47 hf
                refine x_aload C dX7_change_90 rfl ?_
                refine x_iload_n C dX7_change_92 rfl rfl ?_
                refine x_puti (ty := .int) (Cn := RX2) (T := TX2) (N := 9) C u34 (by decide) rfl nX7_change_2 tyX2 tyX2_ok nmX2 3 (by decide) rfl kX7_change_92 rfl rfl (by decide +kernel) rfl rfl dX7_change_93 ?_
                refine x_gen hf (fun M49 hf => ?_)
                refine x_goto (tgt := 105) C dX7_change_96 (by decide) ?_
                refine x_iload C dX7_change_105 rfl ?_
                exact x_iret C hr hf dX7_change_107

theorem kX7_decline_10 : Cond.fieldLink RX7 10 "FlatLottery" "state" "LFlatLottery$State;" ∈ wsX7_decline := List.mem_of_getElem? (i := 1) rfl
theorem kX7_decline_26 : Cond.fieldLink RX7 26 "FlatLottery" "history" "LFlatLottery$History;" ∈ wsX7_decline := List.mem_of_getElem? (i := 4) rfl
theorem kX7_decline_78 : Cond.fieldLink RX7 78 "FlatLottery$State" "households" "[LFlatLottery$Household;" ∈ wsX7_decline := List.mem_of_getElem? (i := 2) rfl
theorem kX7_decline_148 : Cond.fieldLink RX7 148 "FlatLottery$Household" "held" "I" ∈ wsX7_decline := List.mem_of_getElem? (i := 3) rfl
theorem kX7_decline_151 : Cond.fieldLink RX7 151 "FlatLottery$Household" "points" "I" ∈ wsX7_decline := List.mem_of_getElem? (i := 5) rfl
theorem kX7_decline_160 : Cond.fieldLink RX7 160 "FlatLottery$State" "declined" "I" ∈ wsX7_decline := List.mem_of_getElem? (i := 10) rfl
theorem nX7_decline_2 : ∀ w ∈ u_ws RX2 TX2 9, w ∈ wsX7_decline := in_r [82, 83, 84, 85, 86, 87, 88, 89, 90] (by decide +kernel)
theorem nX7_decline_6 : ∀ w ∈ u_ws RX6 TX6 8, w ∈ wsX7_decline := in_r [74, 75, 76, 77, 78, 79, 80, 81] (by decide +kernel)
theorem nX7_decline_7 : ∀ w ∈ u_ws RX7 TX7 7, w ∈ wsX7_decline := in_r [67, 68, 69, 70, 71, 72, 73] (by decide +kernel)
theorem kmxX7_decline_1 : Cond.methodLink RX7 154 Lib.Math.max.name ∈ wsX7_decline := List.mem_of_getElem? (i := 6) rfl
theorem kmxX7_decline_2 : Cond.static Lib.Math.max.name ∈ wsX7_decline := List.mem_of_getElem? (i := 7) rfl
theorem kmxX7_decline_3 : Cond.initialized "java/lang/Math" ∈ wsX7_decline := List.mem_of_getElem? (i := 8) rfl
theorem kmxX7_decline_4 : Cond.code Lib.Math.max.name Lib.Math.max.code 2 (some .int) ∈ wsX7_decline := List.mem_of_getElem? (i := 9) rfl
set_option maxHeartbeats 4000000 in
set_option maxRecDepth 100000 in
theorem c_X7_decline {a1 : Int32} {M : Mem} {r : Int32} {M' : Mem}  (hf : f_X7_decline a1 M = some (r, M')) : CnI yX7_decline wsX7_decline 3 (fun ad => [.ref (ad 0), .int a1]) M r M' := by
  unfold f_X7_decline at hf
  refine x_metI (cc := cX7_decline) (maxL := 4) RX7 rfl (by decide) rfl (fun ad => Nat.le_of_ble_eq_true rfl) (fun ad v hv => ?_) (fun p l e s m args below meth c D cs ad C hr => ?_)
  · simp only [List.mem_cons, List.not_mem_nil, or_false] at hv
    rcases hv with rfl | rfl <;> rfl
  · show V p l e (rmk 3) s m args below meth c 4 D cs ad (QI below s args D cs ad r M') 0 [some (.ref (ad 0)), some (.int a1), none, none] [] M
    refine x_aload_n C dX7_decline_0 rfl rfl ?_
    refine x_getr (Cn := RX7) (T := TX7) (N := 7) C tg_0 (by decide) rfl nX7_decline_7 0 (by decide) rfl kX7_decline_10 rfl dX7_decline_1 1 rfl ?_
    refine x_iload_n C dX7_decline_4 rfl rfl ?_
    obtain ⟨r1, M2, e3, hf⟩ := bd_of hf
    refine x_callV (n := 1) (Cn := RX6) (T := TX6) (N := 8) (As := [.int a1]) (rest := []) (maxL := 2) (ret := (some .boolean)) C (c_X6_hasHousehold tg_1 e3) gX7_decline_X6_hasHousehold rfl (by decide +kernel) ⟨Nat.le_of_ble_eq_true rfl, Nat.le_of_ble_eq_true rfl⟩ tg_1 (by decide) rfl rfl rfl rfl (Nat.le_of_ble_eq_true rfl) dX7_decline_5 ?_
    refine x_if_ne (tgt := 13) C dX7_decline_8 (by decide) (fun q4 => ?_) (fun q4 => ?_)
    · have hf := ift q4 hf
      refine x_iconst (v := (-1 : Int32)) C dX7_decline_11 (by decide) ?_
      exact x_iret C hr hf dX7_decline_12
    · have hf := iff_ q4 hf
      refine x_aload_n C dX7_decline_13 rfl rfl ?_
      refine x_getr (Cn := RX7) (T := TX7) (N := 7) C tg_0 (by decide) rfl nX7_decline_7 0 (by decide) rfl kX7_decline_10 rfl dX7_decline_14 1 rfl ?_
      refine x_getr (Cn := RX6) (T := TX6) (N := 8) C tg_1 (by decide) rfl nX7_decline_6 1 (by decide) rfl kX7_decline_78 rfl dX7_decline_17 3 rfl ?_
      refine x_iload_n C dX7_decline_20 rfl rfl ?_
      obtain ⟨g5, hf⟩ := ck_of hf
      have w6 : 3 + 14 + 2 * (a1).toNatClampNeg = (17 + 2 * (a1).toNatClampNeg) := by omega
      have u7 : tg (17 + 2 * (a1).toNatClampNeg) = 2 := te_H (x := a1) tg_3 g5 w6
      refine x_aaldH (j := (a1).toNatClampNeg) C tg_3 tl_3 g5 rfl dX7_decline_21 (17 + 2 * (a1).toNatClampNeg) w6 ?_
      refine x_astore_n (lv' := [some (.ref (ad 0)), some (.int a1), some (.ref (ad (17 + 2 * (a1).toNatClampNeg))), none]) C dX7_decline_22 rfl (by decide) rfl ?_
      refine x_aload_n C dX7_decline_23 rfl rfl ?_
      refine x_geti (Cn := RX2) (T := TX2) (N := 9) C u7 (by decide) rfl nX7_decline_2 6 (by decide) rfl kX7_decline_148 rfl dX7_decline_24 ?_
      refine x_istore_n (lv' := [some (.ref (ad 0)), some (.int a1), some (.ref (ad (17 + 2 * (a1).toNatClampNeg))), some (.int (M2 (17 + 2 * (a1).toNatClampNeg) 6))]) C dX7_decline_27 rfl (by decide) rfl ?_
      refine x_iload_n C dX7_decline_28 rfl rfl ?_
      refine x_bipush (v := (-5 : Int32)) C dX7_decline_29 (by decide) ?_
      refine x_icmp_ne (tgt := 37) C dX7_decline_31 (by decide) (fun q8 => ?_) (fun q8 => ?_)
      · have hf := ift q8 hf
        refine x_bipush (v := (-4 : Int32)) C dX7_decline_34 (by decide) ?_
        exact x_iret C hr hf dX7_decline_36
      · have hf := iff_ q8 hf
        refine x_aload_n C dX7_decline_37 rfl rfl ?_
        refine x_getr (Cn := RX7) (T := TX7) (N := 7) C tg_0 (by decide) rfl nX7_decline_7 3 (by decide) rfl kX7_decline_26 rfl dX7_decline_38 81 rfl ?_
        refine x_aload_n C dX7_decline_41 rfl rfl ?_
        refine x_getr (Cn := RX7) (T := TX7) (N := 7) C tg_0 (by decide) rfl nX7_decline_7 0 (by decide) rfl kX7_decline_10 rfl dX7_decline_42 1 rfl ?_
        obtain ⟨r9, M10, e11, hf⟩ := bd_of hf
        refine x_callVv (n := 1) (Cn := RX1) (T := TX1) (N := 2) (As := [.ref (ad 1)]) (rest := []) (maxL := 2) (ret := none) C (c_X1_record tg_1 e11) gX7_decline_X1_record rfl (by decide +kernel) ⟨Nat.le_of_ble_eq_true rfl, Nat.le_of_ble_eq_true rfl⟩ tg_81 (by decide) rfl rfl rfl rfl (Nat.le_of_ble_eq_true rfl) dX7_decline_45 ?_
        refine x_aload_n C dX7_decline_48 rfl rfl ?_
        refine x_bipush (v := (-5 : Int32)) C dX7_decline_49 (by decide) ?_
        refine x_puti (ty := .int) (Cn := RX2) (T := TX2) (N := 9) C u7 (by decide) rfl nX7_decline_2 tyX2 tyX2_ok nmX2 6 (by decide) rfl kX7_decline_148 rfl rfl (by decide +kernel) rfl rfl dX7_decline_51 ?_
        refine x_gen hf (fun M12 hf => ?_)
        refine x_aload_n C dX7_decline_54 rfl rfl ?_
        refine x_iload_n C dX7_decline_55 rfl rfl ?_
        obtain ⟨r13, M14, e15, hf⟩ := bd_of hf
        refine x_callVv (n := 1) (Cn := RX2) (T := TX2) (N := 9) (As := [.int (M2 (17 + 2 * (a1).toNatClampNeg) 6)]) (rest := []) (maxL := 4) (ret := none) C (c_X2_removeWish u7 e15) gX7_decline_X2_removeWish rfl (by decide +kernel) ⟨Nat.le_of_ble_eq_true rfl, Nat.le_of_ble_eq_true rfl⟩ u7 (by decide) rfl rfl rfl rfl (Nat.le_of_ble_eq_true rfl) dX7_decline_56 ?_
        refine x_aload_n C dX7_decline_59 rfl rfl ?_
        refine x_aload_n C dX7_decline_60 rfl rfl ?_
        refine x_geti (Cn := RX2) (T := TX2) (N := 9) C u7 (by decide) rfl nX7_decline_2 5 (by decide) rfl kX7_decline_151 rfl dX7_decline_61 ?_
        refine x_iconst (v := (1 : Int32)) C dX7_decline_64 (by decide) ?_
        refine x_isub C dX7_decline_65 ?_
        refine x_iconst (v := (0 : Int32)) C dX7_decline_66 (by decide) ?_
        refine x_mmax C kmxX7_decline_1 kmxX7_decline_2 kmxX7_decline_3 kmxX7_decline_4 ⟨Nat.le_of_ble_eq_true rfl, Nat.le_of_ble_eq_true rfl⟩ (Nat.le_of_ble_eq_true rfl) dX7_decline_67 ?_
        refine x_puti (ty := .int) (Cn := RX2) (T := TX2) (N := 9) C u7 (by decide) rfl nX7_decline_2 tyX2 tyX2_ok nmX2 5 (by decide) rfl kX7_decline_151 rfl rfl (by decide +kernel) rfl rfl dX7_decline_70 ?_
        refine x_gen hf (fun M16 hf => ?_)
        refine x_aload_n C dX7_decline_73 rfl rfl ?_
        refine x_getr (Cn := RX7) (T := TX7) (N := 7) C tg_0 (by decide) rfl nX7_decline_7 0 (by decide) rfl kX7_decline_10 rfl dX7_decline_74 1 rfl ?_
        refine x_dup C dX7_decline_77 rfl ?_
        refine x_geti (Cn := RX6) (T := TX6) (N := 8) C tg_1 (by decide) rfl nX7_decline_6 6 (by decide) rfl kX7_decline_160 rfl dX7_decline_78 ?_
        refine x_iconst (v := (1 : Int32)) C dX7_decline_81 (by decide) ?_
        refine x_iadd C dX7_decline_82 ?_
        refine x_puti (ty := .int) (Cn := RX6) (T := TX6) (N := 8) C tg_1 (by decide) rfl nX7_decline_6 tyX6 tyX6_ok nmX6 6 (by decide) rfl kX7_decline_160 rfl rfl (by decide +kernel) rfl rfl dX7_decline_83 ?_
        refine x_gen hf (fun M17 hf => ?_)
        refine x_iload_n C dX7_decline_86 rfl rfl ?_
        exact x_iret C hr hf dX7_decline_87

theorem kX7_draw_10 : Cond.fieldLink RX7 10 "FlatLottery" "state" "LFlatLottery$State;" ∈ wsX7_draw := List.mem_of_getElem? (i := 1) rfl
theorem kX7_draw_26 : Cond.fieldLink RX7 26 "FlatLottery" "history" "LFlatLottery$History;" ∈ wsX7_draw := List.mem_of_getElem? (i := 2) rfl
theorem kX7_draw_78 : Cond.fieldLink RX7 78 "FlatLottery$State" "households" "[LFlatLottery$Household;" ∈ wsX7_draw := List.mem_of_getElem? (i := 3) rfl
theorem kX7_draw_136 : Cond.fieldLink RX7 136 "FlatLottery$Household" "number" "I" ∈ wsX7_draw := List.mem_of_getElem? (i := 4) rfl
theorem nX7_draw_2 : ∀ w ∈ u_ws RX2 TX2 9, w ∈ wsX7_draw := in_r [81, 82, 83, 84, 85, 86, 87, 88, 89] (by decide +kernel)
theorem nX7_draw_6 : ∀ w ∈ u_ws RX6 TX6 8, w ∈ wsX7_draw := in_r [73, 74, 75, 76, 77, 78, 79, 80] (by decide +kernel)
theorem nX7_draw_7 : ∀ w ∈ u_ws RX7 TX7 7, w ∈ wsX7_draw := in_r [66, 67, 68, 69, 70, 71, 72] (by decide +kernel)
set_option maxHeartbeats 4000000 in
set_option maxRecDepth 100000 in
theorem c_X7_draw {a1 : Int32} {a2 : Int32} {M : Mem} {r : Int32} {M' : Mem}  (hf : f_X7_draw a1 a2 M = some (r, M')) : CnI yX7_draw wsX7_draw 3 (fun ad => [.ref (ad 0), .int a1, .int a2]) M r M' := by
  unfold f_X7_draw at hf
  refine x_metI (cc := cX7_draw) (maxL := 4) RX7 rfl (by decide) rfl (fun ad => Nat.le_of_ble_eq_true rfl) (fun ad v hv => ?_) (fun p l e s m args below meth c D cs ad C hr => ?_)
  · simp only [List.mem_cons, List.not_mem_nil, or_false] at hv
    rcases hv with rfl | rfl | rfl <;> rfl
  · show V p l e (rmk 3) s m args below meth c 4 D cs ad (QI below s args D cs ad r M') 0 [some (.ref (ad 0)), some (.int a1), some (.int a2), none] [] M
    refine x_aload_n C dX7_draw_0 rfl rfl ?_
    refine x_getr (Cn := RX7) (T := TX7) (N := 7) C tg_0 (by decide) rfl nX7_draw_7 0 (by decide) rfl kX7_draw_10 rfl dX7_draw_1 1 rfl ?_
    refine x_iload_n C dX7_draw_4 rfl rfl ?_
    obtain ⟨r1, M2, e3, hf⟩ := bd_of hf
    refine x_callV (n := 1) (Cn := RX6) (T := TX6) (N := 8) (As := [.int a1]) (rest := []) (maxL := 2) (ret := (some .boolean)) C (c_X6_hasHousehold tg_1 e3) gX7_draw_X6_hasHousehold rfl (by decide +kernel) ⟨Nat.le_of_ble_eq_true rfl, Nat.le_of_ble_eq_true rfl⟩ tg_1 (by decide) rfl rfl rfl rfl (Nat.le_of_ble_eq_true rfl) dX7_draw_5 ?_
    refine x_if_ne (tgt := 13) C dX7_draw_8 (by decide) (fun q4 => ?_) (fun q4 => ?_)
    · have hf := ift q4 hf
      refine x_iconst (v := (-1 : Int32)) C dX7_draw_11 (by decide) ?_
      exact x_iret C hr hf dX7_draw_12
    · have hf := iff_ q4 hf
      refine x_iload_n C dX7_draw_13 rfl rfl ?_
      refine x_iconst (v := (1 : Int32)) C dX7_draw_14 (by decide) ?_
      refine x_sipush (v := (999 : Int32)) C dX7_draw_15 (by decide) ?_
      obtain ⟨r5, M6, e7, hf⟩ := bd_of hf
      refine x_callS (n := 3) (As := [.int a2, .int (1 : Int32), .int (999 : Int32)]) (rest := []) (maxL := 3) (ret := (some .boolean)) C (c_X7_isWithin  e7) gX7_draw_X7_isWithin rfl (by decide +kernel) ⟨Nat.le_of_ble_eq_true rfl, Nat.le_of_ble_eq_true rfl⟩ rfl rfl rfl (Nat.le_of_ble_eq_true rfl) dX7_draw_18 ?_
      refine x_if_ne (tgt := 27) C dX7_draw_21 (by decide) (fun q8 => ?_) (fun q8 => ?_)
      · have hf := ift q8 hf
        refine x_bipush (v := (-2 : Int32)) C dX7_draw_24 (by decide) ?_
        exact x_iret C hr hf dX7_draw_26
      · have hf := iff_ q8 hf
        refine x_aload_n C dX7_draw_27 rfl rfl ?_
        refine x_getr (Cn := RX7) (T := TX7) (N := 7) C tg_0 (by decide) rfl nX7_draw_7 0 (by decide) rfl kX7_draw_10 rfl dX7_draw_28 1 rfl ?_
        refine x_iload_n C dX7_draw_31 rfl rfl ?_
        obtain ⟨r9, M10, e11, hf⟩ := bd_of hf
        refine x_callV (n := 1) (Cn := RX6) (T := TX6) (N := 8) (As := [.int a2]) (rest := []) (maxL := 3) (ret := (some .int)) C (c_X6_ownerOfNumber tg_1 e11) gX7_draw_X6_ownerOfNumber rfl (by decide +kernel) ⟨Nat.le_of_ble_eq_true rfl, Nat.le_of_ble_eq_true rfl⟩ tg_1 (by decide) rfl rfl rfl rfl (Nat.le_of_ble_eq_true rfl) dX7_draw_32 ?_
        refine x_istore_n (lv' := [some (.ref (ad 0)), some (.int a1), some (.int a2), some (.int r9)]) C dX7_draw_35 rfl (by decide) rfl ?_
        refine x_iload_n C dX7_draw_36 rfl rfl ?_
        refine x_iload_n C dX7_draw_37 rfl rfl ?_
        refine x_icmp_ne (tgt := 44) C dX7_draw_38 (by decide) (fun q12 => ?_) (fun q12 => ?_)
        · have hf := ift q12 hf
          refine x_bipush (v := (-5 : Int32)) C dX7_draw_41 (by decide) ?_
          exact x_iret C hr hf dX7_draw_43
        · have hf := iff_ q12 hf
          refine x_iload_n C dX7_draw_44 rfl rfl ?_
          refine x_bipush (v := (-5 : Int32)) C dX7_draw_45 (by decide) ?_
          refine x_icmp_eq (tgt := 53) C dX7_draw_47 (by decide) (fun q13 => ?_) (fun q13 => ?_)
          · have hf := ift q13 hf
            refine x_aload_n C dX7_draw_53 rfl rfl ?_
            refine x_getr (Cn := RX7) (T := TX7) (N := 7) C tg_0 (by decide) rfl nX7_draw_7 3 (by decide) rfl kX7_draw_26 rfl dX7_draw_54 81 rfl ?_
            refine x_aload_n C dX7_draw_57 rfl rfl ?_
            refine x_getr (Cn := RX7) (T := TX7) (N := 7) C tg_0 (by decide) rfl nX7_draw_7 0 (by decide) rfl kX7_draw_10 rfl dX7_draw_58 1 rfl ?_
            obtain ⟨r14, M15, e16, hf⟩ := bd_of hf
            refine x_callVv (n := 1) (Cn := RX1) (T := TX1) (N := 2) (As := [.ref (ad 1)]) (rest := []) (maxL := 2) (ret := none) C (c_X1_record tg_1 e16) gX7_draw_X1_record rfl (by decide +kernel) ⟨Nat.le_of_ble_eq_true rfl, Nat.le_of_ble_eq_true rfl⟩ tg_81 (by decide) rfl rfl rfl rfl (Nat.le_of_ble_eq_true rfl) dX7_draw_61 ?_
            refine x_aload_n C dX7_draw_64 rfl rfl ?_
            refine x_getr (Cn := RX7) (T := TX7) (N := 7) C tg_0 (by decide) rfl nX7_draw_7 0 (by decide) rfl kX7_draw_10 rfl dX7_draw_65 1 rfl ?_
            refine x_getr (Cn := RX6) (T := TX6) (N := 8) C tg_1 (by decide) rfl nX7_draw_6 1 (by decide) rfl kX7_draw_78 rfl dX7_draw_68 3 rfl ?_
            refine x_iload_n C dX7_draw_71 rfl rfl ?_
            obtain ⟨g17, hf⟩ := ck_of hf
            have w18 : 3 + 14 + 2 * (a1).toNatClampNeg = (17 + 2 * (a1).toNatClampNeg) := by omega
            have u19 : tg (17 + 2 * (a1).toNatClampNeg) = 2 := te_H (x := a1) tg_3 g17 w18
            refine x_aaldH (j := (a1).toNatClampNeg) C tg_3 tl_3 g17 rfl dX7_draw_72 (17 + 2 * (a1).toNatClampNeg) w18 ?_
            refine x_iload_n C dX7_draw_73 rfl rfl ?_
            refine x_puti (ty := .int) (Cn := RX2) (T := TX2) (N := 9) C u19 (by decide) rfl nX7_draw_2 tyX2 tyX2_ok nmX2 4 (by decide) rfl kX7_draw_136 rfl rfl (by decide +kernel) rfl rfl dX7_draw_74 ?_
            refine x_gen hf (fun M20 hf => ?_)
            refine x_aload_n C dX7_draw_77 rfl rfl ?_
            refine x_getr (Cn := RX7) (T := TX7) (N := 7) C tg_0 (by decide) rfl nX7_draw_7 0 (by decide) rfl kX7_draw_10 rfl dX7_draw_78 1 rfl ?_
            obtain ⟨r21, M22, e23, hf⟩ := bd_of hf
            refine x_callV (n := 0) (Cn := RX6) (T := TX6) (N := 8) (As := []) (rest := []) (maxL := 3) (ret := (some .int)) C (c_X6_countNumbered tg_1 e23) gX7_draw_X6_countNumbered rfl (by decide +kernel) ⟨Nat.le_of_ble_eq_true rfl, Nat.le_of_ble_eq_true rfl⟩ tg_1 (by decide) rfl rfl rfl rfl (Nat.le_of_ble_eq_true rfl) dX7_draw_81 ?_
            exact x_iret C hr hf dX7_draw_84
          · have hf := iff_ q13 hf
            refine x_bipush (v := (-4 : Int32)) C dX7_draw_50 (by decide) ?_
            exact x_iret C hr hf dX7_draw_52

theorem kX7_envies_10 : Cond.fieldLink RX7 10 "FlatLottery" "state" "LFlatLottery$State;" ∈ wsX7_envies := List.mem_of_getElem? (i := 1) rfl
theorem kX7_envies_78 : Cond.fieldLink RX7 78 "FlatLottery$State" "households" "[LFlatLottery$Household;" ∈ wsX7_envies := List.mem_of_getElem? (i := 2) rfl
theorem nX7_envies_6 : ∀ w ∈ u_ws RX6 TX6 8, w ∈ wsX7_envies := in_r [57, 58, 59, 60, 61, 62, 63, 64] (by decide +kernel)
theorem nX7_envies_7 : ∀ w ∈ u_ws RX7 TX7 7, w ∈ wsX7_envies := in_r [50, 51, 52, 53, 54, 55, 56] (by decide +kernel)
set_option maxHeartbeats 4000000 in
set_option maxRecDepth 100000 in
theorem c_X7_envies {a1 : Int32} {a2 : Int32} {M : Mem} {r : Int32} {M' : Mem}  (hf : f_X7_envies a1 a2 M = some (r, M')) : CnI yX7_envies wsX7_envies 3 (fun ad => [.ref (ad 0), .int a1, .int a2]) M r M' := by
  unfold f_X7_envies at hf
  refine x_metI (cc := cX7_envies) (maxL := 3) RX7 rfl (by decide) rfl (fun ad => Nat.le_of_ble_eq_true rfl) (fun ad v hv => ?_) (fun p l e s m args below meth c D cs ad C hr => ?_)
  · simp only [List.mem_cons, List.not_mem_nil, or_false] at hv
    rcases hv with rfl | rfl | rfl <;> rfl
  · show V p l e (rmk 3) s m args below meth c 3 D cs ad (QI below s args D cs ad r M') 0 [some (.ref (ad 0)), some (.int a1), some (.int a2)] [] M
    refine x_aload_n C dX7_envies_0 rfl rfl ?_
    refine x_getr (Cn := RX7) (T := TX7) (N := 7) C tg_0 (by decide) rfl nX7_envies_7 0 (by decide) rfl kX7_envies_10 rfl dX7_envies_1 1 rfl ?_
    refine x_iload_n C dX7_envies_4 rfl rfl ?_
    obtain ⟨r1, M2, e3, hf⟩ := bd_of hf
    refine x_callV (n := 1) (Cn := RX6) (T := TX6) (N := 8) (As := [.int a1]) (rest := []) (maxL := 2) (ret := (some .boolean)) C (c_X6_hasHousehold tg_1 e3) gX7_envies_X6_hasHousehold rfl (by decide +kernel) ⟨Nat.le_of_ble_eq_true rfl, Nat.le_of_ble_eq_true rfl⟩ tg_1 (by decide) rfl rfl rfl rfl (Nat.le_of_ble_eq_true rfl) dX7_envies_5 ?_
    refine x_if_eq (tgt := 22) C dX7_envies_8 (by decide) (fun q4 => ?_) (fun q4 => ?_)
    · have hf := ift q4 hf
      refine x_iconst (v := (-1 : Int32)) C dX7_envies_22 (by decide) ?_
      exact x_iret C hr hf dX7_envies_23
    · have hf := iff_ q4 hf
      refine x_aload_n C dX7_envies_11 rfl rfl ?_
      refine x_getr (Cn := RX7) (T := TX7) (N := 7) C tg_0 (by decide) rfl nX7_envies_7 0 (by decide) rfl kX7_envies_10 rfl dX7_envies_12 1 rfl ?_
      refine x_iload_n C dX7_envies_15 rfl rfl ?_
      obtain ⟨r5, M6, e7, hf⟩ := bd_of hf
      refine x_callV (n := 1) (Cn := RX6) (T := TX6) (N := 8) (As := [.int a2]) (rest := []) (maxL := 2) (ret := (some .boolean)) C (c_X6_hasHousehold tg_1 e7) gX7_envies_X6_hasHousehold rfl (by decide +kernel) ⟨Nat.le_of_ble_eq_true rfl, Nat.le_of_ble_eq_true rfl⟩ tg_1 (by decide) rfl rfl rfl rfl (Nat.le_of_ble_eq_true rfl) dX7_envies_16 ?_
      refine x_if_ne (tgt := 24) C dX7_envies_19 (by decide) (fun q8 => ?_) (fun q8 => ?_)
      · have hf := ift q8 hf
        refine x_iconst (v := (-1 : Int32)) C dX7_envies_22 (by decide) ?_
        exact x_iret C hr hf dX7_envies_23
      · have hf := iff_ q8 hf
        refine x_iload_n C dX7_envies_24 rfl rfl ?_
        refine x_iload_n C dX7_envies_25 rfl rfl ?_
        refine x_icmp_ne (tgt := 32) C dX7_envies_26 (by decide) (fun q9 => ?_) (fun q9 => ?_)
        · have hf := ift q9 hf
          refine x_bipush (v := (-2 : Int32)) C dX7_envies_29 (by decide) ?_
          exact x_iret C hr hf dX7_envies_31
        · have hf := iff_ q9 hf
          refine x_aload_n C dX7_envies_32 rfl rfl ?_
          refine x_getr (Cn := RX7) (T := TX7) (N := 7) C tg_0 (by decide) rfl nX7_envies_7 0 (by decide) rfl kX7_envies_10 rfl dX7_envies_33 1 rfl ?_
          refine x_aload_n C dX7_envies_36 rfl rfl ?_
          refine x_getr (Cn := RX7) (T := TX7) (N := 7) C tg_0 (by decide) rfl nX7_envies_7 0 (by decide) rfl kX7_envies_10 rfl dX7_envies_37 1 rfl ?_
          refine x_getr (Cn := RX6) (T := TX6) (N := 8) C tg_1 (by decide) rfl nX7_envies_6 1 (by decide) rfl kX7_envies_78 rfl dX7_envies_40 3 rfl ?_
          refine x_iload_n C dX7_envies_43 rfl rfl ?_
          obtain ⟨g10, hf⟩ := ck_of hf
          have w11 : 3 + 14 + 2 * (a1).toNatClampNeg = (17 + 2 * (a1).toNatClampNeg) := by omega
          have u12 : tg (17 + 2 * (a1).toNatClampNeg) = 2 := te_H (x := a1) tg_3 g10 w11
          refine x_aaldH (j := (a1).toNatClampNeg) C tg_3 tl_3 g10 rfl dX7_envies_44 (17 + 2 * (a1).toNatClampNeg) w11 ?_
          refine x_aload_n C dX7_envies_45 rfl rfl ?_
          refine x_getr (Cn := RX7) (T := TX7) (N := 7) C tg_0 (by decide) rfl nX7_envies_7 0 (by decide) rfl kX7_envies_10 rfl dX7_envies_46 1 rfl ?_
          refine x_getr (Cn := RX6) (T := TX6) (N := 8) C tg_1 (by decide) rfl nX7_envies_6 1 (by decide) rfl kX7_envies_78 rfl dX7_envies_49 3 rfl ?_
          refine x_iload_n C dX7_envies_52 rfl rfl ?_
          obtain ⟨g13, hf⟩ := ck_of hf
          have w14 : 3 + 14 + 2 * (a2).toNatClampNeg = (17 + 2 * (a2).toNatClampNeg) := by omega
          have u15 : tg (17 + 2 * (a2).toNatClampNeg) = 2 := te_H (x := a2) tg_3 g13 w14
          refine x_aaldH (j := (a2).toNatClampNeg) C tg_3 tl_3 g13 rfl dX7_envies_53 (17 + 2 * (a2).toNatClampNeg) w14 ?_
          obtain ⟨r16, M17, e18, hf⟩ := bd_of hf
          refine x_callV (n := 2) (Cn := RX6) (T := TX6) (N := 8) (As := [.ref (ad (17 + 2 * (a1).toNatClampNeg)), .ref (ad (17 + 2 * (a2).toNatClampNeg))]) (rest := []) (maxL := 4) (ret := (some .int)) C (c_X6_envyOf tg_1 u12 u15 e18) gX7_envies_X6_envyOf rfl (by decide +kernel) ⟨Nat.le_of_ble_eq_true rfl, Nat.le_of_ble_eq_true rfl⟩ tg_1 (by decide) rfl rfl rfl rfl (Nat.le_of_ble_eq_true rfl) dX7_envies_54 ?_
          exact x_iret C hr hf dX7_envies_57

theorem kX7_flat_10 : Cond.fieldLink RX7 10 "FlatLottery" "state" "LFlatLottery$State;" ∈ wsX7_flat := List.mem_of_getElem? (i := 1) rfl
theorem kX7_flat_63 : Cond.fieldLink RX7 63 "FlatLottery$State" "flats" "[LFlatLottery$Flat;" ∈ wsX7_flat := List.mem_of_getElem? (i := 2) rfl
theorem kX7_flat_67 : Cond.fieldLink RX7 67 "FlatLottery$Flat" "rooms" "I" ∈ wsX7_flat := List.mem_of_getElem? (i := 3) rfl
theorem kX7_flat_72 : Cond.fieldLink RX7 72 "FlatLottery$Flat" "rent" "I" ∈ wsX7_flat := List.mem_of_getElem? (i := 4) rfl
theorem nX7_flat_0 : ∀ w ∈ u_ws RX0 TX0 2, w ∈ wsX7_flat := in_r [62, 63] (by decide +kernel)
theorem nX7_flat_6 : ∀ w ∈ u_ws RX6 TX6 8, w ∈ wsX7_flat := in_r [54, 55, 56, 57, 58, 59, 60, 61] (by decide +kernel)
theorem nX7_flat_7 : ∀ w ∈ u_ws RX7 TX7 7, w ∈ wsX7_flat := in_r [47, 48, 49, 50, 51, 52, 53] (by decide +kernel)
set_option maxHeartbeats 4000000 in
set_option maxRecDepth 100000 in
theorem c_X7_flat {a1 : Int32} {a2 : Int32} {M : Mem} {r : Int32} {M' : Mem}  (hf : f_X7_flat a1 a2 M = some (r, M')) : CnI yX7_flat wsX7_flat 3 (fun ad => [.ref (ad 0), .int a1, .int a2]) M r M' := by
  unfold f_X7_flat at hf
  refine x_metI (cc := cX7_flat) (maxL := 3) RX7 rfl (by decide) rfl (fun ad => Nat.le_of_ble_eq_true rfl) (fun ad v hv => ?_) (fun p l e s m args below meth c D cs ad C hr => ?_)
  · simp only [List.mem_cons, List.not_mem_nil, or_false] at hv
    rcases hv with rfl | rfl | rfl <;> rfl
  · show V p l e (rmk 3) s m args below meth c 3 D cs ad (QI below s args D cs ad r M') 0 [some (.ref (ad 0)), some (.int a1), some (.int a2)] [] M
    refine x_aload_n C dX7_flat_0 rfl rfl ?_
    refine x_getr (Cn := RX7) (T := TX7) (N := 7) C tg_0 (by decide) rfl nX7_flat_7 0 (by decide) rfl kX7_flat_10 rfl dX7_flat_1 1 rfl ?_
    refine x_iload_n C dX7_flat_4 rfl rfl ?_
    obtain ⟨r1, M2, e3, hf⟩ := bd_of hf
    refine x_callV (n := 1) (Cn := RX6) (T := TX6) (N := 8) (As := [.int a1]) (rest := []) (maxL := 2) (ret := (some .boolean)) C (c_X6_hasFlat tg_1 e3) gX7_flat_X6_hasFlat rfl (by decide +kernel) ⟨Nat.le_of_ble_eq_true rfl, Nat.le_of_ble_eq_true rfl⟩ tg_1 (by decide) rfl rfl rfl rfl (Nat.le_of_ble_eq_true rfl) dX7_flat_5 ?_
    refine x_if_ne (tgt := 13) C dX7_flat_8 (by decide) (fun q4 => ?_) (fun q4 => ?_)
    · have hf := ift q4 hf
      refine x_iconst (v := (-1 : Int32)) C dX7_flat_11 (by decide) ?_
      exact x_iret C hr hf dX7_flat_12
    · have hf := iff_ q4 hf
      refine x_iload_n C dX7_flat_13 rfl rfl ?_
      by_cases q5 : a2 = (0 : Int32)
      · have hf := ift q5 hf
        refine x_tabIn (tgt := 48) (off := 34) C dX7_flat_14 (0 : Int32) q5 (by decide) (by decide) (by decide) (by decide) ?_
        refine x_aload_n C dX7_flat_48 rfl rfl ?_
        refine x_getr (Cn := RX7) (T := TX7) (N := 7) C tg_0 (by decide) rfl nX7_flat_7 0 (by decide) rfl kX7_flat_10 rfl dX7_flat_49 1 rfl ?_
        refine x_getr (Cn := RX6) (T := TX6) (N := 8) C tg_1 (by decide) rfl nX7_flat_6 0 (by decide) rfl kX7_flat_63 rfl dX7_flat_52 2 rfl ?_
        refine x_iload_n C dX7_flat_55 rfl rfl ?_
        obtain ⟨g6, hf⟩ := ck_of hf
        have w7 : 2 + 3 + (a1).toNatClampNeg = (5 + (a1).toNatClampNeg) := by omega
        have u8 : tg (5 + (a1).toNatClampNeg) = 0 := te_F (x := a1) tg_2 g6 w7
        refine x_aaldF (j := (a1).toNatClampNeg) C tg_2 tl_2 g6 rfl dX7_flat_56 (5 + (a1).toNatClampNeg) w7 ?_
        refine x_geti (Cn := RX0) (T := TX0) (N := 2) C u8 (by decide) rfl nX7_flat_0 0 (by decide) rfl kX7_flat_67 rfl dX7_flat_57 ?_
        exact x_iret C hr hf dX7_flat_60
      · have hf := iff_ q5 hf
        by_cases q9 : a2 = (1 : Int32)
        · have hf := ift q9 hf
          refine x_tabIn (tgt := 61) (off := 47) C dX7_flat_14 (1 : Int32) q9 (by decide) (by decide) (by decide) (by decide) ?_
          refine x_aload_n C dX7_flat_61 rfl rfl ?_
          refine x_getr (Cn := RX7) (T := TX7) (N := 7) C tg_0 (by decide) rfl nX7_flat_7 0 (by decide) rfl kX7_flat_10 rfl dX7_flat_62 1 rfl ?_
          refine x_getr (Cn := RX6) (T := TX6) (N := 8) C tg_1 (by decide) rfl nX7_flat_6 0 (by decide) rfl kX7_flat_63 rfl dX7_flat_65 2 rfl ?_
          refine x_iload_n C dX7_flat_68 rfl rfl ?_
          obtain ⟨g10, hf⟩ := ck_of hf
          have w11 : 2 + 3 + (a1).toNatClampNeg = (5 + (a1).toNatClampNeg) := by omega
          have u12 : tg (5 + (a1).toNatClampNeg) = 0 := te_F (x := a1) tg_2 g10 w11
          refine x_aaldF (j := (a1).toNatClampNeg) C tg_2 tl_2 g10 rfl dX7_flat_69 (5 + (a1).toNatClampNeg) w11 ?_
          refine x_geti (Cn := RX0) (T := TX0) (N := 2) C u12 (by decide) rfl nX7_flat_0 1 (by decide) rfl kX7_flat_72 rfl dX7_flat_70 ?_
          exact x_iret C hr hf dX7_flat_73
        · have hf := iff_ q9 hf
          by_cases q13 : a2 = (2 : Int32)
          · have hf := ift q13 hf
            refine x_tabIn (tgt := 74) (off := 60) C dX7_flat_14 (2 : Int32) q13 (by decide) (by decide) (by decide) (by decide) ?_
            refine x_aload_n C dX7_flat_74 rfl rfl ?_
            refine x_getr (Cn := RX7) (T := TX7) (N := 7) C tg_0 (by decide) rfl nX7_flat_7 0 (by decide) rfl kX7_flat_10 rfl dX7_flat_75 1 rfl ?_
            refine x_iload_n C dX7_flat_78 rfl rfl ?_
            obtain ⟨r14, M15, e16, hf⟩ := bd_of hf
            refine x_callV (n := 1) (Cn := RX6) (T := TX6) (N := 8) (As := [.int a1]) (rest := []) (maxL := 3) (ret := (some .int)) C (c_X6_holderOf tg_1 e16) gX7_flat_X6_holderOf rfl (by decide +kernel) ⟨Nat.le_of_ble_eq_true rfl, Nat.le_of_ble_eq_true rfl⟩ tg_1 (by decide) rfl rfl rfl rfl (Nat.le_of_ble_eq_true rfl) dX7_flat_79 ?_
            exact x_iret C hr hf dX7_flat_82
          · have hf := iff_ q13 hf
            by_cases q17 : a2 = (3 : Int32)
            · have hf := ift q17 hf
              refine x_tabIn (tgt := 83) (off := 69) C dX7_flat_14 (3 : Int32) q17 (by decide) (by decide) (by decide) (by decide) ?_
              refine x_aload_n C dX7_flat_83 rfl rfl ?_
              refine x_getr (Cn := RX7) (T := TX7) (N := 7) C tg_0 (by decide) rfl nX7_flat_7 0 (by decide) rfl kX7_flat_10 rfl dX7_flat_84 1 rfl ?_
              refine x_iload_n C dX7_flat_87 rfl rfl ?_
              obtain ⟨r18, M19, e20, hf⟩ := bd_of hf
              refine x_callV (n := 1) (Cn := RX6) (T := TX6) (N := 8) (As := [.int a1]) (rest := []) (maxL := 4) (ret := (some .int)) C (c_X6_wishersOf tg_1 e20) gX7_flat_X6_wishersOf rfl (by decide +kernel) ⟨Nat.le_of_ble_eq_true rfl, Nat.le_of_ble_eq_true rfl⟩ tg_1 (by decide) rfl rfl rfl rfl (Nat.le_of_ble_eq_true rfl) dX7_flat_88 ?_
              exact x_iret C hr hf dX7_flat_91
            · have hf := iff_ q17 hf
              by_cases q21 : a2 = (4 : Int32)
              · have hf := ift q21 hf
                refine x_tabIn (tgt := 92) (off := 78) C dX7_flat_14 (4 : Int32) q21 (by decide) (by decide) (by decide) (by decide) ?_
                refine x_aload_n C dX7_flat_92 rfl rfl ?_
                refine x_getr (Cn := RX7) (T := TX7) (N := 7) C tg_0 (by decide) rfl nX7_flat_7 0 (by decide) rfl kX7_flat_10 rfl dX7_flat_93 1 rfl ?_
                refine x_iload_n C dX7_flat_96 rfl rfl ?_
                obtain ⟨r22, M23, e24, hf⟩ := bd_of hf
                refine x_callV (n := 1) (Cn := RX6) (T := TX6) (N := 8) (As := [.int a1]) (rest := []) (maxL := 4) (ret := (some .int)) C (c_X6_eligibleFor tg_1 e24) gX7_flat_X6_eligibleFor rfl (by decide +kernel) ⟨Nat.le_of_ble_eq_true rfl, Nat.le_of_ble_eq_true rfl⟩ tg_1 (by decide) rfl rfl rfl rfl (Nat.le_of_ble_eq_true rfl) dX7_flat_97 ?_
                exact x_iret C hr hf dX7_flat_100
              · have hf := iff_ q21 hf
                have zq5 := lv_neT q5 (a := 0) (by decide)
                have zq9 := lv_neT q9 (a := 1) (by decide)
                have zq13 := lv_neT q13 (a := 2) (by decide)
                have zq17 := lv_neT q17 (a := 3) (by decide)
                have zq21 := lv_neT q21 (a := 4) (by decide)
                refine x_tabOut (tgt := 101) C dX7_flat_14 (by omega) (by decide) ?_
                refine x_bipush (v := (-2 : Int32)) C dX7_flat_101 (by decide) ?_
                exact x_iret C hr hf dX7_flat_103

theorem kX7_household_10 : Cond.fieldLink RX7 10 "FlatLottery" "state" "LFlatLottery$State;" ∈ wsX7_household := List.mem_of_getElem? (i := 1) rfl
theorem kX7_household_78 : Cond.fieldLink RX7 78 "FlatLottery$State" "households" "[LFlatLottery$Household;" ∈ wsX7_household := List.mem_of_getElem? (i := 2) rfl
theorem kX7_household_92 : Cond.fieldLink RX7 92 "FlatLottery$Household" "income" "I" ∈ wsX7_household := List.mem_of_getElem? (i := 4) rfl
theorem kX7_household_95 : Cond.fieldLink RX7 95 "FlatLottery$Household" "members" "I" ∈ wsX7_household := List.mem_of_getElem? (i := 3) rfl
theorem kX7_household_101 : Cond.fieldLink RX7 101 "FlatLottery$Household" "wishCount" "I" ∈ wsX7_household := List.mem_of_getElem? (i := 8) rfl
theorem kX7_household_136 : Cond.fieldLink RX7 136 "FlatLottery$Household" "number" "I" ∈ wsX7_household := List.mem_of_getElem? (i := 5) rfl
theorem kX7_household_148 : Cond.fieldLink RX7 148 "FlatLottery$Household" "held" "I" ∈ wsX7_household := List.mem_of_getElem? (i := 7) rfl
theorem kX7_household_151 : Cond.fieldLink RX7 151 "FlatLottery$Household" "points" "I" ∈ wsX7_household := List.mem_of_getElem? (i := 6) rfl
theorem kX7_household_163 : Cond.fieldLink RX7 163 "FlatLottery$Household" "appeals" "I" ∈ wsX7_household := List.mem_of_getElem? (i := 9) rfl
theorem kX7_household_218 : Cond.fieldLink RX7 218 "FlatLottery$Household" "passedOver" "I" ∈ wsX7_household := List.mem_of_getElem? (i := 10) rfl
theorem nX7_household_2 : ∀ w ∈ u_ws RX2 TX2 9, w ∈ wsX7_household := in_r [85, 86, 87, 88, 89, 90, 91, 92, 93] (by decide +kernel)
theorem nX7_household_6 : ∀ w ∈ u_ws RX6 TX6 8, w ∈ wsX7_household := in_r [77, 78, 79, 80, 81, 82, 83, 84] (by decide +kernel)
theorem nX7_household_7 : ∀ w ∈ u_ws RX7 TX7 7, w ∈ wsX7_household := in_r [70, 71, 72, 73, 74, 75, 76] (by decide +kernel)
set_option maxHeartbeats 4000000 in
set_option maxRecDepth 100000 in
theorem c_X7_household {a1 : Int32} {a2 : Int32} {M : Mem} {r : Int32} {M' : Mem}  (hf : f_X7_household a1 a2 M = some (r, M')) : CnI yX7_household wsX7_household 3 (fun ad => [.ref (ad 0), .int a1, .int a2]) M r M' := by
  unfold f_X7_household at hf
  refine x_metI (cc := cX7_household) (maxL := 4) RX7 rfl (by decide) rfl (fun ad => Nat.le_of_ble_eq_true rfl) (fun ad v hv => ?_) (fun p l e s m args below meth c D cs ad C hr => ?_)
  · simp only [List.mem_cons, List.not_mem_nil, or_false] at hv
    rcases hv with rfl | rfl | rfl <;> rfl
  · show V p l e (rmk 3) s m args below meth c 4 D cs ad (QI below s args D cs ad r M') 0 [some (.ref (ad 0)), some (.int a1), some (.int a2), none] [] M
    refine x_aload_n C dX7_household_0 rfl rfl ?_
    refine x_getr (Cn := RX7) (T := TX7) (N := 7) C tg_0 (by decide) rfl nX7_household_7 0 (by decide) rfl kX7_household_10 rfl dX7_household_1 1 rfl ?_
    refine x_iload_n C dX7_household_4 rfl rfl ?_
    obtain ⟨r1, M2, e3, hf⟩ := bd_of hf
    refine x_callV (n := 1) (Cn := RX6) (T := TX6) (N := 8) (As := [.int a1]) (rest := []) (maxL := 2) (ret := (some .boolean)) C (c_X6_hasHousehold tg_1 e3) gX7_household_X6_hasHousehold rfl (by decide +kernel) ⟨Nat.le_of_ble_eq_true rfl, Nat.le_of_ble_eq_true rfl⟩ tg_1 (by decide) rfl rfl rfl rfl (Nat.le_of_ble_eq_true rfl) dX7_household_5 ?_
    refine x_if_ne (tgt := 13) C dX7_household_8 (by decide) (fun q4 => ?_) (fun q4 => ?_)
    · have hf := ift q4 hf
      refine x_iconst (v := (-1 : Int32)) C dX7_household_11 (by decide) ?_
      exact x_iret C hr hf dX7_household_12
    · have hf := iff_ q4 hf
      refine x_aload_n C dX7_household_13 rfl rfl ?_
      refine x_getr (Cn := RX7) (T := TX7) (N := 7) C tg_0 (by decide) rfl nX7_household_7 0 (by decide) rfl kX7_household_10 rfl dX7_household_14 1 rfl ?_
      refine x_getr (Cn := RX6) (T := TX6) (N := 8) C tg_1 (by decide) rfl nX7_household_6 1 (by decide) rfl kX7_household_78 rfl dX7_household_17 3 rfl ?_
      refine x_iload_n C dX7_household_20 rfl rfl ?_
      obtain ⟨g5, hf⟩ := ck_of hf
      have w6 : 3 + 14 + 2 * (a1).toNatClampNeg = (17 + 2 * (a1).toNatClampNeg) := by omega
      have u7 : tg (17 + 2 * (a1).toNatClampNeg) = 2 := te_H (x := a1) tg_3 g5 w6
      refine x_aaldH (j := (a1).toNatClampNeg) C tg_3 tl_3 g5 rfl dX7_household_21 (17 + 2 * (a1).toNatClampNeg) w6 ?_
      refine x_astore_n (lv' := [some (.ref (ad 0)), some (.int a1), some (.int a2), some (.ref (ad (17 + 2 * (a1).toNatClampNeg)))]) C dX7_household_22 rfl (by decide) rfl ?_
      refine x_iload_n C dX7_household_23 rfl rfl ?_
      by_cases q8 : a2 = (0 : Int32)
      · have hf := ift q8 hf
        refine x_tabIn (tgt := 80) (off := 56) C dX7_household_24 (0 : Int32) q8 (by decide) (by decide) (by decide) (by decide) ?_
        refine x_aload_n C dX7_household_80 rfl rfl ?_
        refine x_geti (Cn := RX2) (T := TX2) (N := 9) C u7 (by decide) rfl nX7_household_2 2 (by decide) rfl kX7_household_95 rfl dX7_household_81 ?_
        exact x_iret C hr hf dX7_household_84
      · have hf := iff_ q8 hf
        by_cases q9 : a2 = (1 : Int32)
        · have hf := ift q9 hf
          refine x_tabIn (tgt := 85) (off := 61) C dX7_household_24 (1 : Int32) q9 (by decide) (by decide) (by decide) (by decide) ?_
          refine x_aload_n C dX7_household_85 rfl rfl ?_
          refine x_geti (Cn := RX2) (T := TX2) (N := 9) C u7 (by decide) rfl nX7_household_2 3 (by decide) rfl kX7_household_92 rfl dX7_household_86 ?_
          exact x_iret C hr hf dX7_household_89
        · have hf := iff_ q9 hf
          by_cases q10 : a2 = (2 : Int32)
          · have hf := ift q10 hf
            refine x_tabIn (tgt := 90) (off := 66) C dX7_household_24 (2 : Int32) q10 (by decide) (by decide) (by decide) (by decide) ?_
            refine x_aload_n C dX7_household_90 rfl rfl ?_
            refine x_geti (Cn := RX2) (T := TX2) (N := 9) C u7 (by decide) rfl nX7_household_2 4 (by decide) rfl kX7_household_136 rfl dX7_household_91 ?_
            exact x_iret C hr hf dX7_household_94
          · have hf := iff_ q10 hf
            by_cases q11 : a2 = (3 : Int32)
            · have hf := ift q11 hf
              refine x_tabIn (tgt := 95) (off := 71) C dX7_household_24 (3 : Int32) q11 (by decide) (by decide) (by decide) (by decide) ?_
              refine x_aload_n C dX7_household_95 rfl rfl ?_
              refine x_geti (Cn := RX2) (T := TX2) (N := 9) C u7 (by decide) rfl nX7_household_2 5 (by decide) rfl kX7_household_151 rfl dX7_household_96 ?_
              exact x_iret C hr hf dX7_household_99
            · have hf := iff_ q11 hf
              by_cases q12 : a2 = (4 : Int32)
              · have hf := ift q12 hf
                refine x_tabIn (tgt := 100) (off := 76) C dX7_household_24 (4 : Int32) q12 (by decide) (by decide) (by decide) (by decide) ?_
                refine x_aload_n C dX7_household_100 rfl rfl ?_
                refine x_geti (Cn := RX2) (T := TX2) (N := 9) C u7 (by decide) rfl nX7_household_2 6 (by decide) rfl kX7_household_148 rfl dX7_household_101 ?_
                exact x_iret C hr hf dX7_household_104
              · have hf := iff_ q12 hf
                by_cases q13 : a2 = (5 : Int32)
                · have hf := ift q13 hf
                  refine x_tabIn (tgt := 105) (off := 81) C dX7_household_24 (5 : Int32) q13 (by decide) (by decide) (by decide) (by decide) ?_
                  refine x_aload_n C dX7_household_105 rfl rfl ?_
                  refine x_geti (Cn := RX2) (T := TX2) (N := 9) C u7 (by decide) rfl nX7_household_2 1 (by decide) rfl kX7_household_101 rfl dX7_household_106 ?_
                  exact x_iret C hr hf dX7_household_109
                · have hf := iff_ q13 hf
                  by_cases q14 : a2 = (6 : Int32)
                  · have hf := ift q14 hf
                    refine x_tabIn (tgt := 110) (off := 86) C dX7_household_24 (6 : Int32) q14 (by decide) (by decide) (by decide) (by decide) ?_
                    refine x_aload_n C dX7_household_110 rfl rfl ?_
                    refine x_geti (Cn := RX2) (T := TX2) (N := 9) C u7 (by decide) rfl nX7_household_2 7 (by decide) rfl kX7_household_163 rfl dX7_household_111 ?_
                    exact x_iret C hr hf dX7_household_114
                  · have hf := iff_ q14 hf
                    by_cases q15 : a2 = (7 : Int32)
                    · have hf := ift q15 hf
                      refine x_tabIn (tgt := 115) (off := 91) C dX7_household_24 (7 : Int32) q15 (by decide) (by decide) (by decide) (by decide) ?_
                      refine x_aload_n C dX7_household_115 rfl rfl ?_
                      refine x_getr (Cn := RX7) (T := TX7) (N := 7) C tg_0 (by decide) rfl nX7_household_7 0 (by decide) rfl kX7_household_10 rfl dX7_household_116 1 rfl ?_
                      refine x_aload_n C dX7_household_119 rfl rfl ?_
                      obtain ⟨r16, M17, e18, hf⟩ := bd_of hf
                      refine x_callV (n := 1) (Cn := RX6) (T := TX6) (N := 8) (As := [.ref (ad (17 + 2 * (a1).toNatClampNeg))]) (rest := []) (maxL := 4) (ret := (some .int)) C (c_X6_placeInOrder tg_1 u7 e18) gX7_household_X6_placeInOrder rfl (by decide +kernel) ⟨Nat.le_of_ble_eq_true rfl, Nat.le_of_ble_eq_true rfl⟩ tg_1 (by decide) rfl rfl rfl rfl (Nat.le_of_ble_eq_true rfl) dX7_household_120 ?_
                      exact x_iret C hr hf dX7_household_123
                    · have hf := iff_ q15 hf
                      by_cases q19 : a2 = (8 : Int32)
                      · have hf := ift q19 hf
                        refine x_tabIn (tgt := 124) (off := 100) C dX7_household_24 (8 : Int32) q19 (by decide) (by decide) (by decide) (by decide) ?_
                        refine x_aload_n C dX7_household_124 rfl rfl ?_
                        refine x_getr (Cn := RX7) (T := TX7) (N := 7) C tg_0 (by decide) rfl nX7_household_7 0 (by decide) rfl kX7_household_10 rfl dX7_household_125 1 rfl ?_
                        refine x_aload_n C dX7_household_128 rfl rfl ?_
                        obtain ⟨r20, M21, e22, hf⟩ := bd_of hf
                        refine x_callV (n := 1) (Cn := RX6) (T := TX6) (N := 8) (As := [.ref (ad (17 + 2 * (a1).toNatClampNeg))]) (rest := []) (maxL := 5) (ret := (some .int)) C (c_X6_pointsTo tg_1 u7 e22) gX7_household_X6_pointsTo rfl (by decide +kernel) ⟨Nat.le_of_ble_eq_true rfl, Nat.le_of_ble_eq_true rfl⟩ tg_1 (by decide) rfl rfl rfl rfl (Nat.le_of_ble_eq_true rfl) dX7_household_129 ?_
                        exact x_iret C hr hf dX7_household_132
                      · have hf := iff_ q19 hf
                        by_cases q23 : a2 = (9 : Int32)
                        · have hf := ift q23 hf
                          refine x_tabIn (tgt := 133) (off := 109) C dX7_household_24 (9 : Int32) q23 (by decide) (by decide) (by decide) (by decide) ?_
                          refine x_aload_n C dX7_household_133 rfl rfl ?_
                          refine x_geti (Cn := RX2) (T := TX2) (N := 9) C u7 (by decide) rfl nX7_household_2 8 (by decide) rfl kX7_household_218 rfl dX7_household_134 ?_
                          exact x_iret C hr hf dX7_household_137
                        · have hf := iff_ q23 hf
                          have zq8 := lv_neT q8 (a := 0) (by decide)
                          have zq9 := lv_neT q9 (a := 1) (by decide)
                          have zq10 := lv_neT q10 (a := 2) (by decide)
                          have zq11 := lv_neT q11 (a := 3) (by decide)
                          have zq12 := lv_neT q12 (a := 4) (by decide)
                          have zq13 := lv_neT q13 (a := 5) (by decide)
                          have zq14 := lv_neT q14 (a := 6) (by decide)
                          have zq15 := lv_neT q15 (a := 7) (by decide)
                          have zq19 := lv_neT q19 (a := 8) (by decide)
                          have zq23 := lv_neT q23 (a := 9) (by decide)
                          refine x_tabOut (tgt := 138) C dX7_household_24 (by omega) (by decide) ?_
                          refine x_bipush (v := (-2 : Int32)) C dX7_household_138 (by decide) ?_
                          exact x_iret C hr hf dX7_household_140

theorem kX7_moveOut_10 : Cond.fieldLink RX7 10 "FlatLottery" "state" "LFlatLottery$State;" ∈ wsX7_moveOut := List.mem_of_getElem? (i := 1) rfl
theorem kX7_moveOut_26 : Cond.fieldLink RX7 26 "FlatLottery" "history" "LFlatLottery$History;" ∈ wsX7_moveOut := List.mem_of_getElem? (i := 4) rfl
theorem kX7_moveOut_78 : Cond.fieldLink RX7 78 "FlatLottery$State" "households" "[LFlatLottery$Household;" ∈ wsX7_moveOut := List.mem_of_getElem? (i := 2) rfl
theorem kX7_moveOut_148 : Cond.fieldLink RX7 148 "FlatLottery$Household" "held" "I" ∈ wsX7_moveOut := List.mem_of_getElem? (i := 3) rfl
theorem nX7_moveOut_2 : ∀ w ∈ u_ws RX2 TX2 9, w ∈ wsX7_moveOut := in_r [68, 69, 70, 71, 72, 73, 74, 75, 76] (by decide +kernel)
theorem nX7_moveOut_6 : ∀ w ∈ u_ws RX6 TX6 8, w ∈ wsX7_moveOut := in_r [60, 61, 62, 63, 64, 65, 66, 67] (by decide +kernel)
theorem nX7_moveOut_7 : ∀ w ∈ u_ws RX7 TX7 7, w ∈ wsX7_moveOut := in_r [53, 54, 55, 56, 57, 58, 59] (by decide +kernel)
set_option maxHeartbeats 4000000 in
set_option maxRecDepth 100000 in
theorem c_X7_moveOut {a1 : Int32} {M : Mem} {r : Int32} {M' : Mem}  (hf : f_X7_moveOut a1 M = some (r, M')) : CnI yX7_moveOut wsX7_moveOut 3 (fun ad => [.ref (ad 0), .int a1]) M r M' := by
  unfold f_X7_moveOut at hf
  refine x_metI (cc := cX7_moveOut) (maxL := 4) RX7 rfl (by decide) rfl (fun ad => Nat.le_of_ble_eq_true rfl) (fun ad v hv => ?_) (fun p l e s m args below meth c D cs ad C hr => ?_)
  · simp only [List.mem_cons, List.not_mem_nil, or_false] at hv
    rcases hv with rfl | rfl <;> rfl
  · show V p l e (rmk 3) s m args below meth c 4 D cs ad (QI below s args D cs ad r M') 0 [some (.ref (ad 0)), some (.int a1), none, none] [] M
    refine x_aload_n C dX7_moveOut_0 rfl rfl ?_
    refine x_getr (Cn := RX7) (T := TX7) (N := 7) C tg_0 (by decide) rfl nX7_moveOut_7 0 (by decide) rfl kX7_moveOut_10 rfl dX7_moveOut_1 1 rfl ?_
    refine x_iload_n C dX7_moveOut_4 rfl rfl ?_
    obtain ⟨r1, M2, e3, hf⟩ := bd_of hf
    refine x_callV (n := 1) (Cn := RX6) (T := TX6) (N := 8) (As := [.int a1]) (rest := []) (maxL := 2) (ret := (some .boolean)) C (c_X6_hasHousehold tg_1 e3) gX7_moveOut_X6_hasHousehold rfl (by decide +kernel) ⟨Nat.le_of_ble_eq_true rfl, Nat.le_of_ble_eq_true rfl⟩ tg_1 (by decide) rfl rfl rfl rfl (Nat.le_of_ble_eq_true rfl) dX7_moveOut_5 ?_
    refine x_if_ne (tgt := 13) C dX7_moveOut_8 (by decide) (fun q4 => ?_) (fun q4 => ?_)
    · have hf := ift q4 hf
      refine x_iconst (v := (-1 : Int32)) C dX7_moveOut_11 (by decide) ?_
      exact x_iret C hr hf dX7_moveOut_12
    · have hf := iff_ q4 hf
      refine x_aload_n C dX7_moveOut_13 rfl rfl ?_
      refine x_getr (Cn := RX7) (T := TX7) (N := 7) C tg_0 (by decide) rfl nX7_moveOut_7 0 (by decide) rfl kX7_moveOut_10 rfl dX7_moveOut_14 1 rfl ?_
      refine x_getr (Cn := RX6) (T := TX6) (N := 8) C tg_1 (by decide) rfl nX7_moveOut_6 1 (by decide) rfl kX7_moveOut_78 rfl dX7_moveOut_17 3 rfl ?_
      refine x_iload_n C dX7_moveOut_20 rfl rfl ?_
      obtain ⟨g5, hf⟩ := ck_of hf
      have w6 : 3 + 14 + 2 * (a1).toNatClampNeg = (17 + 2 * (a1).toNatClampNeg) := by omega
      have u7 : tg (17 + 2 * (a1).toNatClampNeg) = 2 := te_H (x := a1) tg_3 g5 w6
      refine x_aaldH (j := (a1).toNatClampNeg) C tg_3 tl_3 g5 rfl dX7_moveOut_21 (17 + 2 * (a1).toNatClampNeg) w6 ?_
      refine x_astore_n (lv' := [some (.ref (ad 0)), some (.int a1), some (.ref (ad (17 + 2 * (a1).toNatClampNeg))), none]) C dX7_moveOut_22 rfl (by decide) rfl ?_
      refine x_aload_n C dX7_moveOut_23 rfl rfl ?_
      refine x_geti (Cn := RX2) (T := TX2) (N := 9) C u7 (by decide) rfl nX7_moveOut_2 6 (by decide) rfl kX7_moveOut_148 rfl dX7_moveOut_24 ?_
      refine x_istore_n (lv' := [some (.ref (ad 0)), some (.int a1), some (.ref (ad (17 + 2 * (a1).toNatClampNeg))), some (.int (M2 (17 + 2 * (a1).toNatClampNeg) 6))]) C dX7_moveOut_27 rfl (by decide) rfl ?_
      refine x_iload_n C dX7_moveOut_28 rfl rfl ?_
      refine x_bipush (v := (-5 : Int32)) C dX7_moveOut_29 (by decide) ?_
      refine x_icmp_ne (tgt := 37) C dX7_moveOut_31 (by decide) (fun q8 => ?_) (fun q8 => ?_)
      · have hf := ift q8 hf
        refine x_bipush (v := (-5 : Int32)) C dX7_moveOut_34 (by decide) ?_
        exact x_iret C hr hf dX7_moveOut_36
      · have hf := iff_ q8 hf
        refine x_aload_n C dX7_moveOut_37 rfl rfl ?_
        refine x_getr (Cn := RX7) (T := TX7) (N := 7) C tg_0 (by decide) rfl nX7_moveOut_7 3 (by decide) rfl kX7_moveOut_26 rfl dX7_moveOut_38 81 rfl ?_
        refine x_aload_n C dX7_moveOut_41 rfl rfl ?_
        refine x_getr (Cn := RX7) (T := TX7) (N := 7) C tg_0 (by decide) rfl nX7_moveOut_7 0 (by decide) rfl kX7_moveOut_10 rfl dX7_moveOut_42 1 rfl ?_
        obtain ⟨r9, M10, e11, hf⟩ := bd_of hf
        refine x_callVv (n := 1) (Cn := RX1) (T := TX1) (N := 2) (As := [.ref (ad 1)]) (rest := []) (maxL := 2) (ret := none) C (c_X1_record tg_1 e11) gX7_moveOut_X1_record rfl (by decide +kernel) ⟨Nat.le_of_ble_eq_true rfl, Nat.le_of_ble_eq_true rfl⟩ tg_81 (by decide) rfl rfl rfl rfl (Nat.le_of_ble_eq_true rfl) dX7_moveOut_45 ?_
        refine x_aload_n C dX7_moveOut_48 rfl rfl ?_
        refine x_bipush (v := (-5 : Int32)) C dX7_moveOut_49 (by decide) ?_
        refine x_puti (ty := .int) (Cn := RX2) (T := TX2) (N := 9) C u7 (by decide) rfl nX7_moveOut_2 tyX2 tyX2_ok nmX2 6 (by decide) rfl kX7_moveOut_148 rfl rfl (by decide +kernel) rfl rfl dX7_moveOut_51 ?_
        refine x_gen hf (fun M12 hf => ?_)
        refine x_iload_n C dX7_moveOut_54 rfl rfl ?_
        exact x_iret C hr hf dX7_moveOut_55

theorem kX7_ordered_10 : Cond.fieldLink RX7 10 "FlatLottery" "state" "LFlatLottery$State;" ∈ wsX7_ordered := List.mem_of_getElem? (i := 1) rfl
theorem kX7_ordered_228 : Cond.fieldLink RX7 228 "FlatLottery$State" "order" "[I" ∈ wsX7_ordered := List.mem_of_getElem? (i := 2) rfl
theorem nX7_ordered_6 : ∀ w ∈ u_ws RX6 TX6 8, w ∈ wsX7_ordered := in_r [30, 31, 32, 33, 34, 35, 36, 37] (by decide +kernel)
theorem nX7_ordered_7 : ∀ w ∈ u_ws RX7 TX7 7, w ∈ wsX7_ordered := in_r [23, 24, 25, 26, 27, 28, 29] (by decide +kernel)
set_option maxHeartbeats 4000000 in
set_option maxRecDepth 100000 in
theorem c_X7_ordered {a1 : Int32} {M : Mem} {r : Int32} {M' : Mem}  (hf : f_X7_ordered a1 M = some (r, M')) : CnI yX7_ordered wsX7_ordered 3 (fun ad => [.ref (ad 0), .int a1]) M r M' := by
  unfold f_X7_ordered at hf
  refine x_metI (cc := cX7_ordered) (maxL := 2) RX7 rfl (by decide) rfl (fun ad => Nat.le_of_ble_eq_true rfl) (fun ad v hv => ?_) (fun p l e s m args below meth c D cs ad C hr => ?_)
  · simp only [List.mem_cons, List.not_mem_nil, or_false] at hv
    rcases hv with rfl | rfl <;> rfl
  · show V p l e (rmk 3) s m args below meth c 2 D cs ad (QI below s args D cs ad r M') 0 [some (.ref (ad 0)), some (.int a1)] [] M
    refine x_iload_n C dX7_ordered_0 rfl rfl ?_
    refine x_if_ge (tgt := 7) C dX7_ordered_1 (by decide) (fun q1 => ?_) (fun q1 => ?_)
    · have hf := ift q1 hf
      refine x_iload_n C dX7_ordered_7 rfl rfl ?_
      refine x_aload_n C dX7_ordered_8 rfl rfl ?_
      refine x_getr (Cn := RX7) (T := TX7) (N := 7) C tg_0 (by decide) rfl nX7_ordered_7 0 (by decide) rfl kX7_ordered_10 rfl dX7_ordered_9 1 rfl ?_
      obtain ⟨r2, M3, e4, hf⟩ := bd_of hf
      refine x_callV (n := 0) (Cn := RX6) (T := TX6) (N := 8) (As := []) (rest := [.int a1]) (maxL := 4) (ret := (some .int)) C (c_X6_lineUp tg_1 e4) gX7_ordered_X6_lineUp rfl (by decide +kernel) ⟨Nat.le_of_ble_eq_true rfl, Nat.le_of_ble_eq_true rfl⟩ tg_1 (by decide) rfl rfl rfl rfl (Nat.le_of_ble_eq_true rfl) dX7_ordered_12 ?_
      refine x_icmp_lt (tgt := 21) C dX7_ordered_15 (by decide) (fun q5 => ?_) (fun q5 => ?_)
      · have hf := ift q5 hf
        refine x_aload_n C dX7_ordered_21 rfl rfl ?_
        refine x_getr (Cn := RX7) (T := TX7) (N := 7) C tg_0 (by decide) rfl nX7_ordered_7 0 (by decide) rfl kX7_ordered_10 rfl dX7_ordered_22 1 rfl ?_
        refine x_getr (Cn := RX6) (T := TX6) (N := 8) C tg_1 (by decide) rfl nX7_ordered_6 7 (by decide) rfl kX7_ordered_228 rfl dX7_ordered_25 4 rfl ?_
        refine x_iload_n C dX7_ordered_28 rfl rfl ?_
        obtain ⟨g6, hf⟩ := ck_of hf
        refine x_iald (j := (a1).toNatClampNeg) C tg_4 tl_4 g6 rfl dX7_ordered_29 ?_
        exact x_iret C hr hf dX7_ordered_30
      · have hf := iff_ q5 hf
        refine x_bipush (v := (-5 : Int32)) C dX7_ordered_18 (by decide) ?_
        exact x_iret C hr hf dX7_ordered_20
    · have hf := iff_ q1 hf
      refine x_bipush (v := (-2 : Int32)) C dX7_ordered_4 (by decide) ?_
      exact x_iret C hr hf dX7_ordered_6

theorem kX7_restore_10 : Cond.fieldLink RX7 10 "FlatLottery" "state" "LFlatLottery$State;" ∈ wsX7_restore := List.mem_of_getElem? (i := 3) rfl
theorem kX7_restore_16 : Cond.fieldLink RX7 16 "FlatLottery" "snapshot" "LFlatLottery$State;" ∈ wsX7_restore := List.mem_of_getElem? (i := 4) rfl
theorem kX7_restore_19 : Cond.fieldLink RX7 19 "FlatLottery" "hasSnapshot" "Z" ∈ wsX7_restore := List.mem_of_getElem? (i := 1) rfl
theorem kX7_restore_26 : Cond.fieldLink RX7 26 "FlatLottery" "history" "LFlatLottery$History;" ∈ wsX7_restore := List.mem_of_getElem? (i := 2) rfl
theorem nX7_restore_7 : ∀ w ∈ u_ws RX7 TX7 7, w ∈ wsX7_restore := in_r [55, 56, 57, 58, 59, 60, 61] (by decide +kernel)
set_option maxHeartbeats 4000000 in
set_option maxRecDepth 100000 in
theorem c_X7_restore  {M : Mem} {r : Int32} {M' : Mem}  (hf : f_X7_restore  M = some (r, M')) : CnI yX7_restore wsX7_restore 3 (fun ad => [.ref (ad 0)]) M r M' := by
  unfold f_X7_restore at hf
  refine x_metI (cc := cX7_restore) (maxL := 1) RX7 rfl (by decide) rfl (fun ad => Nat.le_of_ble_eq_true rfl) (fun ad v hv => ?_) (fun p l e s m args below meth c D cs ad C hr => ?_)
  · simp only [List.mem_cons, List.not_mem_nil, or_false] at hv
    rcases hv with rfl <;> rfl
  · show V p l e (rmk 3) s m args below meth c 1 D cs ad (QI below s args D cs ad r M') 0 [some (.ref (ad 0))] [] M
    refine x_aload_n C dX7_restore_0 rfl rfl ?_
    refine x_geti (Cn := RX7) (T := TX7) (N := 7) C tg_0 (by decide) rfl nX7_restore_7 2 (by decide) rfl kX7_restore_19 rfl dX7_restore_1 ?_
    refine x_if_ne (tgt := 10) C dX7_restore_4 (by decide) (fun q1 => ?_) (fun q1 => ?_)
    · have hf := ift q1 hf
      refine x_bipush (v := (-5 : Int32)) C dX7_restore_7 (by decide) ?_
      exact x_iret C hr hf dX7_restore_9
    · have hf := iff_ q1 hf
      refine x_aload_n C dX7_restore_10 rfl rfl ?_
      refine x_getr (Cn := RX7) (T := TX7) (N := 7) C tg_0 (by decide) rfl nX7_restore_7 3 (by decide) rfl kX7_restore_26 rfl dX7_restore_11 81 rfl ?_
      refine x_aload_n C dX7_restore_14 rfl rfl ?_
      refine x_getr (Cn := RX7) (T := TX7) (N := 7) C tg_0 (by decide) rfl nX7_restore_7 0 (by decide) rfl kX7_restore_10 rfl dX7_restore_15 1 rfl ?_
      obtain ⟨r2, M3, e4, hf⟩ := bd_of hf
      refine x_callVv (n := 1) (Cn := RX1) (T := TX1) (N := 2) (As := [.ref (ad 1)]) (rest := []) (maxL := 2) (ret := none) C (c_X1_record tg_1 e4) gX7_restore_X1_record rfl (by decide +kernel) ⟨Nat.le_of_ble_eq_true rfl, Nat.le_of_ble_eq_true rfl⟩ tg_81 (by decide) rfl rfl rfl rfl (Nat.le_of_ble_eq_true rfl) dX7_restore_18 ?_
      refine x_aload_n C dX7_restore_21 rfl rfl ?_
      refine x_getr (Cn := RX7) (T := TX7) (N := 7) C tg_0 (by decide) rfl nX7_restore_7 0 (by decide) rfl kX7_restore_10 rfl dX7_restore_22 1 rfl ?_
      refine x_aload_n C dX7_restore_25 rfl rfl ?_
      refine x_getr (Cn := RX7) (T := TX7) (N := 7) C tg_0 (by decide) rfl nX7_restore_7 1 (by decide) rfl kX7_restore_16 rfl dX7_restore_26 41 rfl ?_
      obtain ⟨r5, M6, e7, hf⟩ := bd_of hf
      refine x_callVv (n := 1) (Cn := RX6) (T := TX6) (N := 8) (As := [.ref (ad 41)]) (rest := []) (maxL := 3) (ret := none) C (c_X6_copyFrom tg_1 tg_41 e7) gX7_restore_X6_copyFrom rfl (by decide +kernel) ⟨Nat.le_of_ble_eq_true rfl, Nat.le_of_ble_eq_true rfl⟩ tg_1 (by decide) rfl rfl rfl rfl (Nat.le_of_ble_eq_true rfl) dX7_restore_29 ?_
      refine x_aload_n C dX7_restore_32 rfl rfl ?_
      refine x_getr (Cn := RX7) (T := TX7) (N := 7) C tg_0 (by decide) rfl nX7_restore_7 0 (by decide) rfl kX7_restore_10 rfl dX7_restore_33 1 rfl ?_
      obtain ⟨r8, M9, e10, hf⟩ := bd_of hf
      refine x_callV (n := 0) (Cn := RX6) (T := TX6) (N := 8) (As := []) (rest := []) (maxL := 3) (ret := (some .int)) C (c_X6_countHeld tg_1 e10) gX7_restore_X6_countHeld rfl (by decide +kernel) ⟨Nat.le_of_ble_eq_true rfl, Nat.le_of_ble_eq_true rfl⟩ tg_1 (by decide) rfl rfl rfl rfl (Nat.le_of_ble_eq_true rfl) dX7_restore_36 ?_
      exact x_iret C hr hf dX7_restore_39

theorem kX7_undo_10 : Cond.fieldLink RX7 10 "FlatLottery" "state" "LFlatLottery$State;" ∈ wsX7_undo := List.mem_of_getElem? (i := 3) rfl
theorem kX7_undo_26 : Cond.fieldLink RX7 26 "FlatLottery" "history" "LFlatLottery$History;" ∈ wsX7_undo := List.mem_of_getElem? (i := 1) rfl
theorem kX7_undo_190 : Cond.fieldLink RX7 190 "FlatLottery$History" "size" "I" ∈ wsX7_undo := List.mem_of_getElem? (i := 2) rfl
theorem nX7_undo_1 : ∀ w ∈ u_ws RX1 TX1 2, w ∈ wsX7_undo := in_r [51, 52] (by decide +kernel)
theorem nX7_undo_7 : ∀ w ∈ u_ws RX7 TX7 7, w ∈ wsX7_undo := in_r [44, 45, 46, 47, 48, 49, 50] (by decide +kernel)
set_option maxHeartbeats 4000000 in
set_option maxRecDepth 100000 in
theorem c_X7_undo  {M : Mem} {r : Int32} {M' : Mem}  (hf : f_X7_undo  M = some (r, M')) : CnI yX7_undo wsX7_undo 3 (fun ad => [.ref (ad 0)]) M r M' := by
  unfold f_X7_undo at hf
  refine x_metI (cc := cX7_undo) (maxL := 1) RX7 rfl (by decide) rfl (fun ad => Nat.le_of_ble_eq_true rfl) (fun ad v hv => ?_) (fun p l e s m args below meth c D cs ad C hr => ?_)
  · simp only [List.mem_cons, List.not_mem_nil, or_false] at hv
    rcases hv with rfl <;> rfl
  · show V p l e (rmk 3) s m args below meth c 1 D cs ad (QI below s args D cs ad r M') 0 [some (.ref (ad 0))] [] M
    refine x_aload_n C dX7_undo_0 rfl rfl ?_
    refine x_getr (Cn := RX7) (T := TX7) (N := 7) C tg_0 (by decide) rfl nX7_undo_7 3 (by decide) rfl kX7_undo_26 rfl dX7_undo_1 81 rfl ?_
    refine x_geti (Cn := RX1) (T := TX1) (N := 2) C tg_81 (by decide) rfl nX7_undo_1 1 (by decide) rfl kX7_undo_190 rfl dX7_undo_4 ?_
    refine x_if_ne (tgt := 13) C dX7_undo_7 (by decide) (fun q1 => ?_) (fun q1 => ?_)
    · have hf := ift q1 hf
      refine x_bipush (v := (-5 : Int32)) C dX7_undo_10 (by decide) ?_
      exact x_iret C hr hf dX7_undo_12
    · have hf := iff_ q1 hf
      refine x_aload_n C dX7_undo_13 rfl rfl ?_
      refine x_getr (Cn := RX7) (T := TX7) (N := 7) C tg_0 (by decide) rfl nX7_undo_7 3 (by decide) rfl kX7_undo_26 rfl dX7_undo_14 81 rfl ?_
      refine x_aload_n C dX7_undo_17 rfl rfl ?_
      refine x_getr (Cn := RX7) (T := TX7) (N := 7) C tg_0 (by decide) rfl nX7_undo_7 0 (by decide) rfl kX7_undo_10 rfl dX7_undo_18 1 rfl ?_
      obtain ⟨r2, M3, e4, hf⟩ := bd_of hf
      refine x_callVv (n := 1) (Cn := RX1) (T := TX1) (N := 2) (As := [.ref (ad 1)]) (rest := []) (maxL := 2) (ret := none) C (c_X1_takeBack tg_1 e4) gX7_undo_X1_takeBack rfl (by decide +kernel) ⟨Nat.le_of_ble_eq_true rfl, Nat.le_of_ble_eq_true rfl⟩ tg_81 (by decide) rfl rfl rfl rfl (Nat.le_of_ble_eq_true rfl) dX7_undo_21 ?_
      refine x_aload_n C dX7_undo_24 rfl rfl ?_
      refine x_getr (Cn := RX7) (T := TX7) (N := 7) C tg_0 (by decide) rfl nX7_undo_7 3 (by decide) rfl kX7_undo_26 rfl dX7_undo_25 81 rfl ?_
      refine x_geti (Cn := RX1) (T := TX1) (N := 2) C tg_81 (by decide) rfl nX7_undo_1 1 (by decide) rfl kX7_undo_190 rfl dX7_undo_28 ?_
      exact x_iret C hr hf dX7_undo_31

theorem kX7_unwish_10 : Cond.fieldLink RX7 10 "FlatLottery" "state" "LFlatLottery$State;" ∈ wsX7_unwish := List.mem_of_getElem? (i := 1) rfl
theorem kX7_unwish_26 : Cond.fieldLink RX7 26 "FlatLottery" "history" "LFlatLottery$History;" ∈ wsX7_unwish := List.mem_of_getElem? (i := 3) rfl
theorem kX7_unwish_78 : Cond.fieldLink RX7 78 "FlatLottery$State" "households" "[LFlatLottery$Household;" ∈ wsX7_unwish := List.mem_of_getElem? (i := 2) rfl
theorem nX7_unwish_6 : ∀ w ∈ u_ws RX6 TX6 8, w ∈ wsX7_unwish := in_r [72, 73, 74, 75, 76, 77, 78, 79] (by decide +kernel)
theorem nX7_unwish_7 : ∀ w ∈ u_ws RX7 TX7 7, w ∈ wsX7_unwish := in_r [65, 66, 67, 68, 69, 70, 71] (by decide +kernel)
set_option maxHeartbeats 4000000 in
set_option maxRecDepth 100000 in
theorem c_X7_unwish {a1 : Int32} {a2 : Int32} {M : Mem} {r : Int32} {M' : Mem}  (hf : f_X7_unwish a1 a2 M = some (r, M')) : CnI yX7_unwish wsX7_unwish 3 (fun ad => [.ref (ad 0), .int a1, .int a2]) M r M' := by
  unfold f_X7_unwish at hf
  refine x_metI (cc := cX7_unwish) (maxL := 5) RX7 rfl (by decide) rfl (fun ad => Nat.le_of_ble_eq_true rfl) (fun ad v hv => ?_) (fun p l e s m args below meth c D cs ad C hr => ?_)
  · simp only [List.mem_cons, List.not_mem_nil, or_false] at hv
    rcases hv with rfl | rfl | rfl <;> rfl
  · show V p l e (rmk 3) s m args below meth c 5 D cs ad (QI below s args D cs ad r M') 0 [some (.ref (ad 0)), some (.int a1), some (.int a2), none, none] [] M
    refine x_aload_n C dX7_unwish_0 rfl rfl ?_
    refine x_getr (Cn := RX7) (T := TX7) (N := 7) C tg_0 (by decide) rfl nX7_unwish_7 0 (by decide) rfl kX7_unwish_10 rfl dX7_unwish_1 1 rfl ?_
    refine x_iload_n C dX7_unwish_4 rfl rfl ?_
    obtain ⟨r1, M2, e3, hf⟩ := bd_of hf
    refine x_callV (n := 1) (Cn := RX6) (T := TX6) (N := 8) (As := [.int a1]) (rest := []) (maxL := 2) (ret := (some .boolean)) C (c_X6_hasHousehold tg_1 e3) gX7_unwish_X6_hasHousehold rfl (by decide +kernel) ⟨Nat.le_of_ble_eq_true rfl, Nat.le_of_ble_eq_true rfl⟩ tg_1 (by decide) rfl rfl rfl rfl (Nat.le_of_ble_eq_true rfl) dX7_unwish_5 ?_
    refine x_if_eq (tgt := 22) C dX7_unwish_8 (by decide) (fun q4 => ?_) (fun q4 => ?_)
    · have hf := ift q4 hf
      refine x_iconst (v := (-1 : Int32)) C dX7_unwish_22 (by decide) ?_
      exact x_iret C hr hf dX7_unwish_23
    · have hf := iff_ q4 hf
      refine x_aload_n C dX7_unwish_11 rfl rfl ?_
      refine x_getr (Cn := RX7) (T := TX7) (N := 7) C tg_0 (by decide) rfl nX7_unwish_7 0 (by decide) rfl kX7_unwish_10 rfl dX7_unwish_12 1 rfl ?_
      refine x_iload_n C dX7_unwish_15 rfl rfl ?_
      obtain ⟨r5, M6, e7, hf⟩ := bd_of hf
      refine x_callV (n := 1) (Cn := RX6) (T := TX6) (N := 8) (As := [.int a2]) (rest := []) (maxL := 2) (ret := (some .boolean)) C (c_X6_hasFlat tg_1 e7) gX7_unwish_X6_hasFlat rfl (by decide +kernel) ⟨Nat.le_of_ble_eq_true rfl, Nat.le_of_ble_eq_true rfl⟩ tg_1 (by decide) rfl rfl rfl rfl (Nat.le_of_ble_eq_true rfl) dX7_unwish_16 ?_
      refine x_if_ne (tgt := 24) C dX7_unwish_19 (by decide) (fun q8 => ?_) (fun q8 => ?_)
      · have hf := ift q8 hf
        refine x_iconst (v := (-1 : Int32)) C dX7_unwish_22 (by decide) ?_
        exact x_iret C hr hf dX7_unwish_23
      · have hf := iff_ q8 hf
        refine x_aload_n C dX7_unwish_24 rfl rfl ?_
        refine x_getr (Cn := RX7) (T := TX7) (N := 7) C tg_0 (by decide) rfl nX7_unwish_7 0 (by decide) rfl kX7_unwish_10 rfl dX7_unwish_25 1 rfl ?_
        refine x_getr (Cn := RX6) (T := TX6) (N := 8) C tg_1 (by decide) rfl nX7_unwish_6 1 (by decide) rfl kX7_unwish_78 rfl dX7_unwish_28 3 rfl ?_
        refine x_iload_n C dX7_unwish_31 rfl rfl ?_
        obtain ⟨g9, hf⟩ := ck_of hf
        have w10 : 3 + 14 + 2 * (a1).toNatClampNeg = (17 + 2 * (a1).toNatClampNeg) := by omega
        have u11 : tg (17 + 2 * (a1).toNatClampNeg) = 2 := te_H (x := a1) tg_3 g9 w10
        refine x_aaldH (j := (a1).toNatClampNeg) C tg_3 tl_3 g9 rfl dX7_unwish_32 (17 + 2 * (a1).toNatClampNeg) w10 ?_
        refine x_astore_n (lv' := [some (.ref (ad 0)), some (.int a1), some (.int a2), some (.ref (ad (17 + 2 * (a1).toNatClampNeg))), none]) C dX7_unwish_33 rfl (by decide) rfl ?_
        refine x_aload_n C dX7_unwish_34 rfl rfl ?_
        refine x_iload_n C dX7_unwish_35 rfl rfl ?_
        obtain ⟨r12, M13, e14, hf⟩ := bd_of hf
        refine x_callV (n := 1) (Cn := RX2) (T := TX2) (N := 9) (As := [.int a2]) (rest := []) (maxL := 3) (ret := (some .int)) C (c_X2_placeOf u11 e14) gX7_unwish_X2_placeOf rfl (by decide +kernel) ⟨Nat.le_of_ble_eq_true rfl, Nat.le_of_ble_eq_true rfl⟩ u11 (by decide) rfl rfl rfl rfl (Nat.le_of_ble_eq_true rfl) dX7_unwish_36 ?_
        refine x_istore (lv' := [some (.ref (ad 0)), some (.int a1), some (.int a2), some (.ref (ad (17 + 2 * (a1).toNatClampNeg))), some (.int r12)]) C dX7_unwish_39 (by decide) rfl ?_
        refine x_iload C dX7_unwish_41 rfl ?_
        refine x_bipush (v := (-5 : Int32)) C dX7_unwish_43 (by decide) ?_
        refine x_icmp_ne (tgt := 51) C dX7_unwish_45 (by decide) (fun q15 => ?_) (fun q15 => ?_)
        · have hf := ift q15 hf
          refine x_bipush (v := (-5 : Int32)) C dX7_unwish_48 (by decide) ?_
          exact x_iret C hr hf dX7_unwish_50
        · have hf := iff_ q15 hf
          refine x_aload_n C dX7_unwish_51 rfl rfl ?_
          refine x_getr (Cn := RX7) (T := TX7) (N := 7) C tg_0 (by decide) rfl nX7_unwish_7 3 (by decide) rfl kX7_unwish_26 rfl dX7_unwish_52 81 rfl ?_
          refine x_aload_n C dX7_unwish_55 rfl rfl ?_
          refine x_getr (Cn := RX7) (T := TX7) (N := 7) C tg_0 (by decide) rfl nX7_unwish_7 0 (by decide) rfl kX7_unwish_10 rfl dX7_unwish_56 1 rfl ?_
          obtain ⟨r16, M17, e18, hf⟩ := bd_of hf
          refine x_callVv (n := 1) (Cn := RX1) (T := TX1) (N := 2) (As := [.ref (ad 1)]) (rest := []) (maxL := 2) (ret := none) C (c_X1_record tg_1 e18) gX7_unwish_X1_record rfl (by decide +kernel) ⟨Nat.le_of_ble_eq_true rfl, Nat.le_of_ble_eq_true rfl⟩ tg_81 (by decide) rfl rfl rfl rfl (Nat.le_of_ble_eq_true rfl) dX7_unwish_59 ?_
          refine x_aload_n C dX7_unwish_62 rfl rfl ?_
          refine x_iload_n C dX7_unwish_63 rfl rfl ?_
          obtain ⟨r19, M20, e21, hf⟩ := bd_of hf
          refine x_callVv (n := 1) (Cn := RX2) (T := TX2) (N := 9) (As := [.int a2]) (rest := []) (maxL := 4) (ret := none) C (c_X2_removeWish u11 e21) gX7_unwish_X2_removeWish rfl (by decide +kernel) ⟨Nat.le_of_ble_eq_true rfl, Nat.le_of_ble_eq_true rfl⟩ u11 (by decide) rfl rfl rfl rfl (Nat.le_of_ble_eq_true rfl) dX7_unwish_64 ?_
          refine x_iload C dX7_unwish_67 rfl ?_
          exact x_iret C hr hf dX7_unwish_69

theorem kX7_wish_10 : Cond.fieldLink RX7 10 "FlatLottery" "state" "LFlatLottery$State;" ∈ wsX7_wish := List.mem_of_getElem? (i := 1) rfl
theorem kX7_wish_26 : Cond.fieldLink RX7 26 "FlatLottery" "history" "LFlatLottery$History;" ∈ wsX7_wish := List.mem_of_getElem? (i := 4) rfl
theorem kX7_wish_78 : Cond.fieldLink RX7 78 "FlatLottery$State" "households" "[LFlatLottery$Household;" ∈ wsX7_wish := List.mem_of_getElem? (i := 2) rfl
theorem kX7_wish_101 : Cond.fieldLink RX7 101 "FlatLottery$Household" "wishCount" "I" ∈ wsX7_wish := List.mem_of_getElem? (i := 3) rfl
theorem nX7_wish_2 : ∀ w ∈ u_ws RX2 TX2 9, w ∈ wsX7_wish := in_r [80, 81, 82, 83, 84, 85, 86, 87, 88] (by decide +kernel)
theorem nX7_wish_6 : ∀ w ∈ u_ws RX6 TX6 8, w ∈ wsX7_wish := in_r [72, 73, 74, 75, 76, 77, 78, 79] (by decide +kernel)
theorem nX7_wish_7 : ∀ w ∈ u_ws RX7 TX7 7, w ∈ wsX7_wish := in_r [65, 66, 67, 68, 69, 70, 71] (by decide +kernel)
set_option maxHeartbeats 4000000 in
set_option maxRecDepth 100000 in
theorem c_X7_wish {a1 : Int32} {a2 : Int32} {M : Mem} {r : Int32} {M' : Mem}  (hf : f_X7_wish a1 a2 M = some (r, M')) : CnI yX7_wish wsX7_wish 3 (fun ad => [.ref (ad 0), .int a1, .int a2]) M r M' := by
  unfold f_X7_wish at hf
  refine x_metI (cc := cX7_wish) (maxL := 4) RX7 rfl (by decide) rfl (fun ad => Nat.le_of_ble_eq_true rfl) (fun ad v hv => ?_) (fun p l e s m args below meth c D cs ad C hr => ?_)
  · simp only [List.mem_cons, List.not_mem_nil, or_false] at hv
    rcases hv with rfl | rfl | rfl <;> rfl
  · show V p l e (rmk 3) s m args below meth c 4 D cs ad (QI below s args D cs ad r M') 0 [some (.ref (ad 0)), some (.int a1), some (.int a2), none] [] M
    refine x_aload_n C dX7_wish_0 rfl rfl ?_
    refine x_getr (Cn := RX7) (T := TX7) (N := 7) C tg_0 (by decide) rfl nX7_wish_7 0 (by decide) rfl kX7_wish_10 rfl dX7_wish_1 1 rfl ?_
    refine x_iload_n C dX7_wish_4 rfl rfl ?_
    obtain ⟨r1, M2, e3, hf⟩ := bd_of hf
    refine x_callV (n := 1) (Cn := RX6) (T := TX6) (N := 8) (As := [.int a1]) (rest := []) (maxL := 2) (ret := (some .boolean)) C (c_X6_hasHousehold tg_1 e3) gX7_wish_X6_hasHousehold rfl (by decide +kernel) ⟨Nat.le_of_ble_eq_true rfl, Nat.le_of_ble_eq_true rfl⟩ tg_1 (by decide) rfl rfl rfl rfl (Nat.le_of_ble_eq_true rfl) dX7_wish_5 ?_
    refine x_if_eq (tgt := 22) C dX7_wish_8 (by decide) (fun q4 => ?_) (fun q4 => ?_)
    · have hf := ift q4 hf
      refine x_iconst (v := (-1 : Int32)) C dX7_wish_22 (by decide) ?_
      exact x_iret C hr hf dX7_wish_23
    · have hf := iff_ q4 hf
      refine x_aload_n C dX7_wish_11 rfl rfl ?_
      refine x_getr (Cn := RX7) (T := TX7) (N := 7) C tg_0 (by decide) rfl nX7_wish_7 0 (by decide) rfl kX7_wish_10 rfl dX7_wish_12 1 rfl ?_
      refine x_iload_n C dX7_wish_15 rfl rfl ?_
      obtain ⟨r5, M6, e7, hf⟩ := bd_of hf
      refine x_callV (n := 1) (Cn := RX6) (T := TX6) (N := 8) (As := [.int a2]) (rest := []) (maxL := 2) (ret := (some .boolean)) C (c_X6_hasFlat tg_1 e7) gX7_wish_X6_hasFlat rfl (by decide +kernel) ⟨Nat.le_of_ble_eq_true rfl, Nat.le_of_ble_eq_true rfl⟩ tg_1 (by decide) rfl rfl rfl rfl (Nat.le_of_ble_eq_true rfl) dX7_wish_16 ?_
      refine x_if_ne (tgt := 24) C dX7_wish_19 (by decide) (fun q8 => ?_) (fun q8 => ?_)
      · have hf := ift q8 hf
        refine x_iconst (v := (-1 : Int32)) C dX7_wish_22 (by decide) ?_
        exact x_iret C hr hf dX7_wish_23
      · have hf := iff_ q8 hf
        refine x_aload_n C dX7_wish_24 rfl rfl ?_
        refine x_getr (Cn := RX7) (T := TX7) (N := 7) C tg_0 (by decide) rfl nX7_wish_7 0 (by decide) rfl kX7_wish_10 rfl dX7_wish_25 1 rfl ?_
        refine x_getr (Cn := RX6) (T := TX6) (N := 8) C tg_1 (by decide) rfl nX7_wish_6 1 (by decide) rfl kX7_wish_78 rfl dX7_wish_28 3 rfl ?_
        refine x_iload_n C dX7_wish_31 rfl rfl ?_
        obtain ⟨g9, hf⟩ := ck_of hf
        have w10 : 3 + 14 + 2 * (a1).toNatClampNeg = (17 + 2 * (a1).toNatClampNeg) := by omega
        have u11 : tg (17 + 2 * (a1).toNatClampNeg) = 2 := te_H (x := a1) tg_3 g9 w10
        refine x_aaldH (j := (a1).toNatClampNeg) C tg_3 tl_3 g9 rfl dX7_wish_32 (17 + 2 * (a1).toNatClampNeg) w10 ?_
        refine x_astore_n (lv' := [some (.ref (ad 0)), some (.int a1), some (.int a2), some (.ref (ad (17 + 2 * (a1).toNatClampNeg)))]) C dX7_wish_33 rfl (by decide) rfl ?_
        refine x_aload_n C dX7_wish_34 rfl rfl ?_
        refine x_geti (Cn := RX2) (T := TX2) (N := 9) C u11 (by decide) rfl nX7_wish_2 1 (by decide) rfl kX7_wish_101 rfl dX7_wish_35 ?_
        refine x_bipush (v := (6 : Int32)) C dX7_wish_38 (by decide) ?_
        refine x_icmp_lt (tgt := 46) C dX7_wish_40 (by decide) (fun q12 => ?_) (fun q12 => ?_)
        · have hf := ift q12 hf
          refine x_aload_n C dX7_wish_46 rfl rfl ?_
          refine x_iload_n C dX7_wish_47 rfl rfl ?_
          obtain ⟨r13, M14, e15, hf⟩ := bd_of hf
          refine x_callV (n := 1) (Cn := RX2) (T := TX2) (N := 9) (As := [.int a2]) (rest := []) (maxL := 3) (ret := (some .int)) C (c_X2_placeOf u11 e15) gX7_wish_X2_placeOf rfl (by decide +kernel) ⟨Nat.le_of_ble_eq_true rfl, Nat.le_of_ble_eq_true rfl⟩ u11 (by decide) rfl rfl rfl rfl (Nat.le_of_ble_eq_true rfl) dX7_wish_48 ?_
          refine x_bipush (v := (-5 : Int32)) C dX7_wish_51 (by decide) ?_
          refine x_icmp_eq (tgt := 59) C dX7_wish_53 (by decide) (fun q16 => ?_) (fun q16 => ?_)
          · have hf := ift q16 hf
            refine x_aload_n C dX7_wish_59 rfl rfl ?_
            refine x_getr (Cn := RX7) (T := TX7) (N := 7) C tg_0 (by decide) rfl nX7_wish_7 3 (by decide) rfl kX7_wish_26 rfl dX7_wish_60 81 rfl ?_
            refine x_aload_n C dX7_wish_63 rfl rfl ?_
            refine x_getr (Cn := RX7) (T := TX7) (N := 7) C tg_0 (by decide) rfl nX7_wish_7 0 (by decide) rfl kX7_wish_10 rfl dX7_wish_64 1 rfl ?_
            obtain ⟨r17, M18, e19, hf⟩ := bd_of hf
            refine x_callVv (n := 1) (Cn := RX1) (T := TX1) (N := 2) (As := [.ref (ad 1)]) (rest := []) (maxL := 2) (ret := none) C (c_X1_record tg_1 e19) gX7_wish_X1_record rfl (by decide +kernel) ⟨Nat.le_of_ble_eq_true rfl, Nat.le_of_ble_eq_true rfl⟩ tg_81 (by decide) rfl rfl rfl rfl (Nat.le_of_ble_eq_true rfl) dX7_wish_67 ?_
            refine x_aload_n C dX7_wish_70 rfl rfl ?_
            refine x_iload_n C dX7_wish_71 rfl rfl ?_
            obtain ⟨r20, M21, e22, hf⟩ := bd_of hf
            refine x_callVv (n := 1) (Cn := RX2) (T := TX2) (N := 9) (As := [.int a2]) (rest := []) (maxL := 2) (ret := none) C (c_X2_addWish u11 e22) gX7_wish_X2_addWish rfl (by decide +kernel) ⟨Nat.le_of_ble_eq_true rfl, Nat.le_of_ble_eq_true rfl⟩ u11 (by decide) rfl rfl rfl rfl (Nat.le_of_ble_eq_true rfl) dX7_wish_72 ?_
            refine x_aload_n C dX7_wish_75 rfl rfl ?_
            refine x_geti (Cn := RX2) (T := TX2) (N := 9) C u11 (by decide) rfl nX7_wish_2 1 (by decide) rfl kX7_wish_101 rfl dX7_wish_76 ?_
            exact x_iret C hr hf dX7_wish_79
          · have hf := iff_ q16 hf
            refine x_bipush (v := (-4 : Int32)) C dX7_wish_56 (by decide) ?_
            exact x_iret C hr hf dX7_wish_58
        · have hf := iff_ q12 hf
          refine x_bipush (v := (-3 : Int32)) C dX7_wish_43 (by decide) ?_
          exact x_iret C hr hf dX7_wish_45

theorem kX3_findFault_29 : Cond.fieldLink RX3 29 "FlatLottery$ListText" "at" "I" ∈ wsX3_findFault := List.mem_of_getElem? (i := 1) rfl
theorem kX3_findFault_32 : Cond.fieldLink RX3 32 "FlatLottery$ListText" "listCount" "I" ∈ wsX3_findFault := List.mem_of_getElem? (i := 2) rfl
theorem nX3_findFault_3 : ∀ w ∈ u_ws RX3 TX3 7, w ∈ wsX3_findFault := in_r [25, 26, 27, 28, 29, 30, 31] (by decide +kernel)
set_option maxHeartbeats 4000000 in
set_option maxRecDepth 100000 in
theorem cl_X3_findFault_10 {p : Program} {l : Launch} {e : Env} {s : State} {m : MethodId} {args : Array Value} {below : List Frame} {meth : Method} {c : Code} {D : va_G} {cs : Nat → ClassId} {ad : Nat → Nat} (C : Cx p s m args meth c RX3 cX3_findFault 1 wsX3_findFault D cs ad) (hr : meth.sig.returnType = some .int)  {r : Int32} {M' : Mem}  : ∀ (n : Nat) (M : Mem), l_X3_findFault_10 n M = some (r, M') → V p l e (rmk 4) s m args below meth c 1 D cs ad (QI below s args D cs ad r M') 10 [some (.ref (ad 243))] [] M := by
  intro n
  induction n with
  | zero => intro M hf; cases hf
  | succ n ih =>
    intro M hf
    rw [l_X3_findFault_10_s] at hf
    refine x_aload_n C dX3_findFault_10 rfl rfl ?_
    refine x_geti (Cn := RX3) (T := TX3) (N := 7) C tg_243 (by decide) rfl nX3_findFault_3 2 (by decide) rfl kX3_findFault_32 rfl dX3_findFault_11 ?_
    refine x_bipush (v := (16 : Int32)) C dX3_findFault_14 (by decide) ?_
    refine x_icmp_ge (tgt := 79) C dX3_findFault_16 (by decide) (fun q3 => ?_) (fun q3 => ?_)
    · have hf := ift q3 hf
      refine x_aload_n C dX3_findFault_79 rfl rfl ?_
      refine x_geti (Cn := RX3) (T := TX3) (N := 7) C tg_243 (by decide) rfl nX3_findFault_3 6 (by decide) rfl kX3_findFault_29 rfl dX3_findFault_80 ?_
      exact x_iret C hr hf dX3_findFault_83
    · have hf := iff_ q3 hf
      refine x_aload_n C dX3_findFault_19 rfl rfl ?_
      obtain ⟨r4, M5, e6, hf⟩ := bd_of hf
      refine x_callV (n := 0) (Cn := RX3) (T := TX3) (N := 7) (As := []) (rest := []) (maxL := 4) (ret := (some .boolean)) C (c_X3_readList  e6) gX3_findFault_X3_readList rfl (by decide +kernel) ⟨Nat.le_of_ble_eq_true rfl, Nat.le_of_ble_eq_true rfl⟩ tg_243 (by decide) rfl rfl rfl rfl (Nat.le_of_ble_eq_true rfl) dX3_findFault_20 ?_
      refine x_if_ne (tgt := 31) C dX3_findFault_23 (by decide) (fun q7 => ?_) (fun q7 => ?_)
      · have hf := ift q7 hf
        refine x_aload_n C dX3_findFault_26 rfl rfl ?_
        refine x_geti (Cn := RX3) (T := TX3) (N := 7) C tg_243 (by decide) rfl nX3_findFault_3 6 (by decide) rfl kX3_findFault_29 rfl dX3_findFault_27 ?_
        exact x_iret C hr hf dX3_findFault_30
      · have hf := iff_ q7 hf
        refine x_aload_n C dX3_findFault_31 rfl rfl ?_
        refine x_dup C dX3_findFault_32 rfl ?_
        refine x_geti (Cn := RX3) (T := TX3) (N := 7) C tg_243 (by decide) rfl nX3_findFault_3 2 (by decide) rfl kX3_findFault_32 rfl dX3_findFault_33 ?_
        refine x_iconst (v := (1 : Int32)) C dX3_findFault_36 (by decide) ?_
        refine x_iadd C dX3_findFault_37 ?_
        refine x_puti (ty := .int) (Cn := RX3) (T := TX3) (N := 7) C tg_243 (by decide) rfl nX3_findFault_3 tyX3 tyX3_ok nmX3 2 (by decide) rfl kX3_findFault_32 rfl rfl (by decide +kernel) rfl rfl dX3_findFault_38 ?_
        refine x_gen hf (fun M8 hf => ?_)
        refine x_aload_n C dX3_findFault_41 rfl rfl ?_
        obtain ⟨r9, M10, e11, hf⟩ := bd_of hf
        refine x_callV (n := 0) (Cn := RX3) (T := TX3) (N := 7) (As := []) (rest := []) (maxL := 1) (ret := (some .int)) C (c_X3_atHand  e11) gX3_findFault_X3_atHand rfl (by decide +kernel) ⟨Nat.le_of_ble_eq_true rfl, Nat.le_of_ble_eq_true rfl⟩ tg_243 (by decide) rfl rfl rfl rfl (Nat.le_of_ble_eq_true rfl) dX3_findFault_42 ?_
        refine x_iconst (v := (-1 : Int32)) C dX3_findFault_45 (by decide) ?_
        refine x_icmp_ne (tgt := 52) C dX3_findFault_46 (by decide) (fun q12 => ?_) (fun q12 => ?_)
        · have hf := ift q12 hf
          refine x_bipush (v := (-5 : Int32)) C dX3_findFault_49 (by decide) ?_
          exact x_iret C hr hf dX3_findFault_51
        · have hf := iff_ q12 hf
          refine x_aload_n C dX3_findFault_52 rfl rfl ?_
          obtain ⟨r13, M14, e15, hf⟩ := bd_of hf
          refine x_callV (n := 0) (Cn := RX3) (T := TX3) (N := 7) (As := []) (rest := []) (maxL := 1) (ret := (some .int)) C (c_X3_atHand  e15) gX3_findFault_X3_atHand rfl (by decide +kernel) ⟨Nat.le_of_ble_eq_true rfl, Nat.le_of_ble_eq_true rfl⟩ tg_243 (by decide) rfl rfl rfl rfl (Nat.le_of_ble_eq_true rfl) dX3_findFault_53 ?_
          refine x_bipush (v := (59 : Int32)) C dX3_findFault_56 (by decide) ?_
          refine x_icmp_eq (tgt := 66) C dX3_findFault_58 (by decide) (fun q16 => ?_) (fun q16 => ?_)
          · have hf := ift q16 hf
            refine x_aload_n C dX3_findFault_66 rfl rfl ?_
            refine x_dup C dX3_findFault_67 rfl ?_
            refine x_geti (Cn := RX3) (T := TX3) (N := 7) C tg_243 (by decide) rfl nX3_findFault_3 6 (by decide) rfl kX3_findFault_29 rfl dX3_findFault_68 ?_
            refine x_iconst (v := (1 : Int32)) C dX3_findFault_71 (by decide) ?_
            refine x_iadd C dX3_findFault_72 ?_
            refine x_puti (ty := .int) (Cn := RX3) (T := TX3) (N := 7) C tg_243 (by decide) rfl nX3_findFault_3 tyX3 tyX3_ok nmX3 6 (by decide) rfl kX3_findFault_29 rfl rfl (by decide +kernel) rfl rfl dX3_findFault_73 ?_
            refine x_gen hf (fun M17 hf => ?_)
            refine x_goto (tgt := 10) C dX3_findFault_76 (by decide) ?_
            exact x_weak (ih _ hf) [0] rfl
          · have hf := iff_ q16 hf
            refine x_aload_n C dX3_findFault_61 rfl rfl ?_
            refine x_geti (Cn := RX3) (T := TX3) (N := 7) C tg_243 (by decide) rfl nX3_findFault_3 6 (by decide) rfl kX3_findFault_29 rfl dX3_findFault_62 ?_
            exact x_iret C hr hf dX3_findFault_65

set_option maxHeartbeats 4000000 in
set_option maxRecDepth 100000 in
theorem c_X3_findFault  {M : Mem} {r : Int32} {M' : Mem}  (hf : f_X3_findFault  M = some (r, M')) : CnI yX3_findFault wsX3_findFault 4 (fun ad => [.ref (ad 243)]) M r M' := by
  unfold f_X3_findFault at hf
  refine x_metI (cc := cX3_findFault) (maxL := 1) RX3 rfl (by decide) rfl (fun ad => Nat.le_of_ble_eq_true rfl) (fun ad v hv => ?_) (fun p l e s m args below meth c D cs ad C hr => ?_)
  · simp only [List.mem_cons, List.not_mem_nil, or_false] at hv
    rcases hv with rfl <;> rfl
  · show V p l e (rmk 4) s m args below meth c 1 D cs ad (QI below s args D cs ad r M') 0 [some (.ref (ad 243))] [] M
    refine x_aload_n C dX3_findFault_0 rfl rfl ?_
    refine x_iconst (v := (0 : Int32)) C dX3_findFault_1 (by decide) ?_
    refine x_puti (ty := .int) (Cn := RX3) (T := TX3) (N := 7) C tg_243 (by decide) rfl nX3_findFault_3 tyX3 tyX3_ok nmX3 6 (by decide) rfl kX3_findFault_29 rfl rfl (by decide +kernel) rfl rfl dX3_findFault_2 ?_
    refine x_gen hf (fun M1 hf => ?_)
    refine x_aload_n C dX3_findFault_5 rfl rfl ?_
    refine x_iconst (v := (0 : Int32)) C dX3_findFault_6 (by decide) ?_
    refine x_puti (ty := .int) (Cn := RX3) (T := TX3) (N := 7) C tg_243 (by decide) rfl nX3_findFault_3 tyX3 tyX3_ok nmX3 2 (by decide) rfl kX3_findFault_32 rfl rfl (by decide +kernel) rfl rfl dX3_findFault_7 ?_
    refine x_gen hf (fun M2 hf => ?_)
    exact x_weak (cl_X3_findFault_10 C hr  _ _ hf) [0] rfl

set_option maxHeartbeats 4000000 in
set_option maxRecDepth 100000 in
theorem cl_X5_swapAll_4 {p : Program} {l : Launch} {e : Env} {s : State} {m : MethodId} {args : Array Value} {below : List Frame} {meth : Method} {c : Code} {D : va_G} {cs : Nat → ClassId} {ad : Nat → Nat} (C : Cx p s m args meth c RX5 cX5_swapAll 5 wsX5_swapAll D cs ad) (hr : meth.sig.returnType = some .int) {a1 : Nat} {r : Int32} {M' : Mem} (t1 : tg a1 = 6) : ∀ (n : Nat) (a2 : Int32) (a3 : Int32) (M : Mem), l_X5_swapAll_4 a1 n a2 a3 M = some (r, M') → V p l e (rmk 4) s m args below meth c 5 D cs ad (QI below s args D cs ad r M') 4 [some (.ref (ad 248)), some (.ref (ad a1)), some (.int a2), some (.int a3), none] [] M := by
  intro n
  induction n with
  | zero => intro a2 a3 M hf; cases hf
  | succ n ih =>
    intro a2 a3 M hf
    rw [l_X5_swapAll_4_s] at hf
    refine x_iload_n C dX5_swapAll_4 rfl rfl ?_
    refine x_sipush (v := (1000 : Int32)) C dX5_swapAll_5 (by decide) ?_
    refine x_icmp_ge (tgt := 47) C dX5_swapAll_8 (by decide) (fun q1 => ?_) (fun q1 => ?_)
    · have hf := ift q1 hf
      refine x_iload_n C dX5_swapAll_47 rfl rfl ?_
      exact x_iret C hr hf dX5_swapAll_48
    · have hf := iff_ q1 hf
      refine x_aload_n C dX5_swapAll_11 rfl rfl ?_
      refine x_aload_n C dX5_swapAll_12 rfl rfl ?_
      obtain ⟨r2, M3, e4, hf⟩ := bd_of hf
      refine x_callVv (n := 1) (Cn := RX5) (T := TX5) (N := 2) (As := [.ref (ad a1)]) (rest := []) (maxL := 3) (ret := none) C (c_X5_lookAt t1 e4) gX5_swapAll_X5_lookAt rfl (by decide +kernel) ⟨Nat.le_of_ble_eq_true rfl, Nat.le_of_ble_eq_true rfl⟩ tg_248 (by decide) rfl rfl rfl rfl (Nat.le_of_ble_eq_true rfl) dX5_swapAll_13 ?_
      refine x_aload_n C dX5_swapAll_16 rfl rfl ?_
      obtain ⟨r5, M6, e7, hf⟩ := bd_of hf
      refine x_callV (n := 0) (Cn := RX5) (T := TX5) (N := 2) (As := []) (rest := []) (maxL := 2) (ret := (some .int)) C (c_X5_lowestHousehold  e7) gX5_swapAll_X5_lowestHousehold rfl (by decide +kernel) ⟨Nat.le_of_ble_eq_true rfl, Nat.le_of_ble_eq_true rfl⟩ tg_248 (by decide) rfl rfl rfl rfl (Nat.le_of_ble_eq_true rfl) dX5_swapAll_17 ?_
      refine x_istore (lv' := [some (.ref (ad 248)), some (.ref (ad a1)), some (.int a2), some (.int a3), some (.int r5)]) C dX5_swapAll_20 (by decide) rfl ?_
      refine x_iload C dX5_swapAll_22 rfl ?_
      refine x_bipush (v := (-5 : Int32)) C dX5_swapAll_24 (by decide) ?_
      refine x_icmp_ne (tgt := 31) C dX5_swapAll_26 (by decide) (fun q8 => ?_) (fun q8 => ?_)
      · have hf := ift q8 hf
        refine x_iload_n C dX5_swapAll_29 rfl rfl ?_
        exact x_iret C hr hf dX5_swapAll_30
      · have hf := iff_ q8 hf
        refine x_iload_n C dX5_swapAll_31 rfl rfl ?_
        refine x_aload_n C dX5_swapAll_32 rfl rfl ?_
        refine x_iload C dX5_swapAll_33 rfl ?_
        refine x_aload_n C dX5_swapAll_35 rfl rfl ?_
        obtain ⟨r9, M10, e11, hf⟩ := bd_of hf
        refine x_callV (n := 2) (Cn := RX5) (T := TX5) (N := 2) (As := [.int r5, .ref (ad a1)]) (rest := [.int a2]) (maxL := 7) (ret := (some .int)) C (c_X5_swapRingOf t1 e11) gX5_swapAll_X5_swapRingOf rfl (by decide +kernel) ⟨Nat.le_of_ble_eq_true rfl, Nat.le_of_ble_eq_true rfl⟩ tg_248 (by decide) rfl rfl rfl rfl (Nat.le_of_ble_eq_true rfl) dX5_swapAll_36 ?_
        refine x_iadd C dX5_swapAll_39 ?_
        refine x_istore_n (lv' := [some (.ref (ad 248)), some (.ref (ad a1)), some (.int (a2 + r9)), some (.int a3), some (.int r5)]) C dX5_swapAll_40 rfl (by decide) rfl ?_
        refine x_iinc (d := (1 : Int32)) (v := (a3 + (1 : Int32))) (lv' := [some (.ref (ad 248)), some (.ref (ad a1)), some (.int (a2 + r9)), some (.int (a3 + (1 : Int32))), some (.int r5)]) C dX5_swapAll_41 rfl (by decide) rfl (by decide) rfl ?_
        refine x_goto (tgt := 4) C dX5_swapAll_44 (by decide) ?_
        exact x_weak (ih _ _ _ hf) [0, 1, 2, 3] rfl

set_option maxHeartbeats 4000000 in
set_option maxRecDepth 100000 in
theorem c_X5_swapAll {a1 : Nat} {M : Mem} {r : Int32} {M' : Mem} (t1 : tg a1 = 6) (hf : f_X5_swapAll a1 M = some (r, M')) : CnI yX5_swapAll wsX5_swapAll 4 (fun ad => [.ref (ad 248), .ref (ad a1)]) M r M' := by
  unfold f_X5_swapAll at hf
  refine x_metI (cc := cX5_swapAll) (maxL := 5) RX5 rfl (by decide) rfl (fun ad => Nat.le_of_ble_eq_true rfl) (fun ad v hv => ?_) (fun p l e s m args below meth c D cs ad C hr => ?_)
  · simp only [List.mem_cons, List.not_mem_nil, or_false] at hv
    rcases hv with rfl | rfl <;> rfl
  · show V p l e (rmk 4) s m args below meth c 5 D cs ad (QI below s args D cs ad r M') 0 [some (.ref (ad 248)), some (.ref (ad a1)), none, none, none] [] M
    refine x_iconst (v := (0 : Int32)) C dX5_swapAll_0 (by decide) ?_
    refine x_istore_n (lv' := [some (.ref (ad 248)), some (.ref (ad a1)), some (.int (0 : Int32)), none, none]) C dX5_swapAll_1 rfl (by decide) rfl ?_
    refine x_iconst (v := (0 : Int32)) C dX5_swapAll_2 (by decide) ?_
    refine x_istore_n (lv' := [some (.ref (ad 248)), some (.ref (ad a1)), some (.int (0 : Int32)), some (.int (0 : Int32)), none]) C dX5_swapAll_3 rfl (by decide) rfl ?_
    exact x_weak (cl_X5_swapAll_4 C hr t1 _ _ _ _ hf) [0, 1, 2, 3] rfl

set_option maxHeartbeats 4000000 in
set_option maxRecDepth 100000 in
theorem c_X6_reasonHolds {a0 : Nat} {a1 : Nat} {a2 : Int32} {M : Mem} {r : Int32} {M' : Mem} (t0 : tg a0 = 6) (t1 : tg a1 = 2) (hf : f_X6_reasonHolds a0 a1 a2 M = some (r, M')) : CnI yX6_reasonHolds wsX6_reasonHolds 4 (fun ad => [.ref (ad a0), .ref (ad a1), .int a2]) M r M' := by
  unfold f_X6_reasonHolds at hf
  refine x_metI (cc := cX6_reasonHolds) (maxL := 3) RX6 rfl (by decide) rfl (fun ad => Nat.le_of_ble_eq_true rfl) (fun ad v hv => ?_) (fun p l e s m args below meth c D cs ad C hr => ?_)
  · simp only [List.mem_cons, List.not_mem_nil, or_false] at hv
    rcases hv with rfl | rfl | rfl <;> rfl
  · show V p l e (rmk 4) s m args below meth c 3 D cs ad (QI below s args D cs ad r M') 0 [some (.ref (ad a0)), some (.ref (ad a1)), some (.int a2)] [] M
    refine x_iload_n C dX6_reasonHolds_0 rfl rfl ?_
    by_cases q1 : a2 = (0 : Int32)
    · have hf := ift q1 hf
      refine x_lookup (off := 27) (tgt := 28) C dX6_reasonHolds_1 (by decide) (by rw [q1]; rfl) (by decide) ?_
      refine x_aload_n C dX6_reasonHolds_28 rfl rfl ?_
      refine x_aload_n C dX6_reasonHolds_29 rfl rfl ?_
      obtain ⟨r2, M3, e4, hf⟩ := bd_of hf
      refine x_callV (n := 1) (Cn := RX6) (T := TX6) (N := 8) (As := [.ref (ad a1)]) (rest := []) (maxL := 2) (ret := (some .boolean)) C (c_X6_isPassedOver t0 t1 e4) gX6_reasonHolds_X6_isPassedOver rfl (by decide +kernel) ⟨Nat.le_of_ble_eq_true rfl, Nat.le_of_ble_eq_true rfl⟩ t0 (by decide) rfl rfl rfl rfl (Nat.le_of_ble_eq_true rfl) dX6_reasonHolds_30 ?_
      obtain ⟨g5, hf⟩ := ck_of hf
      exact x_zret C hr (isb_nar g5) hf dX6_reasonHolds_33
    · have hf := iff_ q1 hf
      by_cases q6 : a2 = (1 : Int32)
      · have hf := ift q6 hf
        refine x_lookup (off := 33) (tgt := 34) C dX6_reasonHolds_1 (by decide) (by show Op.lookupswitch.offset [(0, 27), (1, 33)] _ _ = _; rw [lv_osw q1 (a := 0) (by decide)]; rw [q6]; rfl) (by decide) ?_
        refine x_aload_n C dX6_reasonHolds_34 rfl rfl ?_
        refine x_aload_n C dX6_reasonHolds_35 rfl rfl ?_
        obtain ⟨r7, M8, e9, hf⟩ := bd_of hf
        refine x_callV (n := 1) (Cn := RX6) (T := TX6) (N := 8) (As := [.ref (ad a1)]) (rest := []) (maxL := 2) (ret := (some .boolean)) C (c_X6_isCrowded t0 t1 e9) gX6_reasonHolds_X6_isCrowded rfl (by decide +kernel) ⟨Nat.le_of_ble_eq_true rfl, Nat.le_of_ble_eq_true rfl⟩ t0 (by decide) rfl rfl rfl rfl (Nat.le_of_ble_eq_true rfl) dX6_reasonHolds_36 ?_
        obtain ⟨g10, hf⟩ := ck_of hf
        exact x_zret C hr (isb_nar g10) hf dX6_reasonHolds_39
      · have hf := iff_ q6 hf
        refine x_lookup (off := 39) (tgt := 40) C dX6_reasonHolds_1 (by decide) (by rw [show Op.lookupswitch.offset _ _ _ = _ from lv_osw q1 (a := 0) (by decide), show Op.lookupswitch.offset _ _ _ = _ from lv_osw q6 (a := 1) (by decide)]; rfl) (by decide) ?_
        refine x_aload_n C dX6_reasonHolds_40 rfl rfl ?_
        refine x_aload_n C dX6_reasonHolds_41 rfl rfl ?_
        obtain ⟨r11, M12, e13, hf⟩ := bd_of hf
        refine x_callV (n := 1) (Cn := RX6) (T := TX6) (N := 8) (As := [.ref (ad a1)]) (rest := []) (maxL := 3) (ret := (some .boolean)) C (c_X6_isWronged t0 t1 e13) gX6_reasonHolds_X6_isWronged rfl (by decide +kernel) ⟨Nat.le_of_ble_eq_true rfl, Nat.le_of_ble_eq_true rfl⟩ t0 (by decide) rfl rfl rfl rfl (Nat.le_of_ble_eq_true rfl) dX6_reasonHolds_42 ?_
        obtain ⟨g14, hf⟩ := ck_of hf
        exact x_zret C hr (isb_nar g14) hf dX6_reasonHolds_45

theorem kX7_count_10 : Cond.fieldLink RX7 10 "FlatLottery" "state" "LFlatLottery$State;" ∈ wsX7_count := List.mem_of_getElem? (i := 1) rfl
theorem kX7_count_26 : Cond.fieldLink RX7 26 "FlatLottery" "history" "LFlatLottery$History;" ∈ wsX7_count := List.mem_of_getElem? (i := 8) rfl
theorem kX7_count_33 : Cond.fieldLink RX7 33 "FlatLottery" "text" "LFlatLottery$ListText;" ∈ wsX7_count := List.mem_of_getElem? (i := 10) rfl
theorem kX7_count_40 : Cond.fieldLink RX7 40 "FlatLottery" "rings" "LFlatLottery$Rings;" ∈ wsX7_count := List.mem_of_getElem? (i := 5) rfl
theorem kX7_count_55 : Cond.fieldLink RX7 55 "FlatLottery$State" "flatCount" "I" ∈ wsX7_count := List.mem_of_getElem? (i := 2) rfl
theorem kX7_count_75 : Cond.fieldLink RX7 75 "FlatLottery$State" "householdCount" "I" ∈ wsX7_count := List.mem_of_getElem? (i := 3) rfl
theorem kX7_count_142 : Cond.fieldLink RX7 142 "FlatLottery$State" "rounds" "I" ∈ wsX7_count := List.mem_of_getElem? (i := 4) rfl
theorem kX7_count_160 : Cond.fieldLink RX7 160 "FlatLottery$State" "declined" "I" ∈ wsX7_count := List.mem_of_getElem? (i := 7) rfl
theorem kX7_count_170 : Cond.fieldLink RX7 170 "FlatLottery$State" "refused" "I" ∈ wsX7_count := List.mem_of_getElem? (i := 6) rfl
theorem kX7_count_187 : Cond.fieldLink RX7 187 "FlatLottery$ListText" "length" "I" ∈ wsX7_count := List.mem_of_getElem? (i := 11) rfl
theorem kX7_count_190 : Cond.fieldLink RX7 190 "FlatLottery$History" "size" "I" ∈ wsX7_count := List.mem_of_getElem? (i := 9) rfl
theorem nX7_count_1 : ∀ w ∈ u_ws RX1 TX1 2, w ∈ wsX7_count := in_r [120, 121] (by decide +kernel)
theorem nX7_count_3 : ∀ w ∈ u_ws RX3 TX3 7, w ∈ wsX7_count := in_r [122, 123, 124, 125, 126, 127, 128] (by decide +kernel)
theorem nX7_count_6 : ∀ w ∈ u_ws RX6 TX6 8, w ∈ wsX7_count := in_r [112, 113, 114, 115, 116, 117, 118, 119] (by decide +kernel)
theorem nX7_count_7 : ∀ w ∈ u_ws RX7 TX7 7, w ∈ wsX7_count := in_r [105, 106, 107, 108, 109, 110, 111] (by decide +kernel)
set_option maxHeartbeats 4000000 in
set_option maxRecDepth 100000 in
theorem c_X7_count {a1 : Int32} {M : Mem} {r : Int32} {M' : Mem}  (hf : f_X7_count a1 M = some (r, M')) : CnI yX7_count wsX7_count 4 (fun ad => [.ref (ad 0), .int a1]) M r M' := by
  unfold f_X7_count at hf
  refine x_metI (cc := cX7_count) (maxL := 2) RX7 rfl (by decide) rfl (fun ad => Nat.le_of_ble_eq_true rfl) (fun ad v hv => ?_) (fun p l e s m args below meth c D cs ad C hr => ?_)
  · simp only [List.mem_cons, List.not_mem_nil, or_false] at hv
    rcases hv with rfl | rfl <;> rfl
  · show V p l e (rmk 4) s m args below meth c 2 D cs ad (QI below s args D cs ad r M') 0 [some (.ref (ad 0)), some (.int a1)] [] M
    refine x_iload_n C dX7_count_0 rfl rfl ?_
    by_cases q1 : a1 = (0 : Int32)
    · have hf := ift q1 hf
      refine x_tabIn (tgt := 68) (off := 67) C dX7_count_1 (0 : Int32) q1 (by decide) (by decide) (by decide) (by decide) ?_
      refine x_aload_n C dX7_count_68 rfl rfl ?_
      refine x_getr (Cn := RX7) (T := TX7) (N := 7) C tg_0 (by decide) rfl nX7_count_7 0 (by decide) rfl kX7_count_10 rfl dX7_count_69 1 rfl ?_
      refine x_geti (Cn := RX6) (T := TX6) (N := 8) C tg_1 (by decide) rfl nX7_count_6 2 (by decide) rfl kX7_count_55 rfl dX7_count_72 ?_
      exact x_iret C hr hf dX7_count_75
    · have hf := iff_ q1 hf
      by_cases q2 : a1 = (1 : Int32)
      · have hf := ift q2 hf
        refine x_tabIn (tgt := 76) (off := 75) C dX7_count_1 (1 : Int32) q2 (by decide) (by decide) (by decide) (by decide) ?_
        refine x_aload_n C dX7_count_76 rfl rfl ?_
        refine x_getr (Cn := RX7) (T := TX7) (N := 7) C tg_0 (by decide) rfl nX7_count_7 0 (by decide) rfl kX7_count_10 rfl dX7_count_77 1 rfl ?_
        refine x_geti (Cn := RX6) (T := TX6) (N := 8) C tg_1 (by decide) rfl nX7_count_6 3 (by decide) rfl kX7_count_75 rfl dX7_count_80 ?_
        exact x_iret C hr hf dX7_count_83
      · have hf := iff_ q2 hf
        by_cases q3 : a1 = (2 : Int32)
        · have hf := ift q3 hf
          refine x_tabIn (tgt := 84) (off := 83) C dX7_count_1 (2 : Int32) q3 (by decide) (by decide) (by decide) (by decide) ?_
          refine x_aload_n C dX7_count_84 rfl rfl ?_
          refine x_getr (Cn := RX7) (T := TX7) (N := 7) C tg_0 (by decide) rfl nX7_count_7 0 (by decide) rfl kX7_count_10 rfl dX7_count_85 1 rfl ?_
          obtain ⟨r4, M5, e6, hf⟩ := bd_of hf
          refine x_callV (n := 0) (Cn := RX6) (T := TX6) (N := 8) (As := []) (rest := []) (maxL := 3) (ret := (some .int)) C (c_X6_countHeld tg_1 e6) gX7_count_X6_countHeld rfl (by decide +kernel) ⟨Nat.le_of_ble_eq_true rfl, Nat.le_of_ble_eq_true rfl⟩ tg_1 (by decide) rfl rfl rfl rfl (Nat.le_of_ble_eq_true rfl) dX7_count_88 ?_
          exact x_iret C hr hf dX7_count_91
        · have hf := iff_ q3 hf
          by_cases q7 : a1 = (3 : Int32)
          · have hf := ift q7 hf
            refine x_tabIn (tgt := 92) (off := 91) C dX7_count_1 (3 : Int32) q7 (by decide) (by decide) (by decide) (by decide) ?_
            refine x_aload_n C dX7_count_92 rfl rfl ?_
            refine x_getr (Cn := RX7) (T := TX7) (N := 7) C tg_0 (by decide) rfl nX7_count_7 0 (by decide) rfl kX7_count_10 rfl dX7_count_93 1 rfl ?_
            refine x_geti (Cn := RX6) (T := TX6) (N := 8) C tg_1 (by decide) rfl nX7_count_6 4 (by decide) rfl kX7_count_142 rfl dX7_count_96 ?_
            exact x_iret C hr hf dX7_count_99
          · have hf := iff_ q7 hf
            by_cases q8 : a1 = (4 : Int32)
            · have hf := ift q8 hf
              refine x_tabIn (tgt := 100) (off := 99) C dX7_count_1 (4 : Int32) q8 (by decide) (by decide) (by decide) (by decide) ?_
              refine x_aload_n C dX7_count_100 rfl rfl ?_
              refine x_getr (Cn := RX7) (T := TX7) (N := 7) C tg_0 (by decide) rfl nX7_count_7 0 (by decide) rfl kX7_count_10 rfl dX7_count_101 1 rfl ?_
              obtain ⟨r9, M10, e11, hf⟩ := bd_of hf
              refine x_callV (n := 0) (Cn := RX6) (T := TX6) (N := 8) (As := []) (rest := []) (maxL := 3) (ret := (some .int)) C (c_X6_countNumbered tg_1 e11) gX7_count_X6_countNumbered rfl (by decide +kernel) ⟨Nat.le_of_ble_eq_true rfl, Nat.le_of_ble_eq_true rfl⟩ tg_1 (by decide) rfl rfl rfl rfl (Nat.le_of_ble_eq_true rfl) dX7_count_104 ?_
              exact x_iret C hr hf dX7_count_107
            · have hf := iff_ q8 hf
              by_cases q12 : a1 = (5 : Int32)
              · have hf := ift q12 hf
                refine x_tabIn (tgt := 108) (off := 107) C dX7_count_1 (5 : Int32) q12 (by decide) (by decide) (by decide) (by decide) ?_
                refine x_aload_n C dX7_count_108 rfl rfl ?_
                refine x_getr (Cn := RX7) (T := TX7) (N := 7) C tg_0 (by decide) rfl nX7_count_7 0 (by decide) rfl kX7_count_10 rfl dX7_count_109 1 rfl ?_
                refine x_iconst (v := (1 : Int32)) C dX7_count_112 (by decide) ?_
                obtain ⟨r13, M14, e15, hf⟩ := bd_of hf
                refine x_callV (n := 1) (Cn := RX6) (T := TX6) (N := 8) (As := [.int (1 : Int32)]) (rest := []) (maxL := 5) (ret := (some .int)) C (c_X6_countEnvy tg_1 e15) gX7_count_X6_countEnvy rfl (by decide +kernel) ⟨Nat.le_of_ble_eq_true rfl, Nat.le_of_ble_eq_true rfl⟩ tg_1 (by decide) rfl rfl rfl rfl (Nat.le_of_ble_eq_true rfl) dX7_count_113 ?_
                exact x_iret C hr hf dX7_count_116
              · have hf := iff_ q12 hf
                by_cases q16 : a1 = (6 : Int32)
                · have hf := ift q16 hf
                  refine x_tabIn (tgt := 117) (off := 116) C dX7_count_1 (6 : Int32) q16 (by decide) (by decide) (by decide) (by decide) ?_
                  refine x_aload_n C dX7_count_117 rfl rfl ?_
                  refine x_getr (Cn := RX7) (T := TX7) (N := 7) C tg_0 (by decide) rfl nX7_count_7 0 (by decide) rfl kX7_count_10 rfl dX7_count_118 1 rfl ?_
                  refine x_iconst (v := (2 : Int32)) C dX7_count_121 (by decide) ?_
                  obtain ⟨r17, M18, e19, hf⟩ := bd_of hf
                  refine x_callV (n := 1) (Cn := RX6) (T := TX6) (N := 8) (As := [.int (2 : Int32)]) (rest := []) (maxL := 5) (ret := (some .int)) C (c_X6_countEnvy tg_1 e19) gX7_count_X6_countEnvy rfl (by decide +kernel) ⟨Nat.le_of_ble_eq_true rfl, Nat.le_of_ble_eq_true rfl⟩ tg_1 (by decide) rfl rfl rfl rfl (Nat.le_of_ble_eq_true rfl) dX7_count_122 ?_
                  exact x_iret C hr hf dX7_count_125
                · have hf := iff_ q16 hf
                  by_cases q20 : a1 = (7 : Int32)
                  · have hf := ift q20 hf
                    refine x_tabIn (tgt := 126) (off := 125) C dX7_count_1 (7 : Int32) q20 (by decide) (by decide) (by decide) (by decide) ?_
                    refine x_aload_n C dX7_count_126 rfl rfl ?_
                    refine x_getr (Cn := RX7) (T := TX7) (N := 7) C tg_0 (by decide) rfl nX7_count_7 5 (by decide) rfl kX7_count_40 rfl dX7_count_127 248 rfl ?_
                    refine x_aload_n C dX7_count_130 rfl rfl ?_
                    refine x_getr (Cn := RX7) (T := TX7) (N := 7) C tg_0 (by decide) rfl nX7_count_7 0 (by decide) rfl kX7_count_10 rfl dX7_count_131 1 rfl ?_
                    obtain ⟨r21, M22, e23, hf⟩ := bd_of hf
                    refine x_callVv (n := 1) (Cn := RX5) (T := TX5) (N := 2) (As := [.ref (ad 1)]) (rest := []) (maxL := 3) (ret := none) C (c_X5_lookAt tg_1 e23) gX7_count_X5_lookAt rfl (by decide +kernel) ⟨Nat.le_of_ble_eq_true rfl, Nat.le_of_ble_eq_true rfl⟩ tg_248 (by decide) rfl rfl rfl rfl (Nat.le_of_ble_eq_true rfl) dX7_count_134 ?_
                    refine x_aload_n C dX7_count_137 rfl rfl ?_
                    refine x_getr (Cn := RX7) (T := TX7) (N := 7) C tg_0 (by decide) rfl nX7_count_7 5 (by decide) rfl kX7_count_40 rfl dX7_count_138 248 rfl ?_
                    obtain ⟨r24, M25, e26, hf⟩ := bd_of hf
                    refine x_callV (n := 0) (Cn := RX5) (T := TX5) (N := 2) (As := []) (rest := []) (maxL := 3) (ret := (some .int)) C (c_X5_countHouseholds  e26) gX7_count_X5_countHouseholds rfl (by decide +kernel) ⟨Nat.le_of_ble_eq_true rfl, Nat.le_of_ble_eq_true rfl⟩ tg_248 (by decide) rfl rfl rfl rfl (Nat.le_of_ble_eq_true rfl) dX7_count_141 ?_
                    exact x_iret C hr hf dX7_count_144
                  · have hf := iff_ q20 hf
                    by_cases q27 : a1 = (8 : Int32)
                    · have hf := ift q27 hf
                      refine x_tabIn (tgt := 145) (off := 144) C dX7_count_1 (8 : Int32) q27 (by decide) (by decide) (by decide) (by decide) ?_
                      refine x_aload_n C dX7_count_145 rfl rfl ?_
                      refine x_getr (Cn := RX7) (T := TX7) (N := 7) C tg_0 (by decide) rfl nX7_count_7 0 (by decide) rfl kX7_count_10 rfl dX7_count_146 1 rfl ?_
                      obtain ⟨r28, M29, e30, hf⟩ := bd_of hf
                      refine x_callV (n := 0) (Cn := RX6) (T := TX6) (N := 8) (As := []) (rest := []) (maxL := 3) (ret := (some .int)) C (c_X6_countAppeals tg_1 e30) gX7_count_X6_countAppeals rfl (by decide +kernel) ⟨Nat.le_of_ble_eq_true rfl, Nat.le_of_ble_eq_true rfl⟩ tg_1 (by decide) rfl rfl rfl rfl (Nat.le_of_ble_eq_true rfl) dX7_count_149 ?_
                      exact x_iret C hr hf dX7_count_152
                    · have hf := iff_ q27 hf
                      by_cases q31 : a1 = (9 : Int32)
                      · have hf := ift q31 hf
                        refine x_tabIn (tgt := 153) (off := 152) C dX7_count_1 (9 : Int32) q31 (by decide) (by decide) (by decide) (by decide) ?_
                        refine x_aload_n C dX7_count_153 rfl rfl ?_
                        refine x_getr (Cn := RX7) (T := TX7) (N := 7) C tg_0 (by decide) rfl nX7_count_7 0 (by decide) rfl kX7_count_10 rfl dX7_count_154 1 rfl ?_
                        refine x_geti (Cn := RX6) (T := TX6) (N := 8) C tg_1 (by decide) rfl nX7_count_6 5 (by decide) rfl kX7_count_170 rfl dX7_count_157 ?_
                        exact x_iret C hr hf dX7_count_160
                      · have hf := iff_ q31 hf
                        by_cases q32 : a1 = (10 : Int32)
                        · have hf := ift q32 hf
                          refine x_tabIn (tgt := 161) (off := 160) C dX7_count_1 (10 : Int32) q32 (by decide) (by decide) (by decide) (by decide) ?_
                          refine x_aload_n C dX7_count_161 rfl rfl ?_
                          refine x_getr (Cn := RX7) (T := TX7) (N := 7) C tg_0 (by decide) rfl nX7_count_7 0 (by decide) rfl kX7_count_10 rfl dX7_count_162 1 rfl ?_
                          refine x_geti (Cn := RX6) (T := TX6) (N := 8) C tg_1 (by decide) rfl nX7_count_6 6 (by decide) rfl kX7_count_160 rfl dX7_count_165 ?_
                          exact x_iret C hr hf dX7_count_168
                        · have hf := iff_ q32 hf
                          by_cases q33 : a1 = (11 : Int32)
                          · have hf := ift q33 hf
                            refine x_tabIn (tgt := 169) (off := 168) C dX7_count_1 (11 : Int32) q33 (by decide) (by decide) (by decide) (by decide) ?_
                            refine x_aload_n C dX7_count_169 rfl rfl ?_
                            refine x_getr (Cn := RX7) (T := TX7) (N := 7) C tg_0 (by decide) rfl nX7_count_7 3 (by decide) rfl kX7_count_26 rfl dX7_count_170 81 rfl ?_
                            refine x_geti (Cn := RX1) (T := TX1) (N := 2) C tg_81 (by decide) rfl nX7_count_1 1 (by decide) rfl kX7_count_190 rfl dX7_count_173 ?_
                            exact x_iret C hr hf dX7_count_176
                          · have hf := iff_ q33 hf
                            by_cases q34 : a1 = (12 : Int32)
                            · have hf := ift q34 hf
                              refine x_tabIn (tgt := 177) (off := 176) C dX7_count_1 (12 : Int32) q34 (by decide) (by decide) (by decide) (by decide) ?_
                              refine x_aload_n C dX7_count_177 rfl rfl ?_
                              refine x_getr (Cn := RX7) (T := TX7) (N := 7) C tg_0 (by decide) rfl nX7_count_7 4 (by decide) rfl kX7_count_33 rfl dX7_count_178 243 rfl ?_
                              refine x_geti (Cn := RX3) (T := TX3) (N := 7) C tg_243 (by decide) rfl nX7_count_3 1 (by decide) rfl kX7_count_187 rfl dX7_count_181 ?_
                              exact x_iret C hr hf dX7_count_184
                            · have hf := iff_ q34 hf
                              have zq1 := lv_neT q1 (a := 0) (by decide)
                              have zq2 := lv_neT q2 (a := 1) (by decide)
                              have zq3 := lv_neT q3 (a := 2) (by decide)
                              have zq7 := lv_neT q7 (a := 3) (by decide)
                              have zq8 := lv_neT q8 (a := 4) (by decide)
                              have zq12 := lv_neT q12 (a := 5) (by decide)
                              have zq16 := lv_neT q16 (a := 6) (by decide)
                              have zq20 := lv_neT q20 (a := 7) (by decide)
                              have zq27 := lv_neT q27 (a := 8) (by decide)
                              have zq31 := lv_neT q31 (a := 9) (by decide)
                              have zq32 := lv_neT q32 (a := 10) (by decide)
                              have zq33 := lv_neT q33 (a := 11) (by decide)
                              have zq34 := lv_neT q34 (a := 12) (by decide)
                              refine x_tabOut (tgt := 185) C dX7_count_1 (by omega) (by decide) ?_
                              refine x_bipush (v := (-2 : Int32)) C dX7_count_185 (by decide) ?_
                              exact x_iret C hr hf dX7_count_187

