theorem kX7_most_10 : Cond.fieldLink RX7 10 "FlatLottery" "state" "LFlatLottery$State;" ∈ wsX7_most := List.mem_of_getElem? (i := 2) rfl
theorem kX7_most_47 : Cond.fieldLink RX7 47 "FlatLottery" "matching" "LFlatLottery$Matching;" ∈ wsX7_most := List.mem_of_getElem? (i := 1) rfl
theorem nX7_most_7 : ∀ w ∈ u_ws RX7 TX7 7, w ∈ wsX7_most := in_r [44, 45, 46, 47, 48, 49, 50] (by decide +kernel)
set_option maxHeartbeats 4000000 in
set_option maxRecDepth 100000 in
theorem c_X7_most  {M : Mem} {r : Int32} {M' : Mem}  (hf : f_X7_most  M = some (r, M')) : CnI yX7_most wsX7_most 4 (fun ad => [.ref (ad 0)]) M r M' := by
  unfold f_X7_most at hf
  refine x_metI (cc := cX7_most) (maxL := 1) RX7 rfl (by decide) rfl (fun ad => Nat.le_of_ble_eq_true rfl) (fun ad v hv => ?_) (fun p l e s m args below meth c D cs ad C hr => ?_)
  · simp only [List.mem_cons, List.not_mem_nil, or_false] at hv
    rcases hv with rfl <;> rfl
  · show V p l e (rmk 4) s m args below meth c 1 D cs ad (QI below s args D cs ad r M') 0 [some (.ref (ad 0))] [] M
    refine x_aload_n C dX7_most_0 rfl rfl ?_
    refine x_getr (Cn := RX7) (T := TX7) (N := 7) C tg_0 (by decide) rfl nX7_most_7 6 (by decide) rfl kX7_most_47 rfl dX7_most_1 250 rfl ?_
    refine x_aload_n C dX7_most_4 rfl rfl ?_
    refine x_getr (Cn := RX7) (T := TX7) (N := 7) C tg_0 (by decide) rfl nX7_most_7 0 (by decide) rfl kX7_most_10 rfl dX7_most_5 1 rfl ?_
    obtain ⟨r1, M2, e3, hf⟩ := bd_of hf
    refine x_callV (n := 1) (Cn := RX4) (T := TX4) (N := 4) (As := [.ref (ad 1)]) (rest := []) (maxL := 4) (ret := (some .int)) C (c_X4_greatest tg_1 e3) gX7_most_X4_greatest rfl (by decide +kernel) ⟨Nat.le_of_ble_eq_true rfl, Nat.le_of_ble_eq_true rfl⟩ tg_250 (by decide) rfl rfl rfl rfl (Nat.le_of_ble_eq_true rfl) dX7_most_8 ?_
    exact x_iret C hr hf dX7_most_11

theorem kX7_round_10 : Cond.fieldLink RX7 10 "FlatLottery" "state" "LFlatLottery$State;" ∈ wsX7_round := List.mem_of_getElem? (i := 1) rfl
theorem kX7_round_26 : Cond.fieldLink RX7 26 "FlatLottery" "history" "LFlatLottery$History;" ∈ wsX7_round := List.mem_of_getElem? (i := 2) rfl
theorem kX7_round_142 : Cond.fieldLink RX7 142 "FlatLottery$State" "rounds" "I" ∈ wsX7_round := List.mem_of_getElem? (i := 3) rfl
theorem nX7_round_6 : ∀ w ∈ u_ws RX6 TX6 8, w ∈ wsX7_round := in_r [103, 104, 105, 106, 107, 108, 109, 110] (by decide +kernel)
theorem nX7_round_7 : ∀ w ∈ u_ws RX7 TX7 7, w ∈ wsX7_round := in_r [96, 97, 98, 99, 100, 101, 102] (by decide +kernel)
set_option maxHeartbeats 4000000 in
set_option maxRecDepth 100000 in
theorem c_X7_round  {M : Mem} {r : Int32} {M' : Mem}  (hf : f_X7_round  M = some (r, M')) : CnI yX7_round wsX7_round 4 (fun ad => [.ref (ad 0)]) M r M' := by
  unfold f_X7_round at hf
  refine x_metI (cc := cX7_round) (maxL := 1) RX7 rfl (by decide) rfl (fun ad => Nat.le_of_ble_eq_true rfl) (fun ad v hv => ?_) (fun p l e s m args below meth c D cs ad C hr => ?_)
  · simp only [List.mem_cons, List.not_mem_nil, or_false] at hv
    rcases hv with rfl <;> rfl
  · show V p l e (rmk 4) s m args below meth c 1 D cs ad (QI below s args D cs ad r M') 0 [some (.ref (ad 0))] [] M
    refine x_aload_n C dX7_round_0 rfl rfl ?_
    refine x_getr (Cn := RX7) (T := TX7) (N := 7) C tg_0 (by decide) rfl nX7_round_7 0 (by decide) rfl kX7_round_10 rfl dX7_round_1 1 rfl ?_
    obtain ⟨r1, M2, e3, hf⟩ := bd_of hf
    refine x_callV (n := 0) (Cn := RX6) (T := TX6) (N := 8) (As := []) (rest := []) (maxL := 3) (ret := (some .int)) C (c_X6_countNumbered tg_1 e3) gX7_round_X6_countNumbered rfl (by decide +kernel) ⟨Nat.le_of_ble_eq_true rfl, Nat.le_of_ble_eq_true rfl⟩ tg_1 (by decide) rfl rfl rfl rfl (Nat.le_of_ble_eq_true rfl) dX7_round_4 ?_
    refine x_if_ne (tgt := 13) C dX7_round_7 (by decide) (fun q4 => ?_) (fun q4 => ?_)
    · have hf := ift q4 hf
      refine x_bipush (v := (-4 : Int32)) C dX7_round_10 (by decide) ?_
      exact x_iret C hr hf dX7_round_12
    · have hf := iff_ q4 hf
      refine x_aload_n C dX7_round_13 rfl rfl ?_
      refine x_getr (Cn := RX7) (T := TX7) (N := 7) C tg_0 (by decide) rfl nX7_round_7 3 (by decide) rfl kX7_round_26 rfl dX7_round_14 81 rfl ?_
      refine x_aload_n C dX7_round_17 rfl rfl ?_
      refine x_getr (Cn := RX7) (T := TX7) (N := 7) C tg_0 (by decide) rfl nX7_round_7 0 (by decide) rfl kX7_round_10 rfl dX7_round_18 1 rfl ?_
      obtain ⟨r5, M6, e7, hf⟩ := bd_of hf
      refine x_callVv (n := 1) (Cn := RX1) (T := TX1) (N := 2) (As := [.ref (ad 1)]) (rest := []) (maxL := 2) (ret := none) C (c_X1_record tg_1 e7) gX7_round_X1_record rfl (by decide +kernel) ⟨Nat.le_of_ble_eq_true rfl, Nat.le_of_ble_eq_true rfl⟩ tg_81 (by decide) rfl rfl rfl rfl (Nat.le_of_ble_eq_true rfl) dX7_round_21 ?_
      refine x_aload_n C dX7_round_24 rfl rfl ?_
      refine x_getr (Cn := RX7) (T := TX7) (N := 7) C tg_0 (by decide) rfl nX7_round_7 0 (by decide) rfl kX7_round_10 rfl dX7_round_25 1 rfl ?_
      refine x_dup C dX7_round_28 rfl ?_
      refine x_geti (Cn := RX6) (T := TX6) (N := 8) C tg_1 (by decide) rfl nX7_round_6 4 (by decide) rfl kX7_round_142 rfl dX7_round_29 ?_
      refine x_iconst (v := (1 : Int32)) C dX7_round_32 (by decide) ?_
      refine x_iadd C dX7_round_33 ?_
      refine x_puti (ty := .int) (Cn := RX6) (T := TX6) (N := 8) C tg_1 (by decide) rfl nX7_round_6 tyX6 tyX6_ok nmX6 4 (by decide) rfl kX7_round_142 rfl rfl (by decide +kernel) rfl rfl dX7_round_34 ?_
      refine x_gen hf (fun M8 hf => ?_)
      refine x_aload_n C dX7_round_37 rfl rfl ?_
      refine x_getr (Cn := RX7) (T := TX7) (N := 7) C tg_0 (by decide) rfl nX7_round_7 0 (by decide) rfl kX7_round_10 rfl dX7_round_38 1 rfl ?_
      obtain ⟨r9, M10, e11, hf⟩ := bd_of hf
      refine x_callV (n := 0) (Cn := RX6) (T := TX6) (N := 8) (As := []) (rest := []) (maxL := 7) (ret := (some .int)) C (c_X6_giveFlatsInOrder tg_1 e11) gX7_round_X6_giveFlatsInOrder rfl (by decide +kernel) ⟨Nat.le_of_ble_eq_true rfl, Nat.le_of_ble_eq_true rfl⟩ tg_1 (by decide) rfl rfl rfl rfl (Nat.le_of_ble_eq_true rfl) dX7_round_41 ?_
      exact x_iret C hr hf dX7_round_44

theorem kX7_wouldGet_10 : Cond.fieldLink RX7 10 "FlatLottery" "state" "LFlatLottery$State;" ∈ wsX7_wouldGet := List.mem_of_getElem? (i := 1) rfl
theorem nX7_wouldGet_7 : ∀ w ∈ u_ws RX7 TX7 7, w ∈ wsX7_wouldGet := in_r [54, 55, 56, 57, 58, 59, 60] (by decide +kernel)
set_option maxHeartbeats 4000000 in
set_option maxRecDepth 100000 in
theorem c_X7_wouldGet {a1 : Int32} {a2 : Int32} {M : Mem} {r : Int32} {M' : Mem}  (hf : f_X7_wouldGet a1 a2 M = some (r, M')) : CnI yX7_wouldGet wsX7_wouldGet 4 (fun ad => [.ref (ad 0), .int a1, .int a2]) M r M' := by
  unfold f_X7_wouldGet at hf
  refine x_metI (cc := cX7_wouldGet) (maxL := 3) RX7 rfl (by decide) rfl (fun ad => Nat.le_of_ble_eq_true rfl) (fun ad v hv => ?_) (fun p l e s m args below meth c D cs ad C hr => ?_)
  · simp only [List.mem_cons, List.not_mem_nil, or_false] at hv
    rcases hv with rfl | rfl | rfl <;> rfl
  · show V p l e (rmk 4) s m args below meth c 3 D cs ad (QI below s args D cs ad r M') 0 [some (.ref (ad 0)), some (.int a1), some (.int a2)] [] M
    refine x_aload_n C dX7_wouldGet_0 rfl rfl ?_
    refine x_getr (Cn := RX7) (T := TX7) (N := 7) C tg_0 (by decide) rfl nX7_wouldGet_7 0 (by decide) rfl kX7_wouldGet_10 rfl dX7_wouldGet_1 1 rfl ?_
    refine x_iload_n C dX7_wouldGet_4 rfl rfl ?_
    obtain ⟨r1, M2, e3, hf⟩ := bd_of hf
    refine x_callV (n := 1) (Cn := RX6) (T := TX6) (N := 8) (As := [.int a1]) (rest := []) (maxL := 2) (ret := (some .boolean)) C (c_X6_hasHousehold tg_1 e3) gX7_wouldGet_X6_hasHousehold rfl (by decide +kernel) ⟨Nat.le_of_ble_eq_true rfl, Nat.le_of_ble_eq_true rfl⟩ tg_1 (by decide) rfl rfl rfl rfl (Nat.le_of_ble_eq_true rfl) dX7_wouldGet_5 ?_
    refine x_if_ne (tgt := 13) C dX7_wouldGet_8 (by decide) (fun q4 => ?_) (fun q4 => ?_)
    · have hf := ift q4 hf
      refine x_iconst (v := (-1 : Int32)) C dX7_wouldGet_11 (by decide) ?_
      exact x_iret C hr hf dX7_wouldGet_12
    · have hf := iff_ q4 hf
      refine x_iload_n C dX7_wouldGet_13 rfl rfl ?_
      refine x_bipush (v := (-5 : Int32)) C dX7_wouldGet_14 (by decide) ?_
      refine x_icmp_eq (tgt := 32) C dX7_wouldGet_16 (by decide) (fun q5 => ?_) (fun q5 => ?_)
      · have hf := ift q5 hf
        refine x_aload_n C dX7_wouldGet_32 rfl rfl ?_
        refine x_getr (Cn := RX7) (T := TX7) (N := 7) C tg_0 (by decide) rfl nX7_wouldGet_7 0 (by decide) rfl kX7_wouldGet_10 rfl dX7_wouldGet_33 1 rfl ?_
        refine x_iload_n C dX7_wouldGet_36 rfl rfl ?_
        refine x_iload_n C dX7_wouldGet_37 rfl rfl ?_
        obtain ⟨r6, M7, e8, hf⟩ := bd_of hf
        refine x_callV (n := 2) (Cn := RX6) (T := TX6) (N := 8) (As := [.int a1, .int a2]) (rest := []) (maxL := 8) (ret := (some .int)) C (c_X6_flatIfAllWereFree tg_1 e8) gX7_wouldGet_X6_flatIfAllWereFree rfl (by decide +kernel) ⟨Nat.le_of_ble_eq_true rfl, Nat.le_of_ble_eq_true rfl⟩ tg_1 (by decide) rfl rfl rfl rfl (Nat.le_of_ble_eq_true rfl) dX7_wouldGet_38 ?_
        exact x_iret C hr hf dX7_wouldGet_41
      · have hf := iff_ q5 hf
        refine x_aload_n C dX7_wouldGet_19 rfl rfl ?_
        refine x_getr (Cn := RX7) (T := TX7) (N := 7) C tg_0 (by decide) rfl nX7_wouldGet_7 0 (by decide) rfl kX7_wouldGet_10 rfl dX7_wouldGet_20 1 rfl ?_
        refine x_iload_n C dX7_wouldGet_23 rfl rfl ?_
        obtain ⟨r9, M10, e11, hf⟩ := bd_of hf
        refine x_callV (n := 1) (Cn := RX6) (T := TX6) (N := 8) (As := [.int a2]) (rest := []) (maxL := 2) (ret := (some .boolean)) C (c_X6_hasHousehold tg_1 e11) gX7_wouldGet_X6_hasHousehold rfl (by decide +kernel) ⟨Nat.le_of_ble_eq_true rfl, Nat.le_of_ble_eq_true rfl⟩ tg_1 (by decide) rfl rfl rfl rfl (Nat.le_of_ble_eq_true rfl) dX7_wouldGet_24 ?_
        refine x_if_ne (tgt := 32) C dX7_wouldGet_27 (by decide) (fun q12 => ?_) (fun q12 => ?_)
        · have hf := ift q12 hf
          refine x_iconst (v := (-1 : Int32)) C dX7_wouldGet_30 (by decide) ?_
          exact x_iret C hr hf dX7_wouldGet_31
        · have hf := iff_ q12 hf
          refine x_aload_n C dX7_wouldGet_32 rfl rfl ?_
          refine x_getr (Cn := RX7) (T := TX7) (N := 7) C tg_0 (by decide) rfl nX7_wouldGet_7 0 (by decide) rfl kX7_wouldGet_10 rfl dX7_wouldGet_33 1 rfl ?_
          refine x_iload_n C dX7_wouldGet_36 rfl rfl ?_
          refine x_iload_n C dX7_wouldGet_37 rfl rfl ?_
          obtain ⟨r13, M14, e15, hf⟩ := bd_of hf
          refine x_callV (n := 2) (Cn := RX6) (T := TX6) (N := 8) (As := [.int a1, .int a2]) (rest := []) (maxL := 8) (ret := (some .int)) C (c_X6_flatIfAllWereFree tg_1 e15) gX7_wouldGet_X6_flatIfAllWereFree rfl (by decide +kernel) ⟨Nat.le_of_ble_eq_true rfl, Nat.le_of_ble_eq_true rfl⟩ tg_1 (by decide) rfl rfl rfl rfl (Nat.le_of_ble_eq_true rfl) dX7_wouldGet_38 ?_
          exact x_iret C hr hf dX7_wouldGet_41

theorem kX7_appeal_10 : Cond.fieldLink RX7 10 "FlatLottery" "state" "LFlatLottery$State;" ∈ wsX7_appeal := List.mem_of_getElem? (i := 1) rfl
theorem kX7_appeal_26 : Cond.fieldLink RX7 26 "FlatLottery" "history" "LFlatLottery$History;" ∈ wsX7_appeal := List.mem_of_getElem? (i := 4) rfl
theorem kX7_appeal_78 : Cond.fieldLink RX7 78 "FlatLottery$State" "households" "[LFlatLottery$Household;" ∈ wsX7_appeal := List.mem_of_getElem? (i := 2) rfl
theorem kX7_appeal_151 : Cond.fieldLink RX7 151 "FlatLottery$Household" "points" "I" ∈ wsX7_appeal := List.mem_of_getElem? (i := 6) rfl
theorem kX7_appeal_163 : Cond.fieldLink RX7 163 "FlatLottery$Household" "appeals" "I" ∈ wsX7_appeal := List.mem_of_getElem? (i := 3) rfl
theorem kX7_appeal_170 : Cond.fieldLink RX7 170 "FlatLottery$State" "refused" "I" ∈ wsX7_appeal := List.mem_of_getElem? (i := 5) rfl
theorem nX7_appeal_2 : ∀ w ∈ u_ws RX2 TX2 9, w ∈ wsX7_appeal := in_r [125, 126, 127, 128, 129, 130, 131, 132, 133] (by decide +kernel)
theorem nX7_appeal_6 : ∀ w ∈ u_ws RX6 TX6 8, w ∈ wsX7_appeal := in_r [117, 118, 119, 120, 121, 122, 123, 124] (by decide +kernel)
theorem nX7_appeal_7 : ∀ w ∈ u_ws RX7 TX7 7, w ∈ wsX7_appeal := in_r [110, 111, 112, 113, 114, 115, 116] (by decide +kernel)
set_option maxHeartbeats 4000000 in
set_option maxRecDepth 100000 in
theorem c_X7_appeal {a1 : Int32} {a2 : Int32} {M : Mem} {r : Int32} {M' : Mem}  (hf : f_X7_appeal a1 a2 M = some (r, M')) : CnI yX7_appeal wsX7_appeal 5 (fun ad => [.ref (ad 0), .int a1, .int a2]) M r M' := by
  unfold f_X7_appeal at hf
  refine x_metI (cc := cX7_appeal) (maxL := 5) RX7 rfl (by decide) rfl (fun ad => Nat.le_of_ble_eq_true rfl) (fun ad v hv => ?_) (fun p l e s m args below meth c D cs ad C hr => ?_)
  · simp only [List.mem_cons, List.not_mem_nil, or_false] at hv
    rcases hv with rfl | rfl | rfl <;> rfl
  · show V p l e (rmk 5) s m args below meth c 5 D cs ad (QI below s args D cs ad r M') 0 [some (.ref (ad 0)), some (.int a1), some (.int a2), none, none] [] M
    refine x_aload_n C dX7_appeal_0 rfl rfl ?_
    refine x_getr (Cn := RX7) (T := TX7) (N := 7) C tg_0 (by decide) rfl nX7_appeal_7 0 (by decide) rfl kX7_appeal_10 rfl dX7_appeal_1 1 rfl ?_
    refine x_iload_n C dX7_appeal_4 rfl rfl ?_
    obtain ⟨r1, M2, e3, hf⟩ := bd_of hf
    refine x_callV (n := 1) (Cn := RX6) (T := TX6) (N := 8) (As := [.int a1]) (rest := []) (maxL := 2) (ret := (some .boolean)) C (c_X6_hasHousehold tg_1 e3) gX7_appeal_X6_hasHousehold rfl (by decide +kernel) ⟨Nat.le_of_ble_eq_true rfl, Nat.le_of_ble_eq_true rfl⟩ tg_1 (by decide) rfl rfl rfl rfl (Nat.le_of_ble_eq_true rfl) dX7_appeal_5 ?_
    refine x_if_ne (tgt := 13) C dX7_appeal_8 (by decide) (fun q4 => ?_) (fun q4 => ?_)
    · have hf := ift q4 hf
      refine x_iconst (v := (-1 : Int32)) C dX7_appeal_11 (by decide) ?_
      exact x_iret C hr hf dX7_appeal_12
    · have hf := iff_ q4 hf
      refine x_iload_n C dX7_appeal_13 rfl rfl ?_
      refine x_iconst (v := (0 : Int32)) C dX7_appeal_14 (by decide) ?_
      refine x_iconst (v := (2 : Int32)) C dX7_appeal_15 (by decide) ?_
      obtain ⟨r5, M6, e7, hf⟩ := bd_of hf
      refine x_callS (n := 3) (As := [.int a2, .int (0 : Int32), .int (2 : Int32)]) (rest := []) (maxL := 3) (ret := (some .boolean)) C (c_X7_isWithin  e7) gX7_appeal_X7_isWithin rfl (by decide +kernel) ⟨Nat.le_of_ble_eq_true rfl, Nat.le_of_ble_eq_true rfl⟩ rfl rfl rfl (Nat.le_of_ble_eq_true rfl) dX7_appeal_16 ?_
      refine x_if_ne (tgt := 25) C dX7_appeal_19 (by decide) (fun q8 => ?_) (fun q8 => ?_)
      · have hf := ift q8 hf
        refine x_bipush (v := (-2 : Int32)) C dX7_appeal_22 (by decide) ?_
        exact x_iret C hr hf dX7_appeal_24
      · have hf := iff_ q8 hf
        refine x_aload_n C dX7_appeal_25 rfl rfl ?_
        refine x_getr (Cn := RX7) (T := TX7) (N := 7) C tg_0 (by decide) rfl nX7_appeal_7 0 (by decide) rfl kX7_appeal_10 rfl dX7_appeal_26 1 rfl ?_
        refine x_getr (Cn := RX6) (T := TX6) (N := 8) C tg_1 (by decide) rfl nX7_appeal_6 1 (by decide) rfl kX7_appeal_78 rfl dX7_appeal_29 3 rfl ?_
        refine x_iload_n C dX7_appeal_32 rfl rfl ?_
        obtain ⟨g9, hf⟩ := ck_of hf
        have w10 : 3 + 14 + 2 * (a1).toNatClampNeg = (17 + 2 * (a1).toNatClampNeg) := by omega
        have u11 : tg (17 + 2 * (a1).toNatClampNeg) = 2 := te_H (x := a1) tg_3 g9 w10
        refine x_aaldH (j := (a1).toNatClampNeg) C tg_3 tl_3 g9 rfl dX7_appeal_33 (17 + 2 * (a1).toNatClampNeg) w10 ?_
        refine x_astore_n (lv' := [some (.ref (ad 0)), some (.int a1), some (.int a2), some (.ref (ad (17 + 2 * (a1).toNatClampNeg))), none]) C dX7_appeal_34 rfl (by decide) rfl ?_
        refine x_aload_n C dX7_appeal_35 rfl rfl ?_
        refine x_geti (Cn := RX2) (T := TX2) (N := 9) C u11 (by decide) rfl nX7_appeal_2 7 (by decide) rfl kX7_appeal_163 rfl dX7_appeal_36 ?_
        refine x_iconst (v := (2 : Int32)) C dX7_appeal_39 (by decide) ?_
        refine x_icmp_lt (tgt := 46) C dX7_appeal_40 (by decide) (fun q12 => ?_) (fun q12 => ?_)
        · have hf := ift q12 hf
          refine x_aload_n C dX7_appeal_46 rfl rfl ?_
          refine x_getr (Cn := RX7) (T := TX7) (N := 7) C tg_0 (by decide) rfl nX7_appeal_7 3 (by decide) rfl kX7_appeal_26 rfl dX7_appeal_47 81 rfl ?_
          refine x_aload_n C dX7_appeal_50 rfl rfl ?_
          refine x_getr (Cn := RX7) (T := TX7) (N := 7) C tg_0 (by decide) rfl nX7_appeal_7 0 (by decide) rfl kX7_appeal_10 rfl dX7_appeal_51 1 rfl ?_
          obtain ⟨r13, M14, e15, hf⟩ := bd_of hf
          refine x_callVv (n := 1) (Cn := RX1) (T := TX1) (N := 2) (As := [.ref (ad 1)]) (rest := []) (maxL := 2) (ret := none) C (c_X1_record tg_1 e15) gX7_appeal_X1_record rfl (by decide +kernel) ⟨Nat.le_of_ble_eq_true rfl, Nat.le_of_ble_eq_true rfl⟩ tg_81 (by decide) rfl rfl rfl rfl (Nat.le_of_ble_eq_true rfl) dX7_appeal_54 ?_
          refine x_aload_n C dX7_appeal_57 rfl rfl ?_
          refine x_getr (Cn := RX7) (T := TX7) (N := 7) C tg_0 (by decide) rfl nX7_appeal_7 0 (by decide) rfl kX7_appeal_10 rfl dX7_appeal_58 1 rfl ?_
          refine x_aload_n C dX7_appeal_61 rfl rfl ?_
          refine x_iload_n C dX7_appeal_62 rfl rfl ?_
          obtain ⟨r16, M17, e18, hf⟩ := bd_of hf
          refine x_callV (n := 2) (Cn := RX6) (T := TX6) (N := 8) (As := [.ref (ad (17 + 2 * (a1).toNatClampNeg)), .int a2]) (rest := []) (maxL := 3) (ret := (some .boolean)) C (c_X6_reasonHolds tg_1 u11 e18) gX7_appeal_X6_reasonHolds rfl (by decide +kernel) ⟨Nat.le_of_ble_eq_true rfl, Nat.le_of_ble_eq_true rfl⟩ tg_1 (by decide) rfl rfl rfl rfl (Nat.le_of_ble_eq_true rfl) dX7_appeal_63 ?_
          refine x_istore (lv' := [some (.ref (ad 0)), some (.int a1), some (.int a2), some (.ref (ad (17 + 2 * (a1).toNatClampNeg))), some (.int r16)]) C dX7_appeal_66 (by decide) rfl ?_
          refine x_aload_n C dX7_appeal_68 rfl rfl ?_
          refine x_dup C dX7_appeal_69 rfl ?_
          refine x_geti (Cn := RX2) (T := TX2) (N := 9) C u11 (by decide) rfl nX7_appeal_2 7 (by decide) rfl kX7_appeal_163 rfl dX7_appeal_70 ?_
          refine x_iconst (v := (1 : Int32)) C dX7_appeal_73 (by decide) ?_
          refine x_iadd C dX7_appeal_74 ?_
          refine x_puti (ty := .int) (Cn := RX2) (T := TX2) (N := 9) C u11 (by decide) rfl nX7_appeal_2 tyX2 tyX2_ok nmX2 7 (by decide) rfl kX7_appeal_163 rfl rfl (by decide +kernel) rfl rfl dX7_appeal_75 ?_
          refine x_gen hf (fun M19 hf => ?_)
          refine x_iload C dX7_appeal_78 rfl ?_
          refine x_if_ne (tgt := 101) C dX7_appeal_80 (by decide) (fun q20 => ?_) (fun q20 => ?_)
          · have hf := ift q20 hf
            refine x_aload_n C dX7_appeal_83 rfl rfl ?_
            refine x_getr (Cn := RX7) (T := TX7) (N := 7) C tg_0 (by decide) rfl nX7_appeal_7 0 (by decide) rfl kX7_appeal_10 rfl dX7_appeal_84 1 rfl ?_
            refine x_dup C dX7_appeal_87 rfl ?_
            refine x_geti (Cn := RX6) (T := TX6) (N := 8) C tg_1 (by decide) rfl nX7_appeal_6 5 (by decide) rfl kX7_appeal_170 rfl dX7_appeal_88 ?_
            refine x_iconst (v := (1 : Int32)) C dX7_appeal_91 (by decide) ?_
            refine x_iadd C dX7_appeal_92 ?_
            refine x_puti (ty := .int) (Cn := RX6) (T := TX6) (N := 8) C tg_1 (by decide) rfl nX7_appeal_6 tyX6 tyX6_ok nmX6 5 (by decide) rfl kX7_appeal_170 rfl rfl (by decide +kernel) rfl rfl dX7_appeal_93 ?_
            refine x_gen hf (fun M21 hf => ?_)
            refine x_aload_n C dX7_appeal_96 rfl rfl ?_
            refine x_geti (Cn := RX2) (T := TX2) (N := 9) C u11 (by decide) rfl nX7_appeal_2 5 (by decide) rfl kX7_appeal_151 rfl dX7_appeal_97 ?_
            exact x_iret C hr hf dX7_appeal_100
          · have hf := iff_ q20 hf
            refine x_aload_n C dX7_appeal_101 rfl rfl ?_
            refine x_dup C dX7_appeal_102 rfl ?_
            refine x_geti (Cn := RX2) (T := TX2) (N := 9) C u11 (by decide) rfl nX7_appeal_2 5 (by decide) rfl kX7_appeal_151 rfl dX7_appeal_103 ?_
            refine x_iload_n C dX7_appeal_106 rfl rfl ?_
            refine x_iconst (v := (1 : Int32)) C dX7_appeal_107 (by decide) ?_
            refine x_iadd C dX7_appeal_108 ?_
            refine x_iadd C dX7_appeal_109 ?_
            refine x_puti (ty := .int) (Cn := RX2) (T := TX2) (N := 9) C u11 (by decide) rfl nX7_appeal_2 tyX2 tyX2_ok nmX2 5 (by decide) rfl kX7_appeal_151 rfl rfl (by decide +kernel) rfl rfl dX7_appeal_110 ?_
            refine x_gen hf (fun M22 hf => ?_)
            refine x_aload_n C dX7_appeal_113 rfl rfl ?_
            refine x_geti (Cn := RX2) (T := TX2) (N := 9) C u11 (by decide) rfl nX7_appeal_2 5 (by decide) rfl kX7_appeal_151 rfl dX7_appeal_114 ?_
            refine x_bipush (v := (100 : Int32)) C dX7_appeal_117 (by decide) ?_
            refine x_iadd C dX7_appeal_119 ?_
            exact x_iret C hr hf dX7_appeal_120
        · have hf := iff_ q12 hf
          refine x_bipush (v := (-3 : Int32)) C dX7_appeal_43 (by decide) ?_
          exact x_iret C hr hf dX7_appeal_45

theorem kX7_readLists_10 : Cond.fieldLink RX7 10 "FlatLottery" "state" "LFlatLottery$State;" ∈ wsX7_readLists := List.mem_of_getElem? (i := 2) rfl
theorem kX7_readLists_26 : Cond.fieldLink RX7 26 "FlatLottery" "history" "LFlatLottery$History;" ∈ wsX7_readLists := List.mem_of_getElem? (i := 3) rfl
theorem kX7_readLists_33 : Cond.fieldLink RX7 33 "FlatLottery" "text" "LFlatLottery$ListText;" ∈ wsX7_readLists := List.mem_of_getElem? (i := 1) rfl
theorem kX7_readLists_130 : Cond.fieldLink RX7 130 "FlatLottery$ListText" "listCount" "I" ∈ wsX7_readLists := List.mem_of_getElem? (i := 4) rfl
theorem nX7_readLists_3 : ∀ w ∈ u_ws RX3 TX3 7, w ∈ wsX7_readLists := in_r [110, 111, 112, 113, 114, 115, 116] (by decide +kernel)
theorem nX7_readLists_7 : ∀ w ∈ u_ws RX7 TX7 7, w ∈ wsX7_readLists := in_r [103, 104, 105, 106, 107, 108, 109] (by decide +kernel)
set_option maxHeartbeats 4000000 in
set_option maxRecDepth 100000 in
theorem c_X7_readLists  {M : Mem} {r : Int32} {M' : Mem}  (hf : f_X7_readLists  M = some (r, M')) : CnI yX7_readLists wsX7_readLists 5 (fun ad => [.ref (ad 0)]) M r M' := by
  unfold f_X7_readLists at hf
  refine x_metI (cc := cX7_readLists) (maxL := 2) RX7 rfl (by decide) rfl (fun ad => Nat.le_of_ble_eq_true rfl) (fun ad v hv => ?_) (fun p l e s m args below meth c D cs ad C hr => ?_)
  · simp only [List.mem_cons, List.not_mem_nil, or_false] at hv
    rcases hv with rfl <;> rfl
  · show V p l e (rmk 5) s m args below meth c 2 D cs ad (QI below s args D cs ad r M') 0 [some (.ref (ad 0)), none] [] M
    refine x_aload_n C dX7_readLists_0 rfl rfl ?_
    refine x_getr (Cn := RX7) (T := TX7) (N := 7) C tg_0 (by decide) rfl nX7_readLists_7 4 (by decide) rfl kX7_readLists_33 rfl dX7_readLists_1 243 rfl ?_
    obtain ⟨r1, M2, e3, hf⟩ := bd_of hf
    refine x_callV (n := 0) (Cn := RX3) (T := TX3) (N := 7) (As := []) (rest := []) (maxL := 1) (ret := (some .int)) C (c_X3_findFault  e3) gX7_readLists_X3_findFault rfl (by decide +kernel) ⟨Nat.le_of_ble_eq_true rfl, Nat.le_of_ble_eq_true rfl⟩ tg_243 (by decide) rfl rfl rfl rfl (Nat.le_of_ble_eq_true rfl) dX7_readLists_4 ?_
    refine x_istore_n (lv' := [some (.ref (ad 0)), some (.int r1)]) C dX7_readLists_7 rfl (by decide) rfl ?_
    refine x_iload_n C dX7_readLists_8 rfl rfl ?_
    refine x_bipush (v := (-5 : Int32)) C dX7_readLists_9 (by decide) ?_
    refine x_icmp_eq (tgt := 19) C dX7_readLists_11 (by decide) (fun q4 => ?_) (fun q4 => ?_)
    · have hf := ift q4 hf
      refine x_aload_n C dX7_readLists_19 rfl rfl ?_
      refine x_getr (Cn := RX7) (T := TX7) (N := 7) C tg_0 (by decide) rfl nX7_readLists_7 4 (by decide) rfl kX7_readLists_33 rfl dX7_readLists_20 243 rfl ?_
      refine x_aload_n C dX7_readLists_23 rfl rfl ?_
      refine x_getr (Cn := RX7) (T := TX7) (N := 7) C tg_0 (by decide) rfl nX7_readLists_7 0 (by decide) rfl kX7_readLists_10 rfl dX7_readLists_24 1 rfl ?_
      obtain ⟨r5, M6, e7, hf⟩ := bd_of hf
      refine x_callV (n := 1) (Cn := RX3) (T := TX3) (N := 7) (As := [.ref (ad 1)]) (rest := []) (maxL := 4) (ret := (some .boolean)) C (c_X3_namesOnlyKnown tg_1 e7) gX7_readLists_X3_namesOnlyKnown rfl (by decide +kernel) ⟨Nat.le_of_ble_eq_true rfl, Nat.le_of_ble_eq_true rfl⟩ tg_243 (by decide) rfl rfl rfl rfl (Nat.le_of_ble_eq_true rfl) dX7_readLists_27 ?_
      refine x_if_ne (tgt := 35) C dX7_readLists_30 (by decide) (fun q8 => ?_) (fun q8 => ?_)
      · have hf := ift q8 hf
        refine x_iconst (v := (-1 : Int32)) C dX7_readLists_33 (by decide) ?_
        exact x_iret C hr hf dX7_readLists_34
      · have hf := iff_ q8 hf
        refine x_aload_n C dX7_readLists_35 rfl rfl ?_
        refine x_getr (Cn := RX7) (T := TX7) (N := 7) C tg_0 (by decide) rfl nX7_readLists_7 4 (by decide) rfl kX7_readLists_33 rfl dX7_readLists_36 243 rfl ?_
        obtain ⟨r9, M10, e11, hf⟩ := bd_of hf
        refine x_callV (n := 0) (Cn := RX3) (T := TX3) (N := 7) (As := []) (rest := []) (maxL := 5) (ret := (some .boolean)) C (c_X3_hasFlatTwiceInList  e11) gX7_readLists_X3_hasFlatTwiceInList rfl (by decide +kernel) ⟨Nat.le_of_ble_eq_true rfl, Nat.le_of_ble_eq_true rfl⟩ tg_243 (by decide) rfl rfl rfl rfl (Nat.le_of_ble_eq_true rfl) dX7_readLists_39 ?_
        refine x_if_eq (tgt := 48) C dX7_readLists_42 (by decide) (fun q12 => ?_) (fun q12 => ?_)
        · have hf := ift q12 hf
          refine x_aload_n C dX7_readLists_48 rfl rfl ?_
          refine x_getr (Cn := RX7) (T := TX7) (N := 7) C tg_0 (by decide) rfl nX7_readLists_7 3 (by decide) rfl kX7_readLists_26 rfl dX7_readLists_49 81 rfl ?_
          refine x_aload_n C dX7_readLists_52 rfl rfl ?_
          refine x_getr (Cn := RX7) (T := TX7) (N := 7) C tg_0 (by decide) rfl nX7_readLists_7 0 (by decide) rfl kX7_readLists_10 rfl dX7_readLists_53 1 rfl ?_
          obtain ⟨r13, M14, e15, hf⟩ := bd_of hf
          refine x_callVv (n := 1) (Cn := RX1) (T := TX1) (N := 2) (As := [.ref (ad 1)]) (rest := []) (maxL := 2) (ret := none) C (c_X1_record tg_1 e15) gX7_readLists_X1_record rfl (by decide +kernel) ⟨Nat.le_of_ble_eq_true rfl, Nat.le_of_ble_eq_true rfl⟩ tg_81 (by decide) rfl rfl rfl rfl (Nat.le_of_ble_eq_true rfl) dX7_readLists_56 ?_
          refine x_aload_n C dX7_readLists_59 rfl rfl ?_
          refine x_getr (Cn := RX7) (T := TX7) (N := 7) C tg_0 (by decide) rfl nX7_readLists_7 4 (by decide) rfl kX7_readLists_33 rfl dX7_readLists_60 243 rfl ?_
          refine x_aload_n C dX7_readLists_63 rfl rfl ?_
          refine x_getr (Cn := RX7) (T := TX7) (N := 7) C tg_0 (by decide) rfl nX7_readLists_7 0 (by decide) rfl kX7_readLists_10 rfl dX7_readLists_64 1 rfl ?_
          obtain ⟨r16, M17, e18, hf⟩ := bd_of hf
          refine x_callVv (n := 1) (Cn := RX3) (T := TX3) (N := 7) (As := [.ref (ad 1)]) (rest := []) (maxL := 6) (ret := none) C (c_X3_layLists tg_1 e18) gX7_readLists_X3_layLists rfl (by decide +kernel) ⟨Nat.le_of_ble_eq_true rfl, Nat.le_of_ble_eq_true rfl⟩ tg_243 (by decide) rfl rfl rfl rfl (Nat.le_of_ble_eq_true rfl) dX7_readLists_67 ?_
          refine x_aload_n C dX7_readLists_70 rfl rfl ?_
          refine x_getr (Cn := RX7) (T := TX7) (N := 7) C tg_0 (by decide) rfl nX7_readLists_7 4 (by decide) rfl kX7_readLists_33 rfl dX7_readLists_71 243 rfl ?_
          refine x_geti (Cn := RX3) (T := TX3) (N := 7) C tg_243 (by decide) rfl nX7_readLists_3 2 (by decide) rfl kX7_readLists_130 rfl dX7_readLists_74 ?_
          exact x_iret C hr hf dX7_readLists_77
        · have hf := iff_ q12 hf
          refine x_bipush (v := (-2 : Int32)) C dX7_readLists_45 (by decide) ?_
          exact x_iret C hr hf dX7_readLists_47
    · have hf := iff_ q4 hf
      refine x_bipush (v := (-100 : Int32)) C dX7_readLists_14 (by decide) ?_
      refine x_iload_n C dX7_readLists_16 rfl rfl ?_
      refine x_isub C dX7_readLists_17 ?_
      exact x_iret C hr hf dX7_readLists_18

theorem kX7_swap_10 : Cond.fieldLink RX7 10 "FlatLottery" "state" "LFlatLottery$State;" ∈ wsX7_swap := List.mem_of_getElem? (i := 2) rfl
theorem kX7_swap_26 : Cond.fieldLink RX7 26 "FlatLottery" "history" "LFlatLottery$History;" ∈ wsX7_swap := List.mem_of_getElem? (i := 3) rfl
theorem kX7_swap_40 : Cond.fieldLink RX7 40 "FlatLottery" "rings" "LFlatLottery$Rings;" ∈ wsX7_swap := List.mem_of_getElem? (i := 1) rfl
theorem nX7_swap_7 : ∀ w ∈ u_ws RX7 TX7 7, w ∈ wsX7_swap := in_r [113, 114, 115, 116, 117, 118, 119] (by decide +kernel)
set_option maxHeartbeats 4000000 in
set_option maxRecDepth 100000 in
theorem c_X7_swap  {M : Mem} {r : Int32} {M' : Mem}  (hf : f_X7_swap  M = some (r, M')) : CnI yX7_swap wsX7_swap 5 (fun ad => [.ref (ad 0)]) M r M' := by
  unfold f_X7_swap at hf
  refine x_metI (cc := cX7_swap) (maxL := 1) RX7 rfl (by decide) rfl (fun ad => Nat.le_of_ble_eq_true rfl) (fun ad v hv => ?_) (fun p l e s m args below meth c D cs ad C hr => ?_)
  · simp only [List.mem_cons, List.not_mem_nil, or_false] at hv
    rcases hv with rfl <;> rfl
  · show V p l e (rmk 5) s m args below meth c 1 D cs ad (QI below s args D cs ad r M') 0 [some (.ref (ad 0))] [] M
    refine x_aload_n C dX7_swap_0 rfl rfl ?_
    refine x_getr (Cn := RX7) (T := TX7) (N := 7) C tg_0 (by decide) rfl nX7_swap_7 5 (by decide) rfl kX7_swap_40 rfl dX7_swap_1 248 rfl ?_
    refine x_aload_n C dX7_swap_4 rfl rfl ?_
    refine x_getr (Cn := RX7) (T := TX7) (N := 7) C tg_0 (by decide) rfl nX7_swap_7 0 (by decide) rfl kX7_swap_10 rfl dX7_swap_5 1 rfl ?_
    obtain ⟨r1, M2, e3, hf⟩ := bd_of hf
    refine x_callVv (n := 1) (Cn := RX5) (T := TX5) (N := 2) (As := [.ref (ad 1)]) (rest := []) (maxL := 3) (ret := none) C (c_X5_lookAt tg_1 e3) gX7_swap_X5_lookAt rfl (by decide +kernel) ⟨Nat.le_of_ble_eq_true rfl, Nat.le_of_ble_eq_true rfl⟩ tg_248 (by decide) rfl rfl rfl rfl (Nat.le_of_ble_eq_true rfl) dX7_swap_8 ?_
    refine x_aload_n C dX7_swap_11 rfl rfl ?_
    refine x_getr (Cn := RX7) (T := TX7) (N := 7) C tg_0 (by decide) rfl nX7_swap_7 5 (by decide) rfl kX7_swap_40 rfl dX7_swap_12 248 rfl ?_
    obtain ⟨r4, M5, e6, hf⟩ := bd_of hf
    refine x_callV (n := 0) (Cn := RX5) (T := TX5) (N := 2) (As := []) (rest := []) (maxL := 2) (ret := (some .int)) C (c_X5_lowestHousehold  e6) gX7_swap_X5_lowestHousehold rfl (by decide +kernel) ⟨Nat.le_of_ble_eq_true rfl, Nat.le_of_ble_eq_true rfl⟩ tg_248 (by decide) rfl rfl rfl rfl (Nat.le_of_ble_eq_true rfl) dX7_swap_15 ?_
    refine x_bipush (v := (-5 : Int32)) C dX7_swap_18 (by decide) ?_
    refine x_icmp_ne (tgt := 26) C dX7_swap_20 (by decide) (fun q7 => ?_) (fun q7 => ?_)
    · have hf := ift q7 hf
      refine x_bipush (v := (-5 : Int32)) C dX7_swap_23 (by decide) ?_
      exact x_iret C hr hf dX7_swap_25
    · have hf := iff_ q7 hf
      refine x_aload_n C dX7_swap_26 rfl rfl ?_
      refine x_getr (Cn := RX7) (T := TX7) (N := 7) C tg_0 (by decide) rfl nX7_swap_7 3 (by decide) rfl kX7_swap_26 rfl dX7_swap_27 81 rfl ?_
      refine x_aload_n C dX7_swap_30 rfl rfl ?_
      refine x_getr (Cn := RX7) (T := TX7) (N := 7) C tg_0 (by decide) rfl nX7_swap_7 0 (by decide) rfl kX7_swap_10 rfl dX7_swap_31 1 rfl ?_
      obtain ⟨r8, M9, e10, hf⟩ := bd_of hf
      refine x_callVv (n := 1) (Cn := RX1) (T := TX1) (N := 2) (As := [.ref (ad 1)]) (rest := []) (maxL := 2) (ret := none) C (c_X1_record tg_1 e10) gX7_swap_X1_record rfl (by decide +kernel) ⟨Nat.le_of_ble_eq_true rfl, Nat.le_of_ble_eq_true rfl⟩ tg_81 (by decide) rfl rfl rfl rfl (Nat.le_of_ble_eq_true rfl) dX7_swap_34 ?_
      refine x_aload_n C dX7_swap_37 rfl rfl ?_
      refine x_getr (Cn := RX7) (T := TX7) (N := 7) C tg_0 (by decide) rfl nX7_swap_7 5 (by decide) rfl kX7_swap_40 rfl dX7_swap_38 248 rfl ?_
      refine x_aload_n C dX7_swap_41 rfl rfl ?_
      refine x_getr (Cn := RX7) (T := TX7) (N := 7) C tg_0 (by decide) rfl nX7_swap_7 0 (by decide) rfl kX7_swap_10 rfl dX7_swap_42 1 rfl ?_
      obtain ⟨r11, M12, e13, hf⟩ := bd_of hf
      refine x_callV (n := 1) (Cn := RX5) (T := TX5) (N := 2) (As := [.ref (ad 1)]) (rest := []) (maxL := 5) (ret := (some .int)) C (c_X5_swapAll tg_1 e13) gX7_swap_X5_swapAll rfl (by decide +kernel) ⟨Nat.le_of_ble_eq_true rfl, Nat.le_of_ble_eq_true rfl⟩ tg_248 (by decide) rfl rfl rfl rfl (Nat.le_of_ble_eq_true rfl) dX7_swap_45 ?_
      exact x_iret C hr hf dX7_swap_48

