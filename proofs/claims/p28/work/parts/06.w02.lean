theorem kX5_lowestHousehold_21 : Cond.fieldLink RX5 21 "FlatLottery$Rings" "size" "I" ∈ wsX5_lowestHousehold := List.mem_of_getElem? (i := 1) rfl
theorem nX5_lowestHousehold_5 : ∀ w ∈ u_ws RX5 TX5 2, w ∈ wsX5_lowestHousehold := in_r [12, 13] (by decide +kernel)
set_option maxHeartbeats 4000000 in
set_option maxRecDepth 100000 in
theorem cl_X5_lowestHousehold_2 {p : Program} {l : Launch} {e : Env} {s : State} {m : MethodId} {args : Array Value} {below : List Frame} {meth : Method} {c : Code} {D : va_G} {cs : Nat → ClassId} {ad : Nat → Nat} (C : Cx p s m args meth c RX5 cX5_lowestHousehold 2 wsX5_lowestHousehold D cs ad) (hr : meth.sig.returnType = some .int)  {r : Int32} {M' : Mem}  : ∀ (n : Nat) (a1 : Int32) (M : Mem), l_X5_lowestHousehold_2 n a1 M = some (r, M') → V p l e (rmk 2) s m args below meth c 2 D cs ad (QI below s args D cs ad r M') 2 [some (.ref (ad 248)), some (.int a1)] [] M := by
  intro n
  induction n with
  | zero => intro a1 M hf; cases hf
  | succ n ih =>
    intro a1 M hf
    rw [l_X5_lowestHousehold_2_s] at hf
    refine x_iload_n C dX5_lowestHousehold_2 rfl rfl ?_
    refine x_aload_n C dX5_lowestHousehold_3 rfl rfl ?_
    refine x_geti (Cn := RX5) (T := TX5) (N := 2) C tg_248 (by decide) rfl nX5_lowestHousehold_5 1 (by decide) rfl kX5_lowestHousehold_21 rfl dX5_lowestHousehold_4 ?_
    refine x_icmp_ge (tgt := 26) C dX5_lowestHousehold_7 (by decide) (fun q1 => ?_) (fun q1 => ?_)
    · have hf := ift q1 hf
      refine x_bipush (v := (-5 : Int32)) C dX5_lowestHousehold_26 (by decide) ?_
      exact x_iret C hr hf dX5_lowestHousehold_28
    · have hf := iff_ q1 hf
      refine x_aload_n C dX5_lowestHousehold_10 rfl rfl ?_
      refine x_iload_n C dX5_lowestHousehold_11 rfl rfl ?_
      obtain ⟨r2, M3, e4, hf⟩ := bd_of hf
      refine x_callV (n := 1) (Cn := RX5) (T := TX5) (N := 2) (As := [.int a1]) (rest := []) (maxL := 4) (ret := (some .boolean)) C (c_X5_isInRing  e4) gX5_lowestHousehold_X5_isInRing rfl (by decide +kernel) ⟨Nat.le_of_ble_eq_true rfl, Nat.le_of_ble_eq_true rfl⟩ tg_248 (by decide) rfl rfl rfl rfl (Nat.le_of_ble_eq_true rfl) dX5_lowestHousehold_12 ?_
      refine x_if_eq (tgt := 20) C dX5_lowestHousehold_15 (by decide) (fun q5 => ?_) (fun q5 => ?_)
      · have hf := ift q5 hf
        refine x_iinc (d := (1 : Int32)) (v := (a1 + (1 : Int32))) (lv' := [some (.ref (ad 248)), some (.int (a1 + (1 : Int32)))]) C dX5_lowestHousehold_20 rfl (by decide) rfl (by decide) rfl ?_
        refine x_goto (tgt := 2) C dX5_lowestHousehold_23 (by decide) ?_
        exact x_weak (ih _ _ hf) [0, 1] rfl
      · have hf := iff_ q5 hf
        refine x_iload_n C dX5_lowestHousehold_18 rfl rfl ?_
        exact x_iret C hr hf dX5_lowestHousehold_19

set_option maxHeartbeats 4000000 in
set_option maxRecDepth 100000 in
theorem c_X5_lowestHousehold  {M : Mem} {r : Int32} {M' : Mem}  (hf : f_X5_lowestHousehold  M = some (r, M')) : CnI yX5_lowestHousehold wsX5_lowestHousehold 2 (fun ad => [.ref (ad 248)]) M r M' := by
  unfold f_X5_lowestHousehold at hf
  refine x_metI (cc := cX5_lowestHousehold) (maxL := 2) RX5 rfl (by decide) rfl (fun ad => Nat.le_of_ble_eq_true rfl) (fun ad v hv => ?_) (fun p l e s m args below meth c D cs ad C hr => ?_)
  · simp only [List.mem_cons, List.not_mem_nil, or_false] at hv
    rcases hv with rfl <;> rfl
  · show V p l e (rmk 2) s m args below meth c 2 D cs ad (QI below s args D cs ad r M') 0 [some (.ref (ad 248)), none] [] M
    refine x_iconst (v := (0 : Int32)) C dX5_lowestHousehold_0 (by decide) ?_
    refine x_istore_n (lv' := [some (.ref (ad 248)), some (.int (0 : Int32))]) C dX5_lowestHousehold_1 rfl (by decide) rfl ?_
    exact x_weak (cl_X5_lowestHousehold_2 C hr  _ _ _ hf) [0, 1] rfl

theorem kX6_eligibleFor_19 : Cond.fieldLink RX6 19 "FlatLottery$State" "households" "[LFlatLottery$Household;" ∈ wsX6_eligibleFor := List.mem_of_getElem? (i := 2) rfl
theorem kX6_eligibleFor_37 : Cond.fieldLink RX6 37 "FlatLottery$State" "householdCount" "I" ∈ wsX6_eligibleFor := List.mem_of_getElem? (i := 1) rfl
theorem nX6_eligibleFor_6 : ∀ w ∈ u_ws RX6 TX6 8, w ∈ wsX6_eligibleFor := in_r [23, 24, 25, 26, 27, 28, 29, 30] (by decide +kernel)
set_option maxHeartbeats 4000000 in
set_option maxRecDepth 100000 in
theorem cl_X6_eligibleFor_4 {p : Program} {l : Launch} {e : Env} {s : State} {m : MethodId} {args : Array Value} {below : List Frame} {meth : Method} {c : Code} {D : va_G} {cs : Nat → ClassId} {ad : Nat → Nat} (C : Cx p s m args meth c RX6 cX6_eligibleFor 4 wsX6_eligibleFor D cs ad) (hr : meth.sig.returnType = some .int) {a0 : Nat} {a1 : Int32} {r : Int32} {M' : Mem} (t0 : tg a0 = 6) : ∀ (n : Nat) (a2 : Int32) (a3 : Int32) (M : Mem), l_X6_eligibleFor_4 a0 a1 n a2 a3 M = some (r, M') → V p l e (rmk 2) s m args below meth c 4 D cs ad (QI below s args D cs ad r M') 4 [some (.ref (ad a0)), some (.int a1), some (.int a2), some (.int a3)] [] M := by
  intro n
  induction n with
  | zero => intro a2 a3 M hf; cases hf
  | succ n ih =>
    intro a2 a3 M hf
    rw [l_X6_eligibleFor_4_s] at hf
    refine x_iload_n C dX6_eligibleFor_4 rfl rfl ?_
    refine x_aload_n C dX6_eligibleFor_5 rfl rfl ?_
    refine x_geti (Cn := RX6) (T := TX6) (N := 8) C t0 (by decide) rfl nX6_eligibleFor_6 3 (by decide) rfl kX6_eligibleFor_37 rfl dX6_eligibleFor_6 ?_
    refine x_icmp_ge (tgt := 38) C dX6_eligibleFor_9 (by decide) (fun q1 => ?_) (fun q1 => ?_)
    · have hf := ift q1 hf
      refine x_iload_n C dX6_eligibleFor_38 rfl rfl ?_
      exact x_iret C hr hf dX6_eligibleFor_39
    · have hf := iff_ q1 hf
      refine x_aload_n C dX6_eligibleFor_12 rfl rfl ?_
      refine x_aload_n C dX6_eligibleFor_13 rfl rfl ?_
      refine x_getr (Cn := RX6) (T := TX6) (N := 8) C t0 (by decide) rfl nX6_eligibleFor_6 1 (by decide) rfl kX6_eligibleFor_19 rfl dX6_eligibleFor_14 (a0 + 2) rfl ?_
      refine x_iload_n C dX6_eligibleFor_17 rfl rfl ?_
      obtain ⟨g2, hf⟩ := ck_of hf
      have w3 : (a0 + 2) + 14 + 2 * (a3).toNatClampNeg = (a0 + 16 + 2 * (a3).toNatClampNeg) := by omega
      have u4 : tg (a0 + 16 + 2 * (a3).toNatClampNeg) = 2 := te_H (x := a3) (tf_6_1 t0) g2 w3
      refine x_aaldH (j := (a3).toNatClampNeg) C (tf_6_1 t0) (tl_6_1 t0) g2 rfl dX6_eligibleFor_18 (a0 + 16 + 2 * (a3).toNatClampNeg) w3 ?_
      refine x_iload_n C dX6_eligibleFor_19 rfl rfl ?_
      obtain ⟨r5, M6, e7, hf⟩ := bd_of hf
      refine x_callV (n := 2) (Cn := RX6) (T := TX6) (N := 8) (As := [.ref (ad (a0 + 16 + 2 * (a3).toNatClampNeg)), .int a1]) (rest := []) (maxL := 3) (ret := (some .boolean)) C (c_X6_isEligible t0 u4 e7) gX6_eligibleFor_X6_isEligible rfl (by decide +kernel) ⟨Nat.le_of_ble_eq_true rfl, Nat.le_of_ble_eq_true rfl⟩ t0 (by decide) rfl rfl rfl rfl (Nat.le_of_ble_eq_true rfl) dX6_eligibleFor_20 ?_
      refine x_if_eq (tgt := 32) C dX6_eligibleFor_23 (by decide) (fun q8 => ?_) (fun q8 => ?_)
      · have hf := ift q8 hf
        refine x_iinc (d := (1 : Int32)) (v := (a3 + (1 : Int32))) (lv' := [some (.ref (ad a0)), some (.int a1), some (.int a2), some (.int (a3 + (1 : Int32)))]) C dX6_eligibleFor_32 rfl (by decide) rfl (by decide) rfl ?_
        refine x_goto (tgt := 4) C dX6_eligibleFor_35 (by decide) ?_
        exact x_weak (ih _ _ _ hf) [0, 1, 2, 3] rfl
      · have hf := iff_ q8 hf
        refine x_iload_n C dX6_eligibleFor_26 rfl rfl ?_
        refine x_iconst (v := (1 : Int32)) C dX6_eligibleFor_27 (by decide) ?_
        refine x_iload_n C dX6_eligibleFor_28 rfl rfl ?_
        refine x_ishl C dX6_eligibleFor_29 ?_
        refine x_ior C dX6_eligibleFor_30 ?_
        refine x_istore_n (lv' := [some (.ref (ad a0)), some (.int a1), some (.int (a2 ||| ((1 : Int32) <<< (a3 &&& (31 : Int32))))), some (.int a3)]) C dX6_eligibleFor_31 rfl (by decide) rfl ?_
        refine x_iinc (d := (1 : Int32)) (v := (a3 + (1 : Int32))) (lv' := [some (.ref (ad a0)), some (.int a1), some (.int (a2 ||| ((1 : Int32) <<< (a3 &&& (31 : Int32))))), some (.int (a3 + (1 : Int32)))]) C dX6_eligibleFor_32 rfl (by decide) rfl (by decide) rfl ?_
        refine x_goto (tgt := 4) C dX6_eligibleFor_35 (by decide) ?_
        exact x_weak (ih _ _ _ hf) [0, 1, 2, 3] rfl

set_option maxHeartbeats 4000000 in
set_option maxRecDepth 100000 in
theorem c_X6_eligibleFor {a0 : Nat} {a1 : Int32} {M : Mem} {r : Int32} {M' : Mem} (t0 : tg a0 = 6) (hf : f_X6_eligibleFor a0 a1 M = some (r, M')) : CnI yX6_eligibleFor wsX6_eligibleFor 2 (fun ad => [.ref (ad a0), .int a1]) M r M' := by
  unfold f_X6_eligibleFor at hf
  refine x_metI (cc := cX6_eligibleFor) (maxL := 4) RX6 rfl (by decide) rfl (fun ad => Nat.le_of_ble_eq_true rfl) (fun ad v hv => ?_) (fun p l e s m args below meth c D cs ad C hr => ?_)
  · simp only [List.mem_cons, List.not_mem_nil, or_false] at hv
    rcases hv with rfl | rfl <;> rfl
  · show V p l e (rmk 2) s m args below meth c 4 D cs ad (QI below s args D cs ad r M') 0 [some (.ref (ad a0)), some (.int a1), none, none] [] M
    refine x_iconst (v := (0 : Int32)) C dX6_eligibleFor_0 (by decide) ?_
    refine x_istore_n (lv' := [some (.ref (ad a0)), some (.int a1), some (.int (0 : Int32)), none]) C dX6_eligibleFor_1 rfl (by decide) rfl ?_
    refine x_iconst (v := (0 : Int32)) C dX6_eligibleFor_2 (by decide) ?_
    refine x_istore_n (lv' := [some (.ref (ad a0)), some (.int a1), some (.int (0 : Int32)), some (.int (0 : Int32))]) C dX6_eligibleFor_3 rfl (by decide) rfl ?_
    exact x_weak (cl_X6_eligibleFor_4 C hr t0 _ _ _ _ hf) [0, 1, 2, 3] rfl

theorem kX6_envyOf_52 : Cond.fieldLink RX6 52 "FlatLottery$Household" "held" "I" ∈ wsX6_envyOf := List.mem_of_getElem? (i := 1) rfl
theorem nX6_envyOf_2 : ∀ w ∈ u_ws RX2 TX2 9, w ∈ wsX6_envyOf := in_r [39, 40, 41, 42, 43, 44, 45, 46, 47] (by decide +kernel)
set_option maxHeartbeats 4000000 in
set_option maxRecDepth 100000 in
theorem c_X6_envyOf {a0 : Nat} {a1 : Nat} {a2 : Nat} {M : Mem} {r : Int32} {M' : Mem} (t0 : tg a0 = 6) (t1 : tg a1 = 2) (t2 : tg a2 = 2) (hf : f_X6_envyOf a0 a1 a2 M = some (r, M')) : CnI yX6_envyOf wsX6_envyOf 2 (fun ad => [.ref (ad a0), .ref (ad a1), .ref (ad a2)]) M r M' := by
  unfold f_X6_envyOf at hf
  refine x_metI (cc := cX6_envyOf) (maxL := 4) RX6 rfl (by decide) rfl (fun ad => Nat.le_of_ble_eq_true rfl) (fun ad v hv => ?_) (fun p l e s m args below meth c D cs ad C hr => ?_)
  · simp only [List.mem_cons, List.not_mem_nil, or_false] at hv
    rcases hv with rfl | rfl | rfl <;> rfl
  · show V p l e (rmk 2) s m args below meth c 4 D cs ad (QI below s args D cs ad r M') 0 [some (.ref (ad a0)), some (.ref (ad a1)), some (.ref (ad a2)), none] [] M
    refine x_aload_n C dX6_envyOf_0 rfl rfl ?_
    refine x_geti (Cn := RX2) (T := TX2) (N := 9) C t2 (by decide) rfl nX6_envyOf_2 6 (by decide) rfl kX6_envyOf_52 rfl dX6_envyOf_1 ?_
    refine x_istore_n (lv' := [some (.ref (ad a0)), some (.ref (ad a1)), some (.ref (ad a2)), some (.int (M a2 6))]) C dX6_envyOf_4 rfl (by decide) rfl ?_
    refine x_aload_n C dX6_envyOf_5 rfl rfl ?_
    refine x_iload_n C dX6_envyOf_6 rfl rfl ?_
    obtain ⟨r1, M2, e3, hf⟩ := bd_of hf
    refine x_callV (n := 1) (Cn := RX2) (T := TX2) (N := 9) (As := [.int (M a2 6)]) (rest := []) (maxL := 4) (ret := (some .boolean)) C (c_X2_wishesMoreThanItsOwn t1 e3) gX6_envyOf_X2_wishesMoreThanItsOwn rfl (by decide +kernel) ⟨Nat.le_of_ble_eq_true rfl, Nat.le_of_ble_eq_true rfl⟩ t1 (by decide) rfl rfl rfl rfl (Nat.le_of_ble_eq_true rfl) dX6_envyOf_7 ?_
    refine x_if_eq (tgt := 22) C dX6_envyOf_10 (by decide) (fun q4 => ?_) (fun q4 => ?_)
    · have hf := ift q4 hf
      refine x_iconst (v := (0 : Int32)) C dX6_envyOf_22 (by decide) ?_
      exact x_iret C hr hf dX6_envyOf_23
    · have hf := iff_ q4 hf
      refine x_aload_n C dX6_envyOf_13 rfl rfl ?_
      refine x_aload_n C dX6_envyOf_14 rfl rfl ?_
      refine x_iload_n C dX6_envyOf_15 rfl rfl ?_
      obtain ⟨r5, M6, e7, hf⟩ := bd_of hf
      refine x_callV (n := 2) (Cn := RX6) (T := TX6) (N := 8) (As := [.ref (ad a1), .int (M a2 6)]) (rest := []) (maxL := 3) (ret := (some .boolean)) C (c_X6_isEligible t0 t1 e7) gX6_envyOf_X6_isEligible rfl (by decide +kernel) ⟨Nat.le_of_ble_eq_true rfl, Nat.le_of_ble_eq_true rfl⟩ t0 (by decide) rfl rfl rfl rfl (Nat.le_of_ble_eq_true rfl) dX6_envyOf_16 ?_
      refine x_if_ne (tgt := 24) C dX6_envyOf_19 (by decide) (fun q8 => ?_) (fun q8 => ?_)
      · have hf := ift q8 hf
        refine x_iconst (v := (0 : Int32)) C dX6_envyOf_22 (by decide) ?_
        exact x_iret C hr hf dX6_envyOf_23
      · have hf := iff_ q8 hf
        refine x_aload_n C dX6_envyOf_24 rfl rfl ?_
        refine x_aload_n C dX6_envyOf_25 rfl rfl ?_
        obtain ⟨r9, M10, e11, hf⟩ := bd_of hf
        refine x_callV (n := 1) (Cn := RX2) (T := TX2) (N := 9) (As := [.ref (ad a2)]) (rest := []) (maxL := 2) (ret := (some .boolean)) C (c_X2_standsAheadOf t1 t2 e11) gX6_envyOf_X2_standsAheadOf rfl (by decide +kernel) ⟨Nat.le_of_ble_eq_true rfl, Nat.le_of_ble_eq_true rfl⟩ t1 (by decide) rfl rfl rfl rfl (Nat.le_of_ble_eq_true rfl) dX6_envyOf_26 ?_
        refine x_if_eq (tgt := 36) C dX6_envyOf_29 (by decide) (fun q12 => ?_) (fun q12 => ?_)
        · have hf := ift q12 hf
          refine x_iconst (v := (1 : Int32)) C dX6_envyOf_36 (by decide) ?_
          exact x_iret C hr hf dX6_envyOf_37
        · have hf := iff_ q12 hf
          refine x_iconst (v := (2 : Int32)) C dX6_envyOf_32 (by decide) ?_
          refine x_goto (tgt := 37) C dX6_envyOf_33 (by decide) ?_
          exact x_iret C hr hf dX6_envyOf_37

theorem kX6_firstWishOutside_99 : Cond.fieldLink RX6 99 "FlatLottery$Household" "wishCount" "I" ∈ wsX6_firstWishOutside := List.mem_of_getElem? (i := 1) rfl
theorem kX6_firstWishOutside_102 : Cond.fieldLink RX6 102 "FlatLottery$Household" "wishes" "[I" ∈ wsX6_firstWishOutside := List.mem_of_getElem? (i := 2) rfl
theorem nX6_firstWishOutside_2 : ∀ w ∈ u_ws RX2 TX2 9, w ∈ wsX6_firstWishOutside := in_r [23, 24, 25, 26, 27, 28, 29, 30, 31] (by decide +kernel)
set_option maxHeartbeats 4000000 in
set_option maxRecDepth 100000 in
theorem cl_X6_firstWishOutside_2 {p : Program} {l : Launch} {e : Env} {s : State} {m : MethodId} {args : Array Value} {below : List Frame} {meth : Method} {c : Code} {D : va_G} {cs : Nat → ClassId} {ad : Nat → Nat} (C : Cx p s m args meth c RX6 cX6_firstWishOutside 5 wsX6_firstWishOutside D cs ad) (hr : meth.sig.returnType = some .int) {a0 : Nat} {a1 : Int32} {a2 : Nat} {r : Int32} {M' : Mem} (t0 : tg a0 = 6) (t2 : tg a2 = 2) : ∀ (n : Nat) (a3 : Int32) (M : Mem), l_X6_firstWishOutside_2 a0 a1 a2 n a3 M = some (r, M') → V p l e (rmk 2) s m args below meth c 5 D cs ad (QI below s args D cs ad r M') 2 [some (.ref (ad a0)), some (.int a1), some (.ref (ad a2)), some (.int a3), none] [] M := by
  intro n
  induction n with
  | zero => intro a3 M hf; cases hf
  | succ n ih =>
    intro a3 M hf
    rw [l_X6_firstWishOutside_2_s] at hf
    refine x_iload_n C dX6_firstWishOutside_2 rfl rfl ?_
    refine x_aload_n C dX6_firstWishOutside_3 rfl rfl ?_
    refine x_geti (Cn := RX2) (T := TX2) (N := 9) C t2 (by decide) rfl nX6_firstWishOutside_2 1 (by decide) rfl kX6_firstWishOutside_99 rfl dX6_firstWishOutside_4 ?_
    refine x_icmp_ge (tgt := 46) C dX6_firstWishOutside_7 (by decide) (fun q1 => ?_) (fun q1 => ?_)
    · have hf := ift q1 hf
      refine x_bipush (v := (-5 : Int32)) C dX6_firstWishOutside_46 (by decide) ?_
      exact x_iret C hr hf dX6_firstWishOutside_48
    · have hf := iff_ q1 hf
      refine x_aload_n C dX6_firstWishOutside_10 rfl rfl ?_
      refine x_getr (Cn := RX2) (T := TX2) (N := 9) C t2 (by decide) rfl nX6_firstWishOutside_2 0 (by decide) rfl kX6_firstWishOutside_102 rfl dX6_firstWishOutside_11 (a2 + 1) rfl ?_
      refine x_iload_n C dX6_firstWishOutside_14 rfl rfl ?_
      obtain ⟨g2, hf⟩ := ck_of hf
      refine x_iald (j := (a3).toNatClampNeg) C (tf_2_0 t2) (tl_2_0 t2) g2 rfl dX6_firstWishOutside_15 ?_
      refine x_istore (lv' := [some (.ref (ad a0)), some (.int a1), some (.ref (ad a2)), some (.int a3), some (.int (M (a2 + 1) (a3).toNatClampNeg))]) C dX6_firstWishOutside_16 (by decide) rfl ?_
      refine x_iload_n C dX6_firstWishOutside_18 rfl rfl ?_
      refine x_iload C dX6_firstWishOutside_19 rfl ?_
      refine x_ishr C dX6_firstWishOutside_21 ?_
      refine x_iconst (v := (1 : Int32)) C dX6_firstWishOutside_22 (by decide) ?_
      refine x_iand C dX6_firstWishOutside_23 ?_
      refine x_if_ne (tgt := 40) C dX6_firstWishOutside_24 (by decide) (fun q3 => ?_) (fun q3 => ?_)
      · have hf := ift q3 hf
        refine x_aload_n C dX6_firstWishOutside_27 rfl rfl ?_
        refine x_aload_n C dX6_firstWishOutside_28 rfl rfl ?_
        refine x_iload C dX6_firstWishOutside_29 rfl ?_
        obtain ⟨r4, M5, e6, hf⟩ := bd_of hf
        refine x_callV (n := 2) (Cn := RX6) (T := TX6) (N := 8) (As := [.ref (ad a2), .int (M (a2 + 1) (a3).toNatClampNeg)]) (rest := []) (maxL := 3) (ret := (some .boolean)) C (c_X6_isEligible t0 t2 e6) gX6_firstWishOutside_X6_isEligible rfl (by decide +kernel) ⟨Nat.le_of_ble_eq_true rfl, Nat.le_of_ble_eq_true rfl⟩ t0 (by decide) rfl rfl rfl rfl (Nat.le_of_ble_eq_true rfl) dX6_firstWishOutside_31 ?_
        refine x_if_eq (tgt := 40) C dX6_firstWishOutside_34 (by decide) (fun q7 => ?_) (fun q7 => ?_)
        · have hf := ift q7 hf
          refine x_iinc (d := (1 : Int32)) (v := (a3 + (1 : Int32))) (lv' := [some (.ref (ad a0)), some (.int a1), some (.ref (ad a2)), some (.int (a3 + (1 : Int32))), some (.int (M (a2 + 1) (a3).toNatClampNeg))]) C dX6_firstWishOutside_40 rfl (by decide) rfl (by decide) rfl ?_
          refine x_goto (tgt := 2) C dX6_firstWishOutside_43 (by decide) ?_
          exact x_weak (ih _ _ hf) [0, 1, 2, 3] rfl
        · have hf := iff_ q7 hf
          refine x_iload C dX6_firstWishOutside_37 rfl ?_
          exact x_iret C hr hf dX6_firstWishOutside_39
      · have hf := iff_ q3 hf
        refine x_iinc (d := (1 : Int32)) (v := (a3 + (1 : Int32))) (lv' := [some (.ref (ad a0)), some (.int a1), some (.ref (ad a2)), some (.int (a3 + (1 : Int32))), some (.int (M (a2 + 1) (a3).toNatClampNeg))]) C dX6_firstWishOutside_40 rfl (by decide) rfl (by decide) rfl ?_
        refine x_goto (tgt := 2) C dX6_firstWishOutside_43 (by decide) ?_
        exact x_weak (ih _ _ hf) [0, 1, 2, 3] rfl

set_option maxHeartbeats 4000000 in
set_option maxRecDepth 100000 in
theorem c_X6_firstWishOutside {a0 : Nat} {a1 : Int32} {a2 : Nat} {M : Mem} {r : Int32} {M' : Mem} (t0 : tg a0 = 6) (t2 : tg a2 = 2) (hf : f_X6_firstWishOutside a0 a1 a2 M = some (r, M')) : CnI yX6_firstWishOutside wsX6_firstWishOutside 2 (fun ad => [.ref (ad a0), .int a1, .ref (ad a2)]) M r M' := by
  unfold f_X6_firstWishOutside at hf
  refine x_metI (cc := cX6_firstWishOutside) (maxL := 5) RX6 rfl (by decide) rfl (fun ad => Nat.le_of_ble_eq_true rfl) (fun ad v hv => ?_) (fun p l e s m args below meth c D cs ad C hr => ?_)
  · simp only [List.mem_cons, List.not_mem_nil, or_false] at hv
    rcases hv with rfl | rfl | rfl <;> rfl
  · show V p l e (rmk 2) s m args below meth c 5 D cs ad (QI below s args D cs ad r M') 0 [some (.ref (ad a0)), some (.int a1), some (.ref (ad a2)), none, none] [] M
    refine x_iconst (v := (0 : Int32)) C dX6_firstWishOutside_0 (by decide) ?_
    refine x_istore_n (lv' := [some (.ref (ad a0)), some (.int a1), some (.ref (ad a2)), some (.int (0 : Int32)), none]) C dX6_firstWishOutside_1 rfl (by decide) rfl ?_
    exact x_weak (cl_X6_firstWishOutside_2 C hr t0 t2 _ _ _ hf) [0, 1, 2, 3] rfl

theorem kX6_lineUp_19 : Cond.fieldLink RX6 19 "FlatLottery$State" "households" "[LFlatLottery$Household;" ∈ wsX6_lineUp := List.mem_of_getElem? (i := 2) rfl
theorem kX6_lineUp_23 : Cond.fieldLink RX6 23 "FlatLottery$State" "order" "[I" ∈ wsX6_lineUp := List.mem_of_getElem? (i := 3) rfl
theorem kX6_lineUp_37 : Cond.fieldLink RX6 37 "FlatLottery$State" "householdCount" "I" ∈ wsX6_lineUp := List.mem_of_getElem? (i := 1) rfl
theorem nX6_lineUp_6 : ∀ w ∈ u_ws RX6 TX6 8, w ∈ wsX6_lineUp := in_r [17, 18, 19, 20, 21, 22, 23, 24] (by decide +kernel)
set_option maxHeartbeats 4000000 in
set_option maxRecDepth 100000 in
theorem cl_X6_lineUp_4 {p : Program} {l : Launch} {e : Env} {s : State} {m : MethodId} {args : Array Value} {below : List Frame} {meth : Method} {c : Code} {D : va_G} {cs : Nat → ClassId} {ad : Nat → Nat} (C : Cx p s m args meth c RX6 cX6_lineUp 4 wsX6_lineUp D cs ad) (hr : meth.sig.returnType = some .int) {a0 : Nat} {r : Int32} {M' : Mem} (t0 : tg a0 = 6) : ∀ (n : Nat) (a1 : Int32) (a2 : Int32) (M : Mem), l_X6_lineUp_4 a0 n a1 a2 M = some (r, M') → V p l e (rmk 2) s m args below meth c 4 D cs ad (QI below s args D cs ad r M') 4 [some (.ref (ad a0)), some (.int a1), some (.int a2), none] [] M := by
  intro n
  induction n with
  | zero => intro a1 a2 M hf; cases hf
  | succ n ih =>
    intro a1 a2 M hf
    rw [l_X6_lineUp_4_s] at hf
    refine x_iload_n C dX6_lineUp_4 rfl rfl ?_
    refine x_aload_n C dX6_lineUp_5 rfl rfl ?_
    refine x_geti (Cn := RX6) (T := TX6) (N := 8) C t0 (by decide) rfl nX6_lineUp_6 3 (by decide) rfl kX6_lineUp_37 rfl dX6_lineUp_6 ?_
    refine x_icmp_ge (tgt := 49) C dX6_lineUp_9 (by decide) (fun q1 => ?_) (fun q1 => ?_)
    · have hf := ift q1 hf
      refine x_iload_n C dX6_lineUp_49 rfl rfl ?_
      exact x_iret C hr hf dX6_lineUp_50
    · have hf := iff_ q1 hf
      refine x_aload_n C dX6_lineUp_12 rfl rfl ?_
      refine x_aload_n C dX6_lineUp_13 rfl rfl ?_
      refine x_getr (Cn := RX6) (T := TX6) (N := 8) C t0 (by decide) rfl nX6_lineUp_6 1 (by decide) rfl kX6_lineUp_19 rfl dX6_lineUp_14 (a0 + 2) rfl ?_
      refine x_iload_n C dX6_lineUp_17 rfl rfl ?_
      obtain ⟨g2, hf⟩ := ck_of hf
      have w3 : (a0 + 2) + 14 + 2 * (a2).toNatClampNeg = (a0 + 16 + 2 * (a2).toNatClampNeg) := by omega
      have u4 : tg (a0 + 16 + 2 * (a2).toNatClampNeg) = 2 := te_H (x := a2) (tf_6_1 t0) g2 w3
      refine x_aaldH (j := (a2).toNatClampNeg) C (tf_6_1 t0) (tl_6_1 t0) g2 rfl dX6_lineUp_18 (a0 + 16 + 2 * (a2).toNatClampNeg) w3 ?_
      obtain ⟨r5, M6, e7, hf⟩ := bd_of hf
      refine x_callV (n := 1) (Cn := RX6) (T := TX6) (N := 8) (As := [.ref (ad (a0 + 16 + 2 * (a2).toNatClampNeg))]) (rest := []) (maxL := 4) (ret := (some .int)) C (c_X6_placeInOrder t0 u4 e7) gX6_lineUp_X6_placeInOrder rfl (by decide +kernel) ⟨Nat.le_of_ble_eq_true rfl, Nat.le_of_ble_eq_true rfl⟩ t0 (by decide) rfl rfl rfl rfl (Nat.le_of_ble_eq_true rfl) dX6_lineUp_19 ?_
      refine x_istore_n (lv' := [some (.ref (ad a0)), some (.int a1), some (.int a2), some (.int r5)]) C dX6_lineUp_22 rfl (by decide) rfl ?_
      refine x_iload_n C dX6_lineUp_23 rfl rfl ?_
      refine x_if_lt (tgt := 43) C dX6_lineUp_24 (by decide) (fun q8 => ?_) (fun q8 => ?_)
      · have hf := ift q8 hf
        refine x_iinc (d := (1 : Int32)) (v := (a2 + (1 : Int32))) (lv' := [some (.ref (ad a0)), some (.int a1), some (.int (a2 + (1 : Int32))), some (.int r5)]) C dX6_lineUp_43 rfl (by decide) rfl (by decide) rfl ?_
        refine x_goto (tgt := 4) C dX6_lineUp_46 (by decide) ?_
        exact x_weak (ih _ _ _ hf) [0, 1, 2] rfl
      · have hf := iff_ q8 hf
        refine x_iload_n C dX6_lineUp_27 rfl rfl ?_
        refine x_bipush (v := (12 : Int32)) C dX6_lineUp_28 (by decide) ?_
        refine x_icmp_ge (tgt := 43) C dX6_lineUp_30 (by decide) (fun q9 => ?_) (fun q9 => ?_)
        · have hf := ift q9 hf
          refine x_iinc (d := (1 : Int32)) (v := (a2 + (1 : Int32))) (lv' := [some (.ref (ad a0)), some (.int a1), some (.int (a2 + (1 : Int32))), some (.int r5)]) C dX6_lineUp_43 rfl (by decide) rfl (by decide) rfl ?_
          refine x_goto (tgt := 4) C dX6_lineUp_46 (by decide) ?_
          exact x_weak (ih _ _ _ hf) [0, 1, 2] rfl
        · have hf := iff_ q9 hf
          refine x_aload_n C dX6_lineUp_33 rfl rfl ?_
          refine x_getr (Cn := RX6) (T := TX6) (N := 8) C t0 (by decide) rfl nX6_lineUp_6 7 (by decide) rfl kX6_lineUp_23 rfl dX6_lineUp_34 (a0 + 3) rfl ?_
          refine x_iload_n C dX6_lineUp_37 rfl rfl ?_
          refine x_iload_n C dX6_lineUp_38 rfl rfl ?_
          obtain ⟨g10, hf⟩ := ck_of hf
          refine x_iast (j := (r5).toNatClampNeg) C (tf_6_7 t0) (tl_6_7 t0) g10 rfl dX6_lineUp_39 ?_
          refine x_gen hf (fun M11 hf => ?_)
          refine x_iinc (d := (1 : Int32)) (v := (a1 + (1 : Int32))) (lv' := [some (.ref (ad a0)), some (.int (a1 + (1 : Int32))), some (.int a2), some (.int r5)]) C dX6_lineUp_40 rfl (by decide) rfl (by decide) rfl ?_
          refine x_iinc (d := (1 : Int32)) (v := (a2 + (1 : Int32))) (lv' := [some (.ref (ad a0)), some (.int (a1 + (1 : Int32))), some (.int (a2 + (1 : Int32))), some (.int r5)]) C dX6_lineUp_43 rfl (by decide) rfl (by decide) rfl ?_
          refine x_goto (tgt := 4) C dX6_lineUp_46 (by decide) ?_
          exact x_weak (ih _ _ _ hf) [0, 1, 2] rfl

set_option maxHeartbeats 4000000 in
set_option maxRecDepth 100000 in
theorem c_X6_lineUp {a0 : Nat} {M : Mem} {r : Int32} {M' : Mem} (t0 : tg a0 = 6) (hf : f_X6_lineUp a0 M = some (r, M')) : CnI yX6_lineUp wsX6_lineUp 2 (fun ad => [.ref (ad a0)]) M r M' := by
  unfold f_X6_lineUp at hf
  refine x_metI (cc := cX6_lineUp) (maxL := 4) RX6 rfl (by decide) rfl (fun ad => Nat.le_of_ble_eq_true rfl) (fun ad v hv => ?_) (fun p l e s m args below meth c D cs ad C hr => ?_)
  · simp only [List.mem_cons, List.not_mem_nil, or_false] at hv
    rcases hv with rfl <;> rfl
  · show V p l e (rmk 2) s m args below meth c 4 D cs ad (QI below s args D cs ad r M') 0 [some (.ref (ad a0)), none, none, none] [] M
    refine x_iconst (v := (0 : Int32)) C dX6_lineUp_0 (by decide) ?_
    refine x_istore_n (lv' := [some (.ref (ad a0)), some (.int (0 : Int32)), none, none]) C dX6_lineUp_1 rfl (by decide) rfl ?_
    refine x_iconst (v := (0 : Int32)) C dX6_lineUp_2 (by decide) ?_
    refine x_istore_n (lv' := [some (.ref (ad a0)), some (.int (0 : Int32)), some (.int (0 : Int32)), none]) C dX6_lineUp_3 rfl (by decide) rfl ?_
    exact x_weak (cl_X6_lineUp_4 C hr t0 _ _ _ _ hf) [0, 1, 2] rfl

theorem kX6_pointsTo_52 : Cond.fieldLink RX6 52 "FlatLottery$Household" "held" "I" ∈ wsX6_pointsTo := List.mem_of_getElem? (i := 1) rfl
theorem kX6_pointsTo_99 : Cond.fieldLink RX6 99 "FlatLottery$Household" "wishCount" "I" ∈ wsX6_pointsTo := List.mem_of_getElem? (i := 2) rfl
theorem kX6_pointsTo_102 : Cond.fieldLink RX6 102 "FlatLottery$Household" "wishes" "[I" ∈ wsX6_pointsTo := List.mem_of_getElem? (i := 3) rfl
theorem nX6_pointsTo_2 : ∀ w ∈ u_ws RX2 TX2 9, w ∈ wsX6_pointsTo := in_r [41, 42, 43, 44, 45, 46, 47, 48, 49] (by decide +kernel)
set_option maxHeartbeats 4000000 in
set_option maxRecDepth 100000 in
theorem cl_X6_pointsTo_14 {p : Program} {l : Launch} {e : Env} {s : State} {m : MethodId} {args : Array Value} {below : List Frame} {meth : Method} {c : Code} {D : va_G} {cs : Nat → ClassId} {ad : Nat → Nat} (C : Cx p s m args meth c RX6 cX6_pointsTo 5 wsX6_pointsTo D cs ad) (hr : meth.sig.returnType = some .int) {a0 : Nat} {a1 : Nat} {r : Int32} {M' : Mem} (t0 : tg a0 = 6) (t1 : tg a1 = 2) : ∀ (n : Nat) (a2 : Int32) (M : Mem), l_X6_pointsTo_14 a0 a1 n a2 M = some (r, M') → V p l e (rmk 2) s m args below meth c 5 D cs ad (QI below s args D cs ad r M') 14 [some (.ref (ad a0)), some (.ref (ad a1)), some (.int a2), none, none] [] M := by
  intro n
  induction n with
  | zero => intro a2 M hf; cases hf
  | succ n ih =>
    intro a2 M hf
    rw [l_X6_pointsTo_14_s] at hf
    refine x_iload_n C dX6_pointsTo_14 rfl rfl ?_
    refine x_aload_n C dX6_pointsTo_15 rfl rfl ?_
    refine x_geti (Cn := RX2) (T := TX2) (N := 9) C t1 (by decide) rfl nX6_pointsTo_2 1 (by decide) rfl kX6_pointsTo_99 rfl dX6_pointsTo_16 ?_
    refine x_icmp_ge (tgt := 72) C dX6_pointsTo_19 (by decide) (fun q2 => ?_) (fun q2 => ?_)
    · have hf := ift q2 hf
      refine x_bipush (v := (-5 : Int32)) C dX6_pointsTo_72 (by decide) ?_
      exact x_iret C hr hf dX6_pointsTo_74
    · have hf := iff_ q2 hf
      refine x_aload_n C dX6_pointsTo_22 rfl rfl ?_
      refine x_getr (Cn := RX2) (T := TX2) (N := 9) C t1 (by decide) rfl nX6_pointsTo_2 0 (by decide) rfl kX6_pointsTo_102 rfl dX6_pointsTo_23 (a1 + 1) rfl ?_
      refine x_iload_n C dX6_pointsTo_26 rfl rfl ?_
      obtain ⟨g3, hf⟩ := ck_of hf
      refine x_iald (j := (a2).toNatClampNeg) C (tf_2_0 t1) (tl_2_0 t1) g3 rfl dX6_pointsTo_27 ?_
      refine x_istore_n (lv' := [some (.ref (ad a0)), some (.ref (ad a1)), some (.int a2), some (.int (M (a1 + 1) (a2).toNatClampNeg)), none]) C dX6_pointsTo_28 rfl (by decide) rfl ?_
      refine x_aload_n C dX6_pointsTo_29 rfl rfl ?_
      refine x_iload_n C dX6_pointsTo_30 rfl rfl ?_
      obtain ⟨r4, M5, e6, hf⟩ := bd_of hf
      refine x_callV (n := 1) (Cn := RX2) (T := TX2) (N := 9) (As := [.int (M (a1 + 1) (a2).toNatClampNeg)]) (rest := []) (maxL := 4) (ret := (some .boolean)) C (c_X2_wishesMoreThanItsOwn t1 e6) gX6_pointsTo_X2_wishesMoreThanItsOwn rfl (by decide +kernel) ⟨Nat.le_of_ble_eq_true rfl, Nat.le_of_ble_eq_true rfl⟩ t1 (by decide) rfl rfl rfl rfl (Nat.le_of_ble_eq_true rfl) dX6_pointsTo_31 ?_
      refine x_if_ne (tgt := 40) C dX6_pointsTo_34 (by decide) (fun q7 => ?_) (fun q7 => ?_)
      · have hf := ift q7 hf
        refine x_bipush (v := (-5 : Int32)) C dX6_pointsTo_37 (by decide) ?_
        exact x_iret C hr hf dX6_pointsTo_39
      · have hf := iff_ q7 hf
        refine x_aload_n C dX6_pointsTo_40 rfl rfl ?_
        refine x_iload_n C dX6_pointsTo_41 rfl rfl ?_
        obtain ⟨r8, M9, e10, hf⟩ := bd_of hf
        refine x_callV (n := 1) (Cn := RX6) (T := TX6) (N := 8) (As := [.int (M (a1 + 1) (a2).toNatClampNeg)]) (rest := []) (maxL := 3) (ret := (some .int)) C (c_X6_holderOf t0 e10) gX6_pointsTo_X6_holderOf rfl (by decide +kernel) ⟨Nat.le_of_ble_eq_true rfl, Nat.le_of_ble_eq_true rfl⟩ t0 (by decide) rfl rfl rfl rfl (Nat.le_of_ble_eq_true rfl) dX6_pointsTo_42 ?_
        refine x_istore (lv' := [some (.ref (ad a0)), some (.ref (ad a1)), some (.int a2), some (.int (M (a1 + 1) (a2).toNatClampNeg)), some (.int r8)]) C dX6_pointsTo_45 (by decide) rfl ?_
        refine x_iload C dX6_pointsTo_47 rfl ?_
        refine x_bipush (v := (-5 : Int32)) C dX6_pointsTo_49 (by decide) ?_
        refine x_icmp_eq (tgt := 66) C dX6_pointsTo_51 (by decide) (fun q11 => ?_) (fun q11 => ?_)
        · have hf := ift q11 hf
          refine x_iinc (d := (1 : Int32)) (v := (a2 + (1 : Int32))) (lv' := [some (.ref (ad a0)), some (.ref (ad a1)), some (.int (a2 + (1 : Int32))), some (.int (M (a1 + 1) (a2).toNatClampNeg)), some (.int r8)]) C dX6_pointsTo_66 rfl (by decide) rfl (by decide) rfl ?_
          refine x_goto (tgt := 14) C dX6_pointsTo_69 (by decide) ?_
          exact x_weak (ih _ _ hf) [0, 1, 2] rfl
        · have hf := iff_ q11 hf
          refine x_aload_n C dX6_pointsTo_54 rfl rfl ?_
          refine x_aload_n C dX6_pointsTo_55 rfl rfl ?_
          refine x_iload_n C dX6_pointsTo_56 rfl rfl ?_
          obtain ⟨r12, M13, e14, hf⟩ := bd_of hf
          refine x_callV (n := 2) (Cn := RX6) (T := TX6) (N := 8) (As := [.ref (ad a1), .int (M (a1 + 1) (a2).toNatClampNeg)]) (rest := []) (maxL := 3) (ret := (some .boolean)) C (c_X6_isEligible t0 t1 e14) gX6_pointsTo_X6_isEligible rfl (by decide +kernel) ⟨Nat.le_of_ble_eq_true rfl, Nat.le_of_ble_eq_true rfl⟩ t0 (by decide) rfl rfl rfl rfl (Nat.le_of_ble_eq_true rfl) dX6_pointsTo_57 ?_
          refine x_if_eq (tgt := 66) C dX6_pointsTo_60 (by decide) (fun q15 => ?_) (fun q15 => ?_)
          · have hf := ift q15 hf
            refine x_iinc (d := (1 : Int32)) (v := (a2 + (1 : Int32))) (lv' := [some (.ref (ad a0)), some (.ref (ad a1)), some (.int (a2 + (1 : Int32))), some (.int (M (a1 + 1) (a2).toNatClampNeg)), some (.int r8)]) C dX6_pointsTo_66 rfl (by decide) rfl (by decide) rfl ?_
            refine x_goto (tgt := 14) C dX6_pointsTo_69 (by decide) ?_
            exact x_weak (ih _ _ hf) [0, 1, 2] rfl
          · have hf := iff_ q15 hf
            refine x_iload C dX6_pointsTo_63 rfl ?_
            exact x_iret C hr hf dX6_pointsTo_65

set_option maxHeartbeats 4000000 in
set_option maxRecDepth 100000 in
theorem c_X6_pointsTo {a0 : Nat} {a1 : Nat} {M : Mem} {r : Int32} {M' : Mem} (t0 : tg a0 = 6) (t1 : tg a1 = 2) (hf : f_X6_pointsTo a0 a1 M = some (r, M')) : CnI yX6_pointsTo wsX6_pointsTo 2 (fun ad => [.ref (ad a0), .ref (ad a1)]) M r M' := by
  unfold f_X6_pointsTo at hf
  refine x_metI (cc := cX6_pointsTo) (maxL := 5) RX6 rfl (by decide) rfl (fun ad => Nat.le_of_ble_eq_true rfl) (fun ad v hv => ?_) (fun p l e s m args below meth c D cs ad C hr => ?_)
  · simp only [List.mem_cons, List.not_mem_nil, or_false] at hv
    rcases hv with rfl | rfl <;> rfl
  · show V p l e (rmk 2) s m args below meth c 5 D cs ad (QI below s args D cs ad r M') 0 [some (.ref (ad a0)), some (.ref (ad a1)), none, none, none] [] M
    refine x_aload_n C dX6_pointsTo_0 rfl rfl ?_
    refine x_geti (Cn := RX2) (T := TX2) (N := 9) C t1 (by decide) rfl nX6_pointsTo_2 6 (by decide) rfl kX6_pointsTo_52 rfl dX6_pointsTo_1 ?_
    refine x_bipush (v := (-5 : Int32)) C dX6_pointsTo_4 (by decide) ?_
    refine x_icmp_ne (tgt := 12) C dX6_pointsTo_6 (by decide) (fun q1 => ?_) (fun q1 => ?_)
    · have hf := ift q1 hf
      refine x_bipush (v := (-5 : Int32)) C dX6_pointsTo_9 (by decide) ?_
      exact x_iret C hr hf dX6_pointsTo_11
    · have hf := iff_ q1 hf
      refine x_iconst (v := (0 : Int32)) C dX6_pointsTo_12 (by decide) ?_
      refine x_istore_n (lv' := [some (.ref (ad a0)), some (.ref (ad a1)), some (.int (0 : Int32)), none, none]) C dX6_pointsTo_13 rfl (by decide) rfl ?_
      exact x_weak (cl_X6_pointsTo_14 C hr t0 t1 _ _ _ hf) [0, 1, 2] rfl

theorem kX7_keep_10 : Cond.fieldLink RX7 10 "FlatLottery" "state" "LFlatLottery$State;" ∈ wsX7_keep := List.mem_of_getElem? (i := 2) rfl
theorem kX7_keep_16 : Cond.fieldLink RX7 16 "FlatLottery" "snapshot" "LFlatLottery$State;" ∈ wsX7_keep := List.mem_of_getElem? (i := 1) rfl
theorem kX7_keep_19 : Cond.fieldLink RX7 19 "FlatLottery" "hasSnapshot" "Z" ∈ wsX7_keep := List.mem_of_getElem? (i := 3) rfl
theorem nX7_keep_7 : ∀ w ∈ u_ws RX7 TX7 7, w ∈ wsX7_keep := in_r [42, 43, 44, 45, 46, 47, 48] (by decide +kernel)
set_option maxHeartbeats 4000000 in
set_option maxRecDepth 100000 in
theorem c_X7_keep  {M : Mem} {r : Int32} {M' : Mem}  (hf : f_X7_keep  M = some (r, M')) : CnI yX7_keep wsX7_keep 2 (fun ad => [.ref (ad 0)]) M r M' := by
  unfold f_X7_keep at hf
  refine x_metI (cc := cX7_keep) (maxL := 1) RX7 rfl (by decide) rfl (fun ad => Nat.le_of_ble_eq_true rfl) (fun ad v hv => ?_) (fun p l e s m args below meth c D cs ad C hr => ?_)
  · simp only [List.mem_cons, List.not_mem_nil, or_false] at hv
    rcases hv with rfl <;> rfl
  · show V p l e (rmk 2) s m args below meth c 1 D cs ad (QI below s args D cs ad r M') 0 [some (.ref (ad 0))] [] M
    refine x_aload_n C dX7_keep_0 rfl rfl ?_
    refine x_getr (Cn := RX7) (T := TX7) (N := 7) C tg_0 (by decide) rfl nX7_keep_7 1 (by decide) rfl kX7_keep_16 rfl dX7_keep_1 41 rfl ?_
    refine x_aload_n C dX7_keep_4 rfl rfl ?_
    refine x_getr (Cn := RX7) (T := TX7) (N := 7) C tg_0 (by decide) rfl nX7_keep_7 0 (by decide) rfl kX7_keep_10 rfl dX7_keep_5 1 rfl ?_
    obtain ⟨r1, M2, e3, hf⟩ := bd_of hf
    refine x_callVv (n := 1) (Cn := RX6) (T := TX6) (N := 8) (As := [.ref (ad 1)]) (rest := []) (maxL := 3) (ret := none) C (c_X6_copyFrom tg_41 tg_1 e3) gX7_keep_X6_copyFrom rfl (by decide +kernel) ⟨Nat.le_of_ble_eq_true rfl, Nat.le_of_ble_eq_true rfl⟩ tg_41 (by decide) rfl rfl rfl rfl (Nat.le_of_ble_eq_true rfl) dX7_keep_8 ?_
    refine x_aload_n C dX7_keep_11 rfl rfl ?_
    refine x_iconst (v := (1 : Int32)) C dX7_keep_12 (by decide) ?_
    refine x_puti (ty := .boolean) (Cn := RX7) (T := TX7) (N := 7) C tg_0 (by decide) rfl nX7_keep_7 tyX7 tyX7_ok nmX7 2 (by decide) rfl kX7_keep_19 rfl rfl (by decide +kernel) rfl rfl dX7_keep_13 ?_
    refine x_gen hf (fun M4 hf => ?_)
    refine x_aload_n C dX7_keep_16 rfl rfl ?_
    refine x_getr (Cn := RX7) (T := TX7) (N := 7) C tg_0 (by decide) rfl nX7_keep_7 0 (by decide) rfl kX7_keep_10 rfl dX7_keep_17 1 rfl ?_
    obtain ⟨r5, M6, e7, hf⟩ := bd_of hf
    refine x_callV (n := 0) (Cn := RX6) (T := TX6) (N := 8) (As := []) (rest := []) (maxL := 3) (ret := (some .int)) C (c_X6_countHeld tg_1 e7) gX7_keep_X6_countHeld rfl (by decide +kernel) ⟨Nat.le_of_ble_eq_true rfl, Nat.le_of_ble_eq_true rfl⟩ tg_1 (by decide) rfl rfl rfl rfl (Nat.le_of_ble_eq_true rfl) dX7_keep_20 ?_
    exact x_iret C hr hf dX7_keep_23

theorem kX3_readList_15 : Cond.fieldLink RX3 15 "FlatLottery$ListText" "listHousehold" "[I" ∈ wsX3_readList := List.mem_of_getElem? (i := 2) rfl
theorem kX3_readList_19 : Cond.fieldLink RX3 19 "FlatLottery$ListText" "listSize" "[I" ∈ wsX3_readList := List.mem_of_getElem? (i := 5) rfl
theorem kX3_readList_22 : Cond.fieldLink RX3 22 "FlatLottery$ListText" "listFlats" "[I" ∈ wsX3_readList := List.mem_of_getElem? (i := 4) rfl
theorem kX3_readList_29 : Cond.fieldLink RX3 29 "FlatLottery$ListText" "at" "I" ∈ wsX3_readList := List.mem_of_getElem? (i := 1) rfl
theorem kX3_readList_32 : Cond.fieldLink RX3 32 "FlatLottery$ListText" "listCount" "I" ∈ wsX3_readList := List.mem_of_getElem? (i := 3) rfl
theorem nX3_readList_3 : ∀ w ∈ u_ws RX3 TX3 7, w ∈ wsX3_readList := in_r [21, 22, 23, 24, 25, 26, 27] (by decide +kernel)
set_option maxHeartbeats 4000000 in
set_option maxRecDepth 100000 in
theorem cl_X3_readList_44 {p : Program} {l : Launch} {e : Env} {s : State} {m : MethodId} {args : Array Value} {below : List Frame} {meth : Method} {c : Code} {D : va_G} {cs : Nat → ClassId} {ad : Nat → Nat} (C : Cx p s m args meth c RX3 cX3_readList 4 wsX3_readList D cs ad) (hr : meth.sig.returnType = some .boolean)  {r : Int32} {M' : Mem}  : ∀ (n : Nat) (a2 : Int32) (M : Mem), l_X3_readList_44 n a2 M = some (r, M') → V p l e (rmk 3) s m args below meth c 4 D cs ad (QI below s args D cs ad r M') 44 [some (.ref (ad 243)), none, some (.int a2), none] [] M := by
  intro n
  induction n with
  | zero => intro a2 M hf; cases hf
  | succ n ih =>
    intro a2 M hf
    rw [l_X3_readList_44_s] at hf
    refine x_iload_n C dX3_readList_44 rfl rfl ?_
    refine x_bipush (v := (6 : Int32)) C dX3_readList_45 (by decide) ?_
    refine x_icmp_ge (tgt := 122) C dX3_readList_47 (by decide) (fun q12 => ?_) (fun q12 => ?_)
    · have hf := ift q12 hf
      refine x_iconst (v := (1 : Int32)) C dX3_readList_122 (by decide) ?_
      exact x_zret C hr rfl hf dX3_readList_123
    · have hf := iff_ q12 hf
      refine x_aload_n C dX3_readList_50 rfl rfl ?_
      obtain ⟨r13, M14, e15, hf⟩ := bd_of hf
      refine x_callV (n := 0) (Cn := RX3) (T := TX3) (N := 7) (As := []) (rest := []) (maxL := 3) (ret := (some .int)) C (c_X3_readNumber  e15) gX3_readList_X3_readNumber rfl (by decide +kernel) ⟨Nat.le_of_ble_eq_true rfl, Nat.le_of_ble_eq_true rfl⟩ tg_243 (by decide) rfl rfl rfl rfl (Nat.le_of_ble_eq_true rfl) dX3_readList_51 ?_
      refine x_istore_n (lv' := [some (.ref (ad 243)), none, some (.int a2), some (.int r13)]) C dX3_readList_54 rfl (by decide) rfl ?_
      refine x_iload_n C dX3_readList_55 rfl rfl ?_
      refine x_bipush (v := (-5 : Int32)) C dX3_readList_56 (by decide) ?_
      refine x_icmp_ne (tgt := 63) C dX3_readList_58 (by decide) (fun q16 => ?_) (fun q16 => ?_)
      · have hf := ift q16 hf
        refine x_iconst (v := (0 : Int32)) C dX3_readList_61 (by decide) ?_
        exact x_zret C hr rfl hf dX3_readList_62
      · have hf := iff_ q16 hf
        refine x_aload_n C dX3_readList_63 rfl rfl ?_
        refine x_getr (Cn := RX3) (T := TX3) (N := 7) C tg_243 (by decide) rfl nX3_readList_3 5 (by decide) rfl kX3_readList_22 rfl dX3_readList_64 247 rfl ?_
        refine x_aload_n C dX3_readList_67 rfl rfl ?_
        refine x_geti (Cn := RX3) (T := TX3) (N := 7) C tg_243 (by decide) rfl nX3_readList_3 2 (by decide) rfl kX3_readList_32 rfl dX3_readList_68 ?_
        refine x_bipush (v := (6 : Int32)) C dX3_readList_71 (by decide) ?_
        refine x_imul C dX3_readList_73 ?_
        refine x_iload_n C dX3_readList_74 rfl rfl ?_
        refine x_iadd C dX3_readList_75 ?_
        refine x_iload_n C dX3_readList_76 rfl rfl ?_
        obtain ⟨g17, hf⟩ := ck_of hf
        refine x_iast (j := ((((M14 243 2) * (6 : Int32)) + a2)).toNatClampNeg) C tg_247 tl_247 g17 rfl dX3_readList_77 ?_
        refine x_gen hf (fun M18 hf => ?_)
        refine x_aload_n C dX3_readList_78 rfl rfl ?_
        refine x_getr (Cn := RX3) (T := TX3) (N := 7) C tg_243 (by decide) rfl nX3_readList_3 4 (by decide) rfl kX3_readList_19 rfl dX3_readList_79 246 rfl ?_
        refine x_aload_n C dX3_readList_82 rfl rfl ?_
        refine x_geti (Cn := RX3) (T := TX3) (N := 7) C tg_243 (by decide) rfl nX3_readList_3 2 (by decide) rfl kX3_readList_32 rfl dX3_readList_83 ?_
        refine x_iload_n C dX3_readList_86 rfl rfl ?_
        refine x_iconst (v := (1 : Int32)) C dX3_readList_87 (by decide) ?_
        refine x_iadd C dX3_readList_88 ?_
        obtain ⟨g19, hf⟩ := ck_of hf
        refine x_iast (j := ((M18 243 2)).toNatClampNeg) C tg_246 tl_246 g19 rfl dX3_readList_89 ?_
        refine x_gen hf (fun M20 hf => ?_)
        refine x_aload_n C dX3_readList_90 rfl rfl ?_
        obtain ⟨r21, M22, e23, hf⟩ := bd_of hf
        refine x_callV (n := 0) (Cn := RX3) (T := TX3) (N := 7) (As := []) (rest := []) (maxL := 1) (ret := (some .int)) C (c_X3_atHand  e23) gX3_readList_X3_atHand rfl (by decide +kernel) ⟨Nat.le_of_ble_eq_true rfl, Nat.le_of_ble_eq_true rfl⟩ tg_243 (by decide) rfl rfl rfl rfl (Nat.le_of_ble_eq_true rfl) dX3_readList_91 ?_
        refine x_bipush (v := (44 : Int32)) C dX3_readList_94 (by decide) ?_
        refine x_icmp_ne (tgt := 104) C dX3_readList_96 (by decide) (fun q24 => ?_) (fun q24 => ?_)
        · have hf := ift q24 hf
          refine x_iload_n C dX3_readList_99 rfl rfl ?_
          refine x_iconst (v := (5 : Int32)) C dX3_readList_100 (by decide) ?_
          refine x_icmp_ne (tgt := 106) C dX3_readList_101 (by decide) (fun q25 => ?_) (fun q25 => ?_)
          · have hf := ift q25 hf
            refine x_iconst (v := (1 : Int32)) C dX3_readList_104 (by decide) ?_
            exact x_zret C hr rfl hf dX3_readList_105
          · have hf := iff_ q25 hf
            refine x_aload_n C dX3_readList_106 rfl rfl ?_
            refine x_dup C dX3_readList_107 rfl ?_
            refine x_geti (Cn := RX3) (T := TX3) (N := 7) C tg_243 (by decide) rfl nX3_readList_3 6 (by decide) rfl kX3_readList_29 rfl dX3_readList_108 ?_
            refine x_iconst (v := (1 : Int32)) C dX3_readList_111 (by decide) ?_
            refine x_iadd C dX3_readList_112 ?_
            refine x_puti (ty := .int) (Cn := RX3) (T := TX3) (N := 7) C tg_243 (by decide) rfl nX3_readList_3 tyX3 tyX3_ok nmX3 6 (by decide) rfl kX3_readList_29 rfl rfl (by decide +kernel) rfl rfl dX3_readList_113 ?_
            refine x_gen hf (fun M26 hf => ?_)
            refine x_iinc (d := (1 : Int32)) (v := (a2 + (1 : Int32))) (lv' := [some (.ref (ad 243)), none, some (.int (a2 + (1 : Int32))), some (.int r13)]) C dX3_readList_116 rfl (by decide) rfl (by decide) rfl ?_
            refine x_goto (tgt := 44) C dX3_readList_119 (by decide) ?_
            exact x_weak (ih _ _ hf) [0, 2] rfl
        · have hf := iff_ q24 hf
          refine x_iconst (v := (1 : Int32)) C dX3_readList_104 (by decide) ?_
          exact x_zret C hr rfl hf dX3_readList_105

set_option maxHeartbeats 4000000 in
set_option maxRecDepth 100000 in
theorem c_X3_readList  {M : Mem} {r : Int32} {M' : Mem}  (hf : f_X3_readList  M = some (r, M')) : CnI yX3_readList wsX3_readList 3 (fun ad => [.ref (ad 243)]) M r M' := by
  unfold f_X3_readList at hf
  refine x_metI (cc := cX3_readList) (maxL := 4) RX3 rfl (by decide) rfl (fun ad => Nat.le_of_ble_eq_true rfl) (fun ad v hv => ?_) (fun p l e s m args below meth c D cs ad C hr => ?_)
  · simp only [List.mem_cons, List.not_mem_nil, or_false] at hv
    rcases hv with rfl <;> rfl
  · show V p l e (rmk 3) s m args below meth c 4 D cs ad (QI below s args D cs ad r M') 0 [some (.ref (ad 243)), none, none, none] [] M
    refine x_aload_n C dX3_readList_0 rfl rfl ?_
    obtain ⟨r1, M2, e3, hf⟩ := bd_of hf
    refine x_callV (n := 0) (Cn := RX3) (T := TX3) (N := 7) (As := []) (rest := []) (maxL := 3) (ret := (some .int)) C (c_X3_readNumber  e3) gX3_readList_X3_readNumber rfl (by decide +kernel) ⟨Nat.le_of_ble_eq_true rfl, Nat.le_of_ble_eq_true rfl⟩ tg_243 (by decide) rfl rfl rfl rfl (Nat.le_of_ble_eq_true rfl) dX3_readList_1 ?_
    refine x_istore_n (lv' := [some (.ref (ad 243)), some (.int r1), none, none]) C dX3_readList_4 rfl (by decide) rfl ?_
    refine x_iload_n C dX3_readList_5 rfl rfl ?_
    refine x_bipush (v := (-5 : Int32)) C dX3_readList_6 (by decide) ?_
    refine x_icmp_eq (tgt := 20) C dX3_readList_8 (by decide) (fun q4 => ?_) (fun q4 => ?_)
    · have hf := ift q4 hf
      refine x_iconst (v := (0 : Int32)) C dX3_readList_20 (by decide) ?_
      exact x_zret C hr rfl hf dX3_readList_21
    · have hf := iff_ q4 hf
      refine x_aload_n C dX3_readList_11 rfl rfl ?_
      obtain ⟨r5, M6, e7, hf⟩ := bd_of hf
      refine x_callV (n := 0) (Cn := RX3) (T := TX3) (N := 7) (As := []) (rest := []) (maxL := 1) (ret := (some .int)) C (c_X3_atHand  e7) gX3_readList_X3_atHand rfl (by decide +kernel) ⟨Nat.le_of_ble_eq_true rfl, Nat.le_of_ble_eq_true rfl⟩ tg_243 (by decide) rfl rfl rfl rfl (Nat.le_of_ble_eq_true rfl) dX3_readList_12 ?_
      refine x_bipush (v := (58 : Int32)) C dX3_readList_15 (by decide) ?_
      refine x_icmp_eq (tgt := 22) C dX3_readList_17 (by decide) (fun q8 => ?_) (fun q8 => ?_)
      · have hf := ift q8 hf
        refine x_aload_n C dX3_readList_22 rfl rfl ?_
        refine x_dup C dX3_readList_23 rfl ?_
        refine x_geti (Cn := RX3) (T := TX3) (N := 7) C tg_243 (by decide) rfl nX3_readList_3 6 (by decide) rfl kX3_readList_29 rfl dX3_readList_24 ?_
        refine x_iconst (v := (1 : Int32)) C dX3_readList_27 (by decide) ?_
        refine x_iadd C dX3_readList_28 ?_
        refine x_puti (ty := .int) (Cn := RX3) (T := TX3) (N := 7) C tg_243 (by decide) rfl nX3_readList_3 tyX3 tyX3_ok nmX3 6 (by decide) rfl kX3_readList_29 rfl rfl (by decide +kernel) rfl rfl dX3_readList_29 ?_
        refine x_gen hf (fun M9 hf => ?_)
        refine x_aload_n C dX3_readList_32 rfl rfl ?_
        refine x_getr (Cn := RX3) (T := TX3) (N := 7) C tg_243 (by decide) rfl nX3_readList_3 3 (by decide) rfl kX3_readList_15 rfl dX3_readList_33 245 rfl ?_
        refine x_aload_n C dX3_readList_36 rfl rfl ?_
        refine x_geti (Cn := RX3) (T := TX3) (N := 7) C tg_243 (by decide) rfl nX3_readList_3 2 (by decide) rfl kX3_readList_32 rfl dX3_readList_37 ?_
        refine x_iload_n C dX3_readList_40 rfl rfl ?_
        obtain ⟨g10, hf⟩ := ck_of hf
        refine x_iast (j := ((M9 243 2)).toNatClampNeg) C tg_245 tl_245 g10 rfl dX3_readList_41 ?_
        refine x_gen hf (fun M11 hf => ?_)
        refine x_iconst (v := (0 : Int32)) C dX3_readList_42 (by decide) ?_
        refine x_istore_n (lv' := [some (.ref (ad 243)), some (.int r1), some (.int (0 : Int32)), none]) C dX3_readList_43 rfl (by decide) rfl ?_
        exact x_weak (cl_X3_readList_44 C hr  _ _ _ hf) [0, 2] rfl
      · have hf := iff_ q8 hf
        refine x_iconst (v := (0 : Int32)) C dX3_readList_20 (by decide) ?_
        exact x_zret C hr rfl hf dX3_readList_21

theorem kX4_greatest_9 : Cond.fieldLink RX4 9 "FlatLottery$Matching" "flatOf" "[I" ∈ wsX4_greatest := List.mem_of_getElem? (i := 1) rfl
theorem kX4_greatest_15 : Cond.fieldLink RX4 15 "FlatLottery$Matching" "takenBy" "[I" ∈ wsX4_greatest := List.mem_of_getElem? (i := 2) rfl
theorem kX4_greatest_24 : Cond.fieldLink RX4 24 "FlatLottery$State" "householdCount" "I" ∈ wsX4_greatest := List.mem_of_getElem? (i := 3) rfl
theorem nX4_greatest_4 : ∀ w ∈ u_ws RX4 TX4 4, w ∈ wsX4_greatest := in_r [38, 39, 40, 41] (by decide +kernel)
theorem nX4_greatest_6 : ∀ w ∈ u_ws RX6 TX6 8, w ∈ wsX4_greatest := in_r [42, 43, 44, 45, 46, 47, 48, 49] (by decide +kernel)
set_option maxHeartbeats 4000000 in
set_option maxRecDepth 100000 in
theorem cl_X4_greatest_2 {p : Program} {l : Launch} {e : Env} {s : State} {m : MethodId} {args : Array Value} {below : List Frame} {meth : Method} {c : Code} {D : va_G} {cs : Nat → ClassId} {ad : Nat → Nat} (C : Cx p s m args meth c RX4 cX4_greatest 4 wsX4_greatest D cs ad) (hr : meth.sig.returnType = some .int)  {x1 : Value} {r : Int32} {M' : Mem}  {k : Mem → Option (Int32 × Mem)} (hk : ∀ (M : Mem), k M = some (r, M') → V p l e (rmk 3) s m args below meth c 4 D cs ad (QI below s args D cs ad r M') 22 [some (.ref (ad 250)), some (x1), none, none] [] M) : ∀ (n : Nat) (a2 : Int32) (M : Mem), l_X4_greatest_2 k n a2 M = some (r, M') → V p l e (rmk 3) s m args below meth c 4 D cs ad (QI below s args D cs ad r M') 2 [some (.ref (ad 250)), some (x1), some (.int a2), none] [] M := by
  intro n
  induction n with
  | zero => intro a2 M hf; cases hf
  | succ n ih =>
    intro a2 M hf
    rw [l_X4_greatest_2_s] at hf
    refine x_iload_n C dX4_greatest_2 rfl rfl ?_
    refine x_bipush (v := (12 : Int32)) C dX4_greatest_3 (by decide) ?_
    refine x_icmp_ge (tgt := 22) C dX4_greatest_5 (by decide) (fun q1 => ?_) (fun q1 => ?_)
    · have hf := ift q1 hf
      exact x_weak (hk _ hf) [0, 1] rfl
    · have hf := iff_ q1 hf
      refine x_aload_n C dX4_greatest_8 rfl rfl ?_
      refine x_getr (Cn := RX4) (T := TX4) (N := 4) C tg_250 (by decide) rfl nX4_greatest_4 0 (by decide) rfl kX4_greatest_9 rfl dX4_greatest_9 251 rfl ?_
      refine x_iload_n C dX4_greatest_12 rfl rfl ?_
      refine x_bipush (v := (-5 : Int32)) C dX4_greatest_13 (by decide) ?_
      obtain ⟨g2, hf⟩ := ck_of hf
      refine x_iast (j := (a2).toNatClampNeg) C tg_251 tl_251 g2 rfl dX4_greatest_15 ?_
      refine x_gen hf (fun M3 hf => ?_)
      refine x_iinc (d := (1 : Int32)) (v := (a2 + (1 : Int32))) (lv' := [some (.ref (ad 250)), some (x1), some (.int (a2 + (1 : Int32))), none]) C dX4_greatest_16 rfl (by decide) rfl (by decide) rfl ?_
      refine x_goto (tgt := 2) C dX4_greatest_19 (by decide) ?_
      exact x_weak (ih _ _ hf) [0, 1, 2] rfl

set_option maxHeartbeats 4000000 in
set_option maxRecDepth 100000 in
theorem cl_X4_greatest_24 {p : Program} {l : Launch} {e : Env} {s : State} {m : MethodId} {args : Array Value} {below : List Frame} {meth : Method} {c : Code} {D : va_G} {cs : Nat → ClassId} {ad : Nat → Nat} (C : Cx p s m args meth c RX4 cX4_greatest 4 wsX4_greatest D cs ad) (hr : meth.sig.returnType = some .int)  {x1 : Value} {r : Int32} {M' : Mem}  {k : Mem → Option (Int32 × Mem)} (hk : ∀ (M : Mem), k M = some (r, M') → V p l e (rmk 3) s m args below meth c 4 D cs ad (QI below s args D cs ad r M') 44 [some (.ref (ad 250)), some (x1), none, none] [] M) : ∀ (n : Nat) (a2 : Int32) (M : Mem), l_X4_greatest_24 k n a2 M = some (r, M') → V p l e (rmk 3) s m args below meth c 4 D cs ad (QI below s args D cs ad r M') 24 [some (.ref (ad 250)), some (x1), some (.int a2), none] [] M := by
  intro n
  induction n with
  | zero => intro a2 M hf; cases hf
  | succ n ih =>
    intro a2 M hf
    rw [l_X4_greatest_24_s] at hf
    refine x_iload_n C dX4_greatest_24 rfl rfl ?_
    refine x_bipush (v := (12 : Int32)) C dX4_greatest_25 (by decide) ?_
    refine x_icmp_ge (tgt := 44) C dX4_greatest_27 (by decide) (fun q5 => ?_) (fun q5 => ?_)
    · have hf := ift q5 hf
      exact x_weak (hk _ hf) [0, 1] rfl
    · have hf := iff_ q5 hf
      refine x_aload_n C dX4_greatest_30 rfl rfl ?_
      refine x_getr (Cn := RX4) (T := TX4) (N := 4) C tg_250 (by decide) rfl nX4_greatest_4 1 (by decide) rfl kX4_greatest_15 rfl dX4_greatest_31 252 rfl ?_
      refine x_iload_n C dX4_greatest_34 rfl rfl ?_
      refine x_bipush (v := (-5 : Int32)) C dX4_greatest_35 (by decide) ?_
      obtain ⟨g6, hf⟩ := ck_of hf
      refine x_iast (j := (a2).toNatClampNeg) C tg_252 tl_252 g6 rfl dX4_greatest_37 ?_
      refine x_gen hf (fun M7 hf => ?_)
      refine x_iinc (d := (1 : Int32)) (v := (a2 + (1 : Int32))) (lv' := [some (.ref (ad 250)), some (x1), some (.int (a2 + (1 : Int32))), none]) C dX4_greatest_38 rfl (by decide) rfl (by decide) rfl ?_
      refine x_goto (tgt := 24) C dX4_greatest_41 (by decide) ?_
      exact x_weak (ih _ _ hf) [0, 1, 2] rfl

set_option maxHeartbeats 4000000 in
set_option maxRecDepth 100000 in
theorem cl_X4_greatest_48 {p : Program} {l : Launch} {e : Env} {s : State} {m : MethodId} {args : Array Value} {below : List Frame} {meth : Method} {c : Code} {D : va_G} {cs : Nat → ClassId} {ad : Nat → Nat} (C : Cx p s m args meth c RX4 cX4_greatest 4 wsX4_greatest D cs ad) (hr : meth.sig.returnType = some .int) {a1 : Nat} {r : Int32} {M' : Mem} (t1 : tg a1 = 6) : ∀ (n : Nat) (a2 : Int32) (a3 : Int32) (M : Mem), l_X4_greatest_48 a1 n a2 a3 M = some (r, M') → V p l e (rmk 3) s m args below meth c 4 D cs ad (QI below s args D cs ad r M') 48 [some (.ref (ad 250)), some (.ref (ad a1)), some (.int a2), some (.int a3)] [] M := by
  intro n
  induction n with
  | zero => intro a2 a3 M hf; cases hf
  | succ n ih =>
    intro a2 a3 M hf
    rw [l_X4_greatest_48_s] at hf
    refine x_iload_n C dX4_greatest_48 rfl rfl ?_
    refine x_aload_n C dX4_greatest_49 rfl rfl ?_
    refine x_geti (Cn := RX6) (T := TX6) (N := 8) C t1 (by decide) rfl nX4_greatest_6 3 (by decide) rfl kX4_greatest_24 rfl dX4_greatest_50 ?_
    refine x_icmp_ge (tgt := 74) C dX4_greatest_53 (by decide) (fun q9 => ?_) (fun q9 => ?_)
    · have hf := ift q9 hf
      refine x_iload_n C dX4_greatest_74 rfl rfl ?_
      exact x_iret C hr hf dX4_greatest_75
    · have hf := iff_ q9 hf
      refine x_aload_n C dX4_greatest_56 rfl rfl ?_
      refine x_iload_n C dX4_greatest_57 rfl rfl ?_
      refine x_aload_n C dX4_greatest_58 rfl rfl ?_
      obtain ⟨r10, M11, e12, hf⟩ := bd_of hf
      refine x_callV (n := 2) (Cn := RX4) (T := TX4) (N := 4) (As := [.int a3, .ref (ad a1)]) (rest := []) (maxL := 9) (ret := (some .boolean)) C (c_X4_canHouse t1 e12) gX4_greatest_X4_canHouse rfl (by decide +kernel) ⟨Nat.le_of_ble_eq_true rfl, Nat.le_of_ble_eq_true rfl⟩ tg_250 (by decide) rfl rfl rfl rfl (Nat.le_of_ble_eq_true rfl) dX4_greatest_59 ?_
      refine x_if_eq (tgt := 68) C dX4_greatest_62 (by decide) (fun q13 => ?_) (fun q13 => ?_)
      · have hf := ift q13 hf
        refine x_iinc (d := (1 : Int32)) (v := (a3 + (1 : Int32))) (lv' := [some (.ref (ad 250)), some (.ref (ad a1)), some (.int a2), some (.int (a3 + (1 : Int32)))]) C dX4_greatest_68 rfl (by decide) rfl (by decide) rfl ?_
        refine x_goto (tgt := 48) C dX4_greatest_71 (by decide) ?_
        exact x_weak (ih _ _ _ hf) [0, 1, 2, 3] rfl
      · have hf := iff_ q13 hf
        refine x_iinc (d := (1 : Int32)) (v := (a2 + (1 : Int32))) (lv' := [some (.ref (ad 250)), some (.ref (ad a1)), some (.int (a2 + (1 : Int32))), some (.int a3)]) C dX4_greatest_65 rfl (by decide) rfl (by decide) rfl ?_
        refine x_iinc (d := (1 : Int32)) (v := (a3 + (1 : Int32))) (lv' := [some (.ref (ad 250)), some (.ref (ad a1)), some (.int (a2 + (1 : Int32))), some (.int (a3 + (1 : Int32)))]) C dX4_greatest_68 rfl (by decide) rfl (by decide) rfl ?_
        refine x_goto (tgt := 48) C dX4_greatest_71 (by decide) ?_
        exact x_weak (ih _ _ _ hf) [0, 1, 2, 3] rfl

set_option maxHeartbeats 4000000 in
set_option maxRecDepth 100000 in
theorem c_X4_greatest {a1 : Nat} {M : Mem} {r : Int32} {M' : Mem} (t1 : tg a1 = 6) (hf : f_X4_greatest a1 M = some (r, M')) : CnI yX4_greatest wsX4_greatest 3 (fun ad => [.ref (ad 250), .ref (ad a1)]) M r M' := by
  unfold f_X4_greatest at hf
  refine x_metI (cc := cX4_greatest) (maxL := 4) RX4 rfl (by decide) rfl (fun ad => Nat.le_of_ble_eq_true rfl) (fun ad v hv => ?_) (fun p l e s m args below meth c D cs ad C hr => ?_)
  · simp only [List.mem_cons, List.not_mem_nil, or_false] at hv
    rcases hv with rfl | rfl <;> rfl
  · show V p l e (rmk 3) s m args below meth c 4 D cs ad (QI below s args D cs ad r M') 0 [some (.ref (ad 250)), some (.ref (ad a1)), none, none] [] M
    refine x_iconst (v := (0 : Int32)) C dX4_greatest_0 (by decide) ?_
    refine x_istore_n (lv' := [some (.ref (ad 250)), some (.ref (ad a1)), some (.int (0 : Int32)), none]) C dX4_greatest_1 rfl (by decide) rfl ?_
    refine x_weak (cl_X4_greatest_2 C hr  (fun M4 hf => ?_) _ _ _ hf) [0, 1, 2] rfl
    refine x_iconst (v := (0 : Int32)) C dX4_greatest_22 (by decide) ?_
    refine x_istore_n (lv' := [some (.ref (ad 250)), some (.ref (ad a1)), some (.int (0 : Int32)), none]) C dX4_greatest_23 rfl (by decide) rfl ?_
    refine x_weak (cl_X4_greatest_24 C hr  (fun M8 hf => ?_) _ _ _ hf) [0, 1, 2] rfl
    refine x_iconst (v := (0 : Int32)) C dX4_greatest_44 (by decide) ?_
    refine x_istore_n (lv' := [some (.ref (ad 250)), some (.ref (ad a1)), some (.int (0 : Int32)), none]) C dX4_greatest_45 rfl (by decide) rfl ?_
    refine x_iconst (v := (0 : Int32)) C dX4_greatest_46 (by decide) ?_
    refine x_istore_n (lv' := [some (.ref (ad 250)), some (.ref (ad a1)), some (.int (0 : Int32)), some (.int (0 : Int32))]) C dX4_greatest_47 rfl (by decide) rfl ?_
    exact x_weak (cl_X4_greatest_48 C hr t1 _ _ _ _ hf) [0, 1, 2, 3] rfl

theorem kX5_lookAt_9 : Cond.fieldLink RX5 9 "FlatLottery$Rings" "pointed" "[I" ∈ wsX5_lookAt := List.mem_of_getElem? (i := 3) rfl
theorem kX5_lookAt_15 : Cond.fieldLink RX5 15 "FlatLottery$State" "householdCount" "I" ∈ wsX5_lookAt := List.mem_of_getElem? (i := 1) rfl
theorem kX5_lookAt_21 : Cond.fieldLink RX5 21 "FlatLottery$Rings" "size" "I" ∈ wsX5_lookAt := List.mem_of_getElem? (i := 2) rfl
theorem kX5_lookAt_24 : Cond.fieldLink RX5 24 "FlatLottery$State" "households" "[LFlatLottery$Household;" ∈ wsX5_lookAt := List.mem_of_getElem? (i := 4) rfl
theorem nX5_lookAt_5 : ∀ w ∈ u_ws RX5 TX5 2, w ∈ wsX5_lookAt := in_r [57, 58] (by decide +kernel)
theorem nX5_lookAt_6 : ∀ w ∈ u_ws RX6 TX6 8, w ∈ wsX5_lookAt := in_r [49, 50, 51, 52, 53, 54, 55, 56] (by decide +kernel)
set_option maxHeartbeats 4000000 in
set_option maxRecDepth 100000 in
theorem cl_X5_lookAt_10 {p : Program} {l : Launch} {e : Env} {s : State} {m : MethodId} {args : Array Value} {below : List Frame} {meth : Method} {c : Code} {D : va_G} {cs : Nat → ClassId} {ad : Nat → Nat} (C : Cx p s m args meth c RX5 cX5_lookAt 3 wsX5_lookAt D cs ad) (hr : meth.sig.returnType = none) {a1 : Nat} {r : Int32} {M' : Mem} (t1 : tg a1 = 6) : ∀ (n : Nat) (a2 : Int32) (M : Mem), l_X5_lookAt_10 a1 n a2 M = some (r, M') → V p l e (rmk 3) s m args below meth c 3 D cs ad (QV below s args D cs ad M') 10 [some (.ref (ad 248)), some (.ref (ad a1)), some (.int a2)] [] M := by
  intro n
  induction n with
  | zero => intro a2 M hf; cases hf
  | succ n ih =>
    intro a2 M hf
    rw [l_X5_lookAt_10_s] at hf
    refine x_iload_n C dX5_lookAt_10 rfl rfl ?_
    refine x_aload_n C dX5_lookAt_11 rfl rfl ?_
    refine x_geti (Cn := RX5) (T := TX5) (N := 2) C tg_248 (by decide) rfl nX5_lookAt_5 1 (by decide) rfl kX5_lookAt_21 rfl dX5_lookAt_12 ?_
    refine x_icmp_ge (tgt := 40) C dX5_lookAt_15 (by decide) (fun q2 => ?_) (fun q2 => ?_)
    · have hf := ift q2 hf
      exact x_vret C hr hf dX5_lookAt_40
    · have hf := iff_ q2 hf
      refine x_aload_n C dX5_lookAt_18 rfl rfl ?_
      refine x_getr (Cn := RX5) (T := TX5) (N := 2) C tg_248 (by decide) rfl nX5_lookAt_5 0 (by decide) rfl kX5_lookAt_9 rfl dX5_lookAt_19 249 rfl ?_
      refine x_iload_n C dX5_lookAt_22 rfl rfl ?_
      refine x_aload_n C dX5_lookAt_23 rfl rfl ?_
      refine x_aload_n C dX5_lookAt_24 rfl rfl ?_
      refine x_getr (Cn := RX6) (T := TX6) (N := 8) C t1 (by decide) rfl nX5_lookAt_6 1 (by decide) rfl kX5_lookAt_24 rfl dX5_lookAt_25 (a1 + 2) rfl ?_
      refine x_iload_n C dX5_lookAt_28 rfl rfl ?_
      obtain ⟨g3, hf⟩ := ck_of hf
      have w4 : (a1 + 2) + 14 + 2 * (a2).toNatClampNeg = (a1 + 16 + 2 * (a2).toNatClampNeg) := by omega
      have u5 : tg (a1 + 16 + 2 * (a2).toNatClampNeg) = 2 := te_H (x := a2) (tf_6_1 t1) g3 w4
      refine x_aaldH (j := (a2).toNatClampNeg) C (tf_6_1 t1) (tl_6_1 t1) g3 rfl dX5_lookAt_29 (a1 + 16 + 2 * (a2).toNatClampNeg) w4 ?_
      obtain ⟨r6, M7, e8, hf⟩ := bd_of hf
      refine x_callV (n := 1) (Cn := RX6) (T := TX6) (N := 8) (As := [.ref (ad (a1 + 16 + 2 * (a2).toNatClampNeg))]) (rest := [.int a2, .ref (ad 249)]) (maxL := 5) (ret := (some .int)) C (c_X6_pointsTo t1 u5 e8) gX5_lookAt_X6_pointsTo rfl (by decide +kernel) ⟨Nat.le_of_ble_eq_true rfl, Nat.le_of_ble_eq_true rfl⟩ t1 (by decide) rfl rfl rfl rfl (Nat.le_of_ble_eq_true rfl) dX5_lookAt_30 ?_
      obtain ⟨g9, hf⟩ := ck_of hf
      refine x_iast (j := (a2).toNatClampNeg) C tg_249 tl_249 g9 rfl dX5_lookAt_33 ?_
      refine x_gen hf (fun M10 hf => ?_)
      refine x_iinc (d := (1 : Int32)) (v := (a2 + (1 : Int32))) (lv' := [some (.ref (ad 248)), some (.ref (ad a1)), some (.int (a2 + (1 : Int32)))]) C dX5_lookAt_34 rfl (by decide) rfl (by decide) rfl ?_
      refine x_goto (tgt := 10) C dX5_lookAt_37 (by decide) ?_
      exact x_weak (ih _ _ hf) [0, 1, 2] rfl

set_option maxHeartbeats 4000000 in
set_option maxRecDepth 100000 in
theorem c_X5_lookAt {a1 : Nat} {M : Mem} {r : Int32} {M' : Mem} (t1 : tg a1 = 6) (hf : f_X5_lookAt a1 M = some (r, M')) : CnV yX5_lookAt wsX5_lookAt 3 (fun ad => [.ref (ad 248), .ref (ad a1)]) M M' := by
  unfold f_X5_lookAt at hf
  refine x_metV (cc := cX5_lookAt) (maxL := 3) RX5 rfl (by decide) rfl (fun ad => Nat.le_of_ble_eq_true rfl) (fun ad v hv => ?_) (fun p l e s m args below meth c D cs ad C hr => ?_)
  · simp only [List.mem_cons, List.not_mem_nil, or_false] at hv
    rcases hv with rfl | rfl <;> rfl
  · show V p l e (rmk 3) s m args below meth c 3 D cs ad (QV below s args D cs ad M') 0 [some (.ref (ad 248)), some (.ref (ad a1)), none] [] M
    refine x_aload_n C dX5_lookAt_0 rfl rfl ?_
    refine x_aload_n C dX5_lookAt_1 rfl rfl ?_
    refine x_geti (Cn := RX6) (T := TX6) (N := 8) C t1 (by decide) rfl nX5_lookAt_6 3 (by decide) rfl kX5_lookAt_15 rfl dX5_lookAt_2 ?_
    refine x_puti (ty := .int) (Cn := RX5) (T := TX5) (N := 2) C tg_248 (by decide) rfl nX5_lookAt_5 tyX5 tyX5_ok nmX5 1 (by decide) rfl kX5_lookAt_21 rfl rfl (by decide +kernel) rfl rfl dX5_lookAt_5 ?_
    refine x_gen hf (fun M1 hf => ?_)
    refine x_iconst (v := (0 : Int32)) C dX5_lookAt_8 (by decide) ?_
    refine x_istore_n (lv' := [some (.ref (ad 248)), some (.ref (ad a1)), some (.int (0 : Int32))]) C dX5_lookAt_9 rfl (by decide) rfl ?_
    exact x_weak (cl_X5_lookAt_10 C hr t1 _ _ _ hf) [0, 1, 2] rfl

theorem kX6_countEnvy_19 : Cond.fieldLink RX6 19 "FlatLottery$State" "households" "[LFlatLottery$Household;" ∈ wsX6_countEnvy := List.mem_of_getElem? (i := 2) rfl
theorem kX6_countEnvy_37 : Cond.fieldLink RX6 37 "FlatLottery$State" "householdCount" "I" ∈ wsX6_countEnvy := List.mem_of_getElem? (i := 1) rfl
theorem nX6_countEnvy_6 : ∀ w ∈ u_ws RX6 TX6 8, w ∈ wsX6_countEnvy := in_r [45, 46, 47, 48, 49, 50, 51, 52] (by decide +kernel)
set_option maxHeartbeats 4000000 in
set_option maxRecDepth 100000 in
theorem cl_X6_countEnvy_15 {p : Program} {l : Launch} {e : Env} {s : State} {m : MethodId} {args : Array Value} {below : List Frame} {meth : Method} {c : Code} {D : va_G} {cs : Nat → ClassId} {ad : Nat → Nat} (C : Cx p s m args meth c RX6 cX6_countEnvy 5 wsX6_countEnvy D cs ad) (hr : meth.sig.returnType = some .int) {a0 : Nat} {a1 : Int32} {a3 : Int32} {r : Int32} {M' : Mem} (t0 : tg a0 = 6) {k : Int32 → Mem → Option (Int32 × Mem)} (hk : ∀ (b2 : Int32) (M : Mem), k b2 M = some (r, M') → V p l e (rmk 3) s m args below meth c 5 D cs ad (QI below s args D cs ad r M') 54 [some (.ref (ad a0)), some (.int a1), some (.int b2), some (.int a3), none] [] M) : ∀ (n : Nat) (a2 : Int32) (a4 : Int32) (M : Mem), l_X6_countEnvy_15 a0 a1 a3 k n a2 a4 M = some (r, M') → V p l e (rmk 3) s m args below meth c 5 D cs ad (QI below s args D cs ad r M') 15 [some (.ref (ad a0)), some (.int a1), some (.int a2), some (.int a3), some (.int a4)] [] M := by
  intro n
  induction n with
  | zero => intro a2 a4 M hf; cases hf
  | succ n ih =>
    intro a2 a4 M hf
    rw [l_X6_countEnvy_15_s] at hf
    refine x_iload C dX6_countEnvy_15 rfl ?_
    refine x_aload_n C dX6_countEnvy_17 rfl rfl ?_
    refine x_geti (Cn := RX6) (T := TX6) (N := 8) C t0 (by decide) rfl nX6_countEnvy_6 3 (by decide) rfl kX6_countEnvy_37 rfl dX6_countEnvy_18 ?_
    refine x_icmp_ge (tgt := 54) C dX6_countEnvy_21 (by decide) (fun q2 => ?_) (fun q2 => ?_)
    · have hf := ift q2 hf
      exact x_weak (hk _ _ hf) [0, 1, 2, 3] rfl
    · have hf := iff_ q2 hf
      refine x_aload_n C dX6_countEnvy_24 rfl rfl ?_
      refine x_aload_n C dX6_countEnvy_25 rfl rfl ?_
      refine x_getr (Cn := RX6) (T := TX6) (N := 8) C t0 (by decide) rfl nX6_countEnvy_6 1 (by decide) rfl kX6_countEnvy_19 rfl dX6_countEnvy_26 (a0 + 2) rfl ?_
      refine x_iload_n C dX6_countEnvy_29 rfl rfl ?_
      obtain ⟨g3, hf⟩ := ck_of hf
      have w4 : (a0 + 2) + 14 + 2 * (a3).toNatClampNeg = (a0 + 16 + 2 * (a3).toNatClampNeg) := by omega
      have u5 : tg (a0 + 16 + 2 * (a3).toNatClampNeg) = 2 := te_H (x := a3) (tf_6_1 t0) g3 w4
      refine x_aaldH (j := (a3).toNatClampNeg) C (tf_6_1 t0) (tl_6_1 t0) g3 rfl dX6_countEnvy_30 (a0 + 16 + 2 * (a3).toNatClampNeg) w4 ?_
      refine x_aload_n C dX6_countEnvy_31 rfl rfl ?_
      refine x_getr (Cn := RX6) (T := TX6) (N := 8) C t0 (by decide) rfl nX6_countEnvy_6 1 (by decide) rfl kX6_countEnvy_19 rfl dX6_countEnvy_32 (a0 + 2) rfl ?_
      refine x_iload C dX6_countEnvy_35 rfl ?_
      obtain ⟨g6, hf⟩ := ck_of hf
      have w7 : (a0 + 2) + 14 + 2 * (a4).toNatClampNeg = (a0 + 16 + 2 * (a4).toNatClampNeg) := by omega
      have u8 : tg (a0 + 16 + 2 * (a4).toNatClampNeg) = 2 := te_H (x := a4) (tf_6_1 t0) g6 w7
      refine x_aaldH (j := (a4).toNatClampNeg) C (tf_6_1 t0) (tl_6_1 t0) g6 rfl dX6_countEnvy_37 (a0 + 16 + 2 * (a4).toNatClampNeg) w7 ?_
      obtain ⟨r9, M10, e11, hf⟩ := bd_of hf
      refine x_callV (n := 2) (Cn := RX6) (T := TX6) (N := 8) (As := [.ref (ad (a0 + 16 + 2 * (a3).toNatClampNeg)), .ref (ad (a0 + 16 + 2 * (a4).toNatClampNeg))]) (rest := []) (maxL := 4) (ret := (some .int)) C (c_X6_envyOf t0 u5 u8 e11) gX6_countEnvy_X6_envyOf rfl (by decide +kernel) ⟨Nat.le_of_ble_eq_true rfl, Nat.le_of_ble_eq_true rfl⟩ t0 (by decide) rfl rfl rfl rfl (Nat.le_of_ble_eq_true rfl) dX6_countEnvy_38 ?_
      refine x_iload_n C dX6_countEnvy_41 rfl rfl ?_
      refine x_icmp_lt (tgt := 48) C dX6_countEnvy_42 (by decide) (fun q12 => ?_) (fun q12 => ?_)
      · have hf := ift q12 hf
        refine x_iinc (d := (1 : Int32)) (v := (a4 + (1 : Int32))) (lv' := [some (.ref (ad a0)), some (.int a1), some (.int a2), some (.int a3), some (.int (a4 + (1 : Int32)))]) C dX6_countEnvy_48 rfl (by decide) rfl (by decide) rfl ?_
        refine x_goto (tgt := 15) C dX6_countEnvy_51 (by decide) ?_
        exact x_weak (ih _ _ _ hf) [0, 1, 2, 3, 4] rfl
      · have hf := iff_ q12 hf
        refine x_iinc (d := (1 : Int32)) (v := (a2 + (1 : Int32))) (lv' := [some (.ref (ad a0)), some (.int a1), some (.int (a2 + (1 : Int32))), some (.int a3), some (.int a4)]) C dX6_countEnvy_45 rfl (by decide) rfl (by decide) rfl ?_
        refine x_iinc (d := (1 : Int32)) (v := (a4 + (1 : Int32))) (lv' := [some (.ref (ad a0)), some (.int a1), some (.int (a2 + (1 : Int32))), some (.int a3), some (.int (a4 + (1 : Int32)))]) C dX6_countEnvy_48 rfl (by decide) rfl (by decide) rfl ?_
        refine x_goto (tgt := 15) C dX6_countEnvy_51 (by decide) ?_
        exact x_weak (ih _ _ _ hf) [0, 1, 2, 3, 4] rfl

set_option maxHeartbeats 4000000 in
set_option maxRecDepth 100000 in
theorem cl_X6_countEnvy_4 {p : Program} {l : Launch} {e : Env} {s : State} {m : MethodId} {args : Array Value} {below : List Frame} {meth : Method} {c : Code} {D : va_G} {cs : Nat → ClassId} {ad : Nat → Nat} (C : Cx p s m args meth c RX6 cX6_countEnvy 5 wsX6_countEnvy D cs ad) (hr : meth.sig.returnType = some .int) {a0 : Nat} {a1 : Int32} {r : Int32} {M' : Mem} (t0 : tg a0 = 6) : ∀ (n : Nat) (a2 : Int32) (a3 : Int32) (M : Mem), l_X6_countEnvy_4 a0 a1 n a2 a3 M = some (r, M') → V p l e (rmk 3) s m args below meth c 5 D cs ad (QI below s args D cs ad r M') 4 [some (.ref (ad a0)), some (.int a1), some (.int a2), some (.int a3), none] [] M := by
  intro n
  induction n with
  | zero => intro a2 a3 M hf; cases hf
  | succ n ih =>
    intro a2 a3 M hf
    rw [l_X6_countEnvy_4_s] at hf
    refine x_iload_n C dX6_countEnvy_4 rfl rfl ?_
    refine x_aload_n C dX6_countEnvy_5 rfl rfl ?_
    refine x_geti (Cn := RX6) (T := TX6) (N := 8) C t0 (by decide) rfl nX6_countEnvy_6 3 (by decide) rfl kX6_countEnvy_37 rfl dX6_countEnvy_6 ?_
    refine x_icmp_ge (tgt := 60) C dX6_countEnvy_9 (by decide) (fun q1 => ?_) (fun q1 => ?_)
    · have hf := ift q1 hf
      refine x_iload_n C dX6_countEnvy_60 rfl rfl ?_
      exact x_iret C hr hf dX6_countEnvy_61
    · have hf := iff_ q1 hf
      refine x_iconst (v := (0 : Int32)) C dX6_countEnvy_12 (by decide) ?_
      refine x_istore (lv' := [some (.ref (ad a0)), some (.int a1), some (.int a2), some (.int a3), some (.int (0 : Int32))]) C dX6_countEnvy_13 (by decide) rfl ?_
      refine x_weak (cl_X6_countEnvy_15 C hr t0 (fun b2_15 M13 hf => ?_) _ _ _ _ hf) [0, 1, 2, 3, 4] rfl
      refine x_iinc (d := (1 : Int32)) (v := (a3 + (1 : Int32))) (lv' := [some (.ref (ad a0)), some (.int a1), some (.int b2_15), some (.int (a3 + (1 : Int32))), none]) C dX6_countEnvy_54 rfl (by decide) rfl (by decide) rfl ?_
      refine x_goto (tgt := 4) C dX6_countEnvy_57 (by decide) ?_
      exact x_weak (ih _ _ _ hf) [0, 1, 2, 3] rfl

set_option maxHeartbeats 4000000 in
set_option maxRecDepth 100000 in
theorem c_X6_countEnvy {a0 : Nat} {a1 : Int32} {M : Mem} {r : Int32} {M' : Mem} (t0 : tg a0 = 6) (hf : f_X6_countEnvy a0 a1 M = some (r, M')) : CnI yX6_countEnvy wsX6_countEnvy 3 (fun ad => [.ref (ad a0), .int a1]) M r M' := by
  unfold f_X6_countEnvy at hf
  refine x_metI (cc := cX6_countEnvy) (maxL := 5) RX6 rfl (by decide) rfl (fun ad => Nat.le_of_ble_eq_true rfl) (fun ad v hv => ?_) (fun p l e s m args below meth c D cs ad C hr => ?_)
  · simp only [List.mem_cons, List.not_mem_nil, or_false] at hv
    rcases hv with rfl | rfl <;> rfl
  · show V p l e (rmk 3) s m args below meth c 5 D cs ad (QI below s args D cs ad r M') 0 [some (.ref (ad a0)), some (.int a1), none, none, none] [] M
    refine x_iconst (v := (0 : Int32)) C dX6_countEnvy_0 (by decide) ?_
    refine x_istore_n (lv' := [some (.ref (ad a0)), some (.int a1), some (.int (0 : Int32)), none, none]) C dX6_countEnvy_1 rfl (by decide) rfl ?_
    refine x_iconst (v := (0 : Int32)) C dX6_countEnvy_2 (by decide) ?_
    refine x_istore_n (lv' := [some (.ref (ad a0)), some (.int a1), some (.int (0 : Int32)), some (.int (0 : Int32)), none]) C dX6_countEnvy_3 rfl (by decide) rfl ?_
    exact x_weak (cl_X6_countEnvy_4 C hr t0 _ _ _ _ hf) [0, 1, 2, 3] rfl

theorem kX6_flatIfAllWereFree_19 : Cond.fieldLink RX6 19 "FlatLottery$State" "households" "[LFlatLottery$Household;" ∈ wsX6_flatIfAllWereFree := List.mem_of_getElem? (i := 2) rfl
theorem kX6_flatIfAllWereFree_23 : Cond.fieldLink RX6 23 "FlatLottery$State" "order" "[I" ∈ wsX6_flatIfAllWereFree := List.mem_of_getElem? (i := 1) rfl
theorem nX6_flatIfAllWereFree_6 : ∀ w ∈ u_ws RX6 TX6 8, w ∈ wsX6_flatIfAllWereFree := in_r [45, 46, 47, 48, 49, 50, 51, 52] (by decide +kernel)
set_option maxHeartbeats 4000000 in
set_option maxRecDepth 100000 in
theorem cl_X6_flatIfAllWereFree_11 {p : Program} {l : Launch} {e : Env} {s : State} {m : MethodId} {args : Array Value} {below : List Frame} {meth : Method} {c : Code} {D : va_G} {cs : Nat → ClassId} {ad : Nat → Nat} (C : Cx p s m args meth c RX6 cX6_flatIfAllWereFree 8 wsX6_flatIfAllWereFree D cs ad) (hr : meth.sig.returnType = some .int) {a0 : Nat} {a1 : Int32} {a2 : Int32} {a4 : Int32} {r : Int32} {M' : Mem} (t0 : tg a0 = 6) : ∀ (n : Nat) (a3 : Int32) (a5 : Int32) (M : Mem), l_X6_flatIfAllWereFree_11 a0 a1 a2 a4 n a3 a5 M = some (r, M') → V p l e (rmk 3) s m args below meth c 8 D cs ad (QI below s args D cs ad r M') 11 [some (.ref (ad a0)), some (.int a1), some (.int a2), some (.int a3), some (.int a4), some (.int a5), none, none] [] M := by
  intro n
  induction n with
  | zero => intro a3 a5 M hf; cases hf
  | succ n ih =>
    intro a3 a5 M hf
    rw [l_X6_flatIfAllWereFree_11_s] at hf
    refine x_iload C dX6_flatIfAllWereFree_11 rfl ?_
    refine x_iload C dX6_flatIfAllWereFree_13 rfl ?_
    refine x_icmp_ge (tgt := 79) C dX6_flatIfAllWereFree_15 (by decide) (fun q4 => ?_) (fun q4 => ?_)
    · have hf := ift q4 hf
      refine x_bipush (v := (-5 : Int32)) C dX6_flatIfAllWereFree_79 (by decide) ?_
      exact x_iret C hr hf dX6_flatIfAllWereFree_81
    · have hf := iff_ q4 hf
      refine x_aload_n C dX6_flatIfAllWereFree_18 rfl rfl ?_
      refine x_getr (Cn := RX6) (T := TX6) (N := 8) C t0 (by decide) rfl nX6_flatIfAllWereFree_6 7 (by decide) rfl kX6_flatIfAllWereFree_23 rfl dX6_flatIfAllWereFree_19 (a0 + 3) rfl ?_
      refine x_iload C dX6_flatIfAllWereFree_22 rfl ?_
      obtain ⟨g5, hf⟩ := ck_of hf
      refine x_iald (j := (a5).toNatClampNeg) C (tf_6_7 t0) (tl_6_7 t0) g5 rfl dX6_flatIfAllWereFree_24 ?_
      refine x_istore (lv' := [some (.ref (ad a0)), some (.int a1), some (.int a2), some (.int a3), some (.int a4), some (.int a5), some (.int (M (a0 + 3) (a5).toNatClampNeg)), none]) C dX6_flatIfAllWereFree_25 (by decide) rfl ?_
      refine x_iload C dX6_flatIfAllWereFree_27 rfl ?_
      refine x_iload_n C dX6_flatIfAllWereFree_29 rfl rfl ?_
      refine x_icmp_ne (tgt := 36) C dX6_flatIfAllWereFree_30 (by decide) (fun q6 => ?_) (fun q6 => ?_)
      · have hf := ift q6 hf
        refine x_goto (tgt := 73) C dX6_flatIfAllWereFree_33 (by decide) ?_
        refine x_iinc (d := (1 : Int32)) (v := (a5 + (1 : Int32))) (lv' := [some (.ref (ad a0)), some (.int a1), some (.int a2), some (.int a3), some (.int a4), some (.int (a5 + (1 : Int32))), some (.int (M (a0 + 3) (a5).toNatClampNeg)), none]) C dX6_flatIfAllWereFree_73 rfl (by decide) rfl (by decide) rfl ?_
        refine x_goto (tgt := 11) C dX6_flatIfAllWereFree_76 (by decide) ?_
        exact x_weak (ih _ _ _ hf) [0, 1, 2, 3, 4, 5] rfl
      · have hf := iff_ q6 hf
        refine x_aload_n C dX6_flatIfAllWereFree_36 rfl rfl ?_
        refine x_iload_n C dX6_flatIfAllWereFree_37 rfl rfl ?_
        refine x_aload_n C dX6_flatIfAllWereFree_38 rfl rfl ?_
        refine x_getr (Cn := RX6) (T := TX6) (N := 8) C t0 (by decide) rfl nX6_flatIfAllWereFree_6 1 (by decide) rfl kX6_flatIfAllWereFree_19 rfl dX6_flatIfAllWereFree_39 (a0 + 2) rfl ?_
        refine x_iload C dX6_flatIfAllWereFree_42 rfl ?_
        obtain ⟨g7, hf⟩ := ck_of hf
        have w8 : (a0 + 2) + 14 + 2 * ((M (a0 + 3) (a5).toNatClampNeg)).toNatClampNeg = (a0 + 16 + 2 * ((M (a0 + 3) (a5).toNatClampNeg)).toNatClampNeg) := by omega
        have u9 : tg (a0 + 16 + 2 * ((M (a0 + 3) (a5).toNatClampNeg)).toNatClampNeg) = 2 := te_H (x := (M (a0 + 3) (a5).toNatClampNeg)) (tf_6_1 t0) g7 w8
        refine x_aaldH (j := ((M (a0 + 3) (a5).toNatClampNeg)).toNatClampNeg) C (tf_6_1 t0) (tl_6_1 t0) g7 rfl dX6_flatIfAllWereFree_44 (a0 + 16 + 2 * ((M (a0 + 3) (a5).toNatClampNeg)).toNatClampNeg) w8 ?_
        obtain ⟨r10, M11, e12, hf⟩ := bd_of hf
        refine x_callV (n := 2) (Cn := RX6) (T := TX6) (N := 8) (As := [.int a3, .ref (ad (a0 + 16 + 2 * ((M (a0 + 3) (a5).toNatClampNeg)).toNatClampNeg))]) (rest := []) (maxL := 5) (ret := (some .int)) C (c_X6_firstWishOutside t0 u9 e12) gX6_flatIfAllWereFree_X6_firstWishOutside rfl (by decide +kernel) ⟨Nat.le_of_ble_eq_true rfl, Nat.le_of_ble_eq_true rfl⟩ t0 (by decide) rfl rfl rfl rfl (Nat.le_of_ble_eq_true rfl) dX6_flatIfAllWereFree_45 ?_
        refine x_istore (lv' := [some (.ref (ad a0)), some (.int a1), some (.int a2), some (.int a3), some (.int a4), some (.int a5), some (.int (M (a0 + 3) (a5).toNatClampNeg)), some (.int r10)]) C dX6_flatIfAllWereFree_48 (by decide) rfl ?_
        refine x_iload C dX6_flatIfAllWereFree_50 rfl ?_
        refine x_iload_n C dX6_flatIfAllWereFree_52 rfl rfl ?_
        refine x_icmp_ne (tgt := 59) C dX6_flatIfAllWereFree_53 (by decide) (fun q13 => ?_) (fun q13 => ?_)
        · have hf := ift q13 hf
          refine x_iload C dX6_flatIfAllWereFree_56 rfl ?_
          exact x_iret C hr hf dX6_flatIfAllWereFree_58
        · have hf := iff_ q13 hf
          refine x_iload C dX6_flatIfAllWereFree_59 rfl ?_
          refine x_bipush (v := (-5 : Int32)) C dX6_flatIfAllWereFree_61 (by decide) ?_
          refine x_icmp_eq (tgt := 73) C dX6_flatIfAllWereFree_63 (by decide) (fun q14 => ?_) (fun q14 => ?_)
          · have hf := ift q14 hf
            refine x_iinc (d := (1 : Int32)) (v := (a5 + (1 : Int32))) (lv' := [some (.ref (ad a0)), some (.int a1), some (.int a2), some (.int a3), some (.int a4), some (.int (a5 + (1 : Int32))), some (.int (M (a0 + 3) (a5).toNatClampNeg)), some (.int r10)]) C dX6_flatIfAllWereFree_73 rfl (by decide) rfl (by decide) rfl ?_
            refine x_goto (tgt := 11) C dX6_flatIfAllWereFree_76 (by decide) ?_
            exact x_weak (ih _ _ _ hf) [0, 1, 2, 3, 4, 5] rfl
          · have hf := iff_ q14 hf
            refine x_iload_n C dX6_flatIfAllWereFree_66 rfl rfl ?_
            refine x_iconst (v := (1 : Int32)) C dX6_flatIfAllWereFree_67 (by decide) ?_
            refine x_iload C dX6_flatIfAllWereFree_68 rfl ?_
            refine x_ishl C dX6_flatIfAllWereFree_70 ?_
            refine x_ior C dX6_flatIfAllWereFree_71 ?_
            refine x_istore_n (lv' := [some (.ref (ad a0)), some (.int a1), some (.int a2), some (.int (a3 ||| ((1 : Int32) <<< (r10 &&& (31 : Int32))))), some (.int a4), some (.int a5), some (.int (M (a0 + 3) (a5).toNatClampNeg)), some (.int r10)]) C dX6_flatIfAllWereFree_72 rfl (by decide) rfl ?_
            refine x_iinc (d := (1 : Int32)) (v := (a5 + (1 : Int32))) (lv' := [some (.ref (ad a0)), some (.int a1), some (.int a2), some (.int (a3 ||| ((1 : Int32) <<< (r10 &&& (31 : Int32))))), some (.int a4), some (.int (a5 + (1 : Int32))), some (.int (M (a0 + 3) (a5).toNatClampNeg)), some (.int r10)]) C dX6_flatIfAllWereFree_73 rfl (by decide) rfl (by decide) rfl ?_
            refine x_goto (tgt := 11) C dX6_flatIfAllWereFree_76 (by decide) ?_
            exact x_weak (ih _ _ _ hf) [0, 1, 2, 3, 4, 5] rfl

set_option maxHeartbeats 4000000 in
set_option maxRecDepth 100000 in
theorem c_X6_flatIfAllWereFree {a0 : Nat} {a1 : Int32} {a2 : Int32} {M : Mem} {r : Int32} {M' : Mem} (t0 : tg a0 = 6) (hf : f_X6_flatIfAllWereFree a0 a1 a2 M = some (r, M')) : CnI yX6_flatIfAllWereFree wsX6_flatIfAllWereFree 3 (fun ad => [.ref (ad a0), .int a1, .int a2]) M r M' := by
  unfold f_X6_flatIfAllWereFree at hf
  refine x_metI (cc := cX6_flatIfAllWereFree) (maxL := 8) RX6 rfl (by decide) rfl (fun ad => Nat.le_of_ble_eq_true rfl) (fun ad v hv => ?_) (fun p l e s m args below meth c D cs ad C hr => ?_)
  · simp only [List.mem_cons, List.not_mem_nil, or_false] at hv
    rcases hv with rfl | rfl | rfl <;> rfl
  · show V p l e (rmk 3) s m args below meth c 8 D cs ad (QI below s args D cs ad r M') 0 [some (.ref (ad a0)), some (.int a1), some (.int a2), none, none, none, none, none] [] M
    refine x_iconst (v := (0 : Int32)) C dX6_flatIfAllWereFree_0 (by decide) ?_
    refine x_istore_n (lv' := [some (.ref (ad a0)), some (.int a1), some (.int a2), some (.int (0 : Int32)), none, none, none, none]) C dX6_flatIfAllWereFree_1 rfl (by decide) rfl ?_
    refine x_aload_n C dX6_flatIfAllWereFree_2 rfl rfl ?_
    obtain ⟨r1, M2, e3, hf⟩ := bd_of hf
    refine x_callV (n := 0) (Cn := RX6) (T := TX6) (N := 8) (As := []) (rest := []) (maxL := 4) (ret := (some .int)) C (c_X6_lineUp t0 e3) gX6_flatIfAllWereFree_X6_lineUp rfl (by decide +kernel) ⟨Nat.le_of_ble_eq_true rfl, Nat.le_of_ble_eq_true rfl⟩ t0 (by decide) rfl rfl rfl rfl (Nat.le_of_ble_eq_true rfl) dX6_flatIfAllWereFree_3 ?_
    refine x_istore (lv' := [some (.ref (ad a0)), some (.int a1), some (.int a2), some (.int (0 : Int32)), some (.int r1), none, none, none]) C dX6_flatIfAllWereFree_6 (by decide) rfl ?_
    refine x_iconst (v := (0 : Int32)) C dX6_flatIfAllWereFree_8 (by decide) ?_
    refine x_istore (lv' := [some (.ref (ad a0)), some (.int a1), some (.int a2), some (.int (0 : Int32)), some (.int r1), some (.int (0 : Int32)), none, none]) C dX6_flatIfAllWereFree_9 (by decide) rfl ?_
    exact x_weak (cl_X6_flatIfAllWereFree_11 C hr t0 _ _ _ _ hf) [0, 1, 2, 3, 4, 5] rfl

theorem kX6_giveFlatsInOrder_19 : Cond.fieldLink RX6 19 "FlatLottery$State" "households" "[LFlatLottery$Household;" ∈ wsX6_giveFlatsInOrder := List.mem_of_getElem? (i := 1) rfl
theorem kX6_giveFlatsInOrder_23 : Cond.fieldLink RX6 23 "FlatLottery$State" "order" "[I" ∈ wsX6_giveFlatsInOrder := List.mem_of_getElem? (i := 2) rfl
theorem kX6_giveFlatsInOrder_52 : Cond.fieldLink RX6 52 "FlatLottery$Household" "held" "I" ∈ wsX6_giveFlatsInOrder := List.mem_of_getElem? (i := 3) rfl
theorem kX6_giveFlatsInOrder_96 : Cond.fieldLink RX6 96 "FlatLottery$Household" "passedOver" "I" ∈ wsX6_giveFlatsInOrder := List.mem_of_getElem? (i := 4) rfl
theorem nX6_giveFlatsInOrder_2 : ∀ w ∈ u_ws RX2 TX2 9, w ∈ wsX6_giveFlatsInOrder := in_r [59, 60, 61, 62, 63, 64, 65, 66, 67] (by decide +kernel)
theorem nX6_giveFlatsInOrder_6 : ∀ w ∈ u_ws RX6 TX6 8, w ∈ wsX6_giveFlatsInOrder := in_r [51, 52, 53, 54, 55, 56, 57, 58] (by decide +kernel)
set_option maxHeartbeats 4000000 in
set_option maxRecDepth 100000 in
theorem cl_X6_giveFlatsInOrder_15 {p : Program} {l : Launch} {e : Env} {s : State} {m : MethodId} {args : Array Value} {below : List Frame} {meth : Method} {c : Code} {D : va_G} {cs : Nat → ClassId} {ad : Nat → Nat} (C : Cx p s m args meth c RX6 cX6_giveFlatsInOrder 7 wsX6_giveFlatsInOrder D cs ad) (hr : meth.sig.returnType = some .int) {a0 : Nat} {a3 : Int32} {r : Int32} {M' : Mem} (t0 : tg a0 = 6) : ∀ (n : Nat) (a1 : Int32) (a2 : Int32) (a4 : Int32) (M : Mem), l_X6_giveFlatsInOrder_15 a0 a3 n a1 a2 a4 M = some (r, M') → V p l e (rmk 3) s m args below meth c 7 D cs ad (QI below s args D cs ad r M') 15 [some (.ref (ad a0)), some (.int a1), some (.int a2), some (.int a3), some (.int a4), none, none] [] M := by
  intro n
  induction n with
  | zero => intro a1 a2 a4 M hf; cases hf
  | succ n ih =>
    intro a1 a2 a4 M hf
    rw [l_X6_giveFlatsInOrder_15_s] at hf
    refine x_iload C dX6_giveFlatsInOrder_15 rfl ?_
    refine x_iload_n C dX6_giveFlatsInOrder_17 rfl rfl ?_
    refine x_icmp_ge (tgt := 101) C dX6_giveFlatsInOrder_18 (by decide) (fun q7 => ?_) (fun q7 => ?_)
    · have hf := ift q7 hf
      refine x_iload_n C dX6_giveFlatsInOrder_101 rfl rfl ?_
      exact x_iret C hr hf dX6_giveFlatsInOrder_102
    · have hf := iff_ q7 hf
      refine x_aload_n C dX6_giveFlatsInOrder_21 rfl rfl ?_
      refine x_getr (Cn := RX6) (T := TX6) (N := 8) C t0 (by decide) rfl nX6_giveFlatsInOrder_6 1 (by decide) rfl kX6_giveFlatsInOrder_19 rfl dX6_giveFlatsInOrder_22 (a0 + 2) rfl ?_
      refine x_aload_n C dX6_giveFlatsInOrder_25 rfl rfl ?_
      refine x_getr (Cn := RX6) (T := TX6) (N := 8) C t0 (by decide) rfl nX6_giveFlatsInOrder_6 7 (by decide) rfl kX6_giveFlatsInOrder_23 rfl dX6_giveFlatsInOrder_26 (a0 + 3) rfl ?_
      refine x_iload C dX6_giveFlatsInOrder_29 rfl ?_
      obtain ⟨g8, hf⟩ := ck_of hf
      refine x_iald (j := (a4).toNatClampNeg) C (tf_6_7 t0) (tl_6_7 t0) g8 rfl dX6_giveFlatsInOrder_31 ?_
      obtain ⟨g9, hf⟩ := ck_of hf
      have w10 : (a0 + 2) + 14 + 2 * ((M (a0 + 3) (a4).toNatClampNeg)).toNatClampNeg = (a0 + 16 + 2 * ((M (a0 + 3) (a4).toNatClampNeg)).toNatClampNeg) := by omega
      have u11 : tg (a0 + 16 + 2 * ((M (a0 + 3) (a4).toNatClampNeg)).toNatClampNeg) = 2 := te_H (x := (M (a0 + 3) (a4).toNatClampNeg)) (tf_6_1 t0) g9 w10
      refine x_aaldH (j := ((M (a0 + 3) (a4).toNatClampNeg)).toNatClampNeg) C (tf_6_1 t0) (tl_6_1 t0) g9 rfl dX6_giveFlatsInOrder_32 (a0 + 16 + 2 * ((M (a0 + 3) (a4).toNatClampNeg)).toNatClampNeg) w10 ?_
      refine x_astore (lv' := [some (.ref (ad a0)), some (.int a1), some (.int a2), some (.int a3), some (.int a4), some (.ref (ad (a0 + 16 + 2 * ((M (a0 + 3) (a4).toNatClampNeg)).toNatClampNeg))), none]) C dX6_giveFlatsInOrder_33 (by decide) rfl ?_
      refine x_aload C dX6_giveFlatsInOrder_35 rfl ?_
      refine x_geti (Cn := RX2) (T := TX2) (N := 9) C u11 (by decide) rfl nX6_giveFlatsInOrder_2 6 (by decide) rfl kX6_giveFlatsInOrder_52 rfl dX6_giveFlatsInOrder_37 ?_
      refine x_bipush (v := (-5 : Int32)) C dX6_giveFlatsInOrder_40 (by decide) ?_
      refine x_icmp_eq (tgt := 48) C dX6_giveFlatsInOrder_42 (by decide) (fun q12 => ?_) (fun q12 => ?_)
      · have hf := ift q12 hf
        refine x_aload_n C dX6_giveFlatsInOrder_48 rfl rfl ?_
        refine x_iload_n C dX6_giveFlatsInOrder_49 rfl rfl ?_
        refine x_aload C dX6_giveFlatsInOrder_50 rfl ?_
        obtain ⟨r13, M14, e15, hf⟩ := bd_of hf
        refine x_callV (n := 2) (Cn := RX6) (T := TX6) (N := 8) (As := [.int a2, .ref (ad (a0 + 16 + 2 * ((M (a0 + 3) (a4).toNatClampNeg)).toNatClampNeg))]) (rest := []) (maxL := 5) (ret := (some .int)) C (c_X6_firstWishOutside t0 u11 e15) gX6_giveFlatsInOrder_X6_firstWishOutside rfl (by decide +kernel) ⟨Nat.le_of_ble_eq_true rfl, Nat.le_of_ble_eq_true rfl⟩ t0 (by decide) rfl rfl rfl rfl (Nat.le_of_ble_eq_true rfl) dX6_giveFlatsInOrder_52 ?_
        refine x_istore (lv' := [some (.ref (ad a0)), some (.int a1), some (.int a2), some (.int a3), some (.int a4), some (.ref (ad (a0 + 16 + 2 * ((M (a0 + 3) (a4).toNatClampNeg)).toNatClampNeg))), some (.int r13)]) C dX6_giveFlatsInOrder_55 (by decide) rfl ?_
        refine x_iload C dX6_giveFlatsInOrder_57 rfl ?_
        refine x_bipush (v := (-5 : Int32)) C dX6_giveFlatsInOrder_59 (by decide) ?_
        refine x_icmp_ne (tgt := 78) C dX6_giveFlatsInOrder_61 (by decide) (fun q16 => ?_) (fun q16 => ?_)
        · have hf := ift q16 hf
          refine x_aload C dX6_giveFlatsInOrder_64 rfl ?_
          refine x_dup C dX6_giveFlatsInOrder_66 rfl ?_
          refine x_geti (Cn := RX2) (T := TX2) (N := 9) C u11 (by decide) rfl nX6_giveFlatsInOrder_2 8 (by decide) rfl kX6_giveFlatsInOrder_96 rfl dX6_giveFlatsInOrder_67 ?_
          refine x_iconst (v := (1 : Int32)) C dX6_giveFlatsInOrder_70 (by decide) ?_
          refine x_iadd C dX6_giveFlatsInOrder_71 ?_
          refine x_puti (ty := .int) (Cn := RX2) (T := TX2) (N := 9) C u11 (by decide) rfl nX6_giveFlatsInOrder_2 tyX2 tyX2_ok nmX2 8 (by decide) rfl kX6_giveFlatsInOrder_96 rfl rfl (by decide +kernel) rfl rfl dX6_giveFlatsInOrder_72 ?_
          refine x_gen hf (fun M17 hf => ?_)
          refine x_goto (tgt := 95) C dX6_giveFlatsInOrder_75 (by decide) ?_
          refine x_iinc (d := (1 : Int32)) (v := (a4 + (1 : Int32))) (lv' := [some (.ref (ad a0)), some (.int a1), some (.int a2), some (.int a3), some (.int (a4 + (1 : Int32))), some (.ref (ad (a0 + 16 + 2 * ((M (a0 + 3) (a4).toNatClampNeg)).toNatClampNeg))), some (.int r13)]) C dX6_giveFlatsInOrder_95 rfl (by decide) rfl (by decide) rfl ?_
          refine x_goto (tgt := 15) C dX6_giveFlatsInOrder_98 (by decide) ?_
          exact x_weak (ih _ _ _ _ hf) [0, 1, 2, 3, 4] rfl
        · have hf := iff_ q16 hf
          refine x_aload C dX6_giveFlatsInOrder_78 rfl ?_
          refine x_iload C dX6_giveFlatsInOrder_80 rfl ?_
          refine x_puti (ty := .int) (Cn := RX2) (T := TX2) (N := 9) C u11 (by decide) rfl nX6_giveFlatsInOrder_2 tyX2 tyX2_ok nmX2 6 (by decide) rfl kX6_giveFlatsInOrder_52 rfl rfl (by decide +kernel) rfl rfl dX6_giveFlatsInOrder_82 ?_
          refine x_gen hf (fun M18 hf => ?_)
          refine x_iload_n C dX6_giveFlatsInOrder_85 rfl rfl ?_
          refine x_iconst (v := (1 : Int32)) C dX6_giveFlatsInOrder_86 (by decide) ?_
          refine x_iload C dX6_giveFlatsInOrder_87 rfl ?_
          refine x_ishl C dX6_giveFlatsInOrder_89 ?_
          refine x_ior C dX6_giveFlatsInOrder_90 ?_
          refine x_istore_n (lv' := [some (.ref (ad a0)), some (.int a1), some (.int (a2 ||| ((1 : Int32) <<< (r13 &&& (31 : Int32))))), some (.int a3), some (.int a4), some (.ref (ad (a0 + 16 + 2 * ((M (a0 + 3) (a4).toNatClampNeg)).toNatClampNeg))), some (.int r13)]) C dX6_giveFlatsInOrder_91 rfl (by decide) rfl ?_
          refine x_iinc (d := (1 : Int32)) (v := (a1 + (1 : Int32))) (lv' := [some (.ref (ad a0)), some (.int (a1 + (1 : Int32))), some (.int (a2 ||| ((1 : Int32) <<< (r13 &&& (31 : Int32))))), some (.int a3), some (.int a4), some (.ref (ad (a0 + 16 + 2 * ((M (a0 + 3) (a4).toNatClampNeg)).toNatClampNeg))), some (.int r13)]) C dX6_giveFlatsInOrder_92 rfl (by decide) rfl (by decide) rfl ?_
          refine x_iinc (d := (1 : Int32)) (v := (a4 + (1 : Int32))) (lv' := [some (.ref (ad a0)), some (.int (a1 + (1 : Int32))), some (.int (a2 ||| ((1 : Int32) <<< (r13 &&& (31 : Int32))))), some (.int a3), some (.int (a4 + (1 : Int32))), some (.ref (ad (a0 + 16 + 2 * ((M (a0 + 3) (a4).toNatClampNeg)).toNatClampNeg))), some (.int r13)]) C dX6_giveFlatsInOrder_95 rfl (by decide) rfl (by decide) rfl ?_
          refine x_goto (tgt := 15) C dX6_giveFlatsInOrder_98 (by decide) ?_
          exact x_weak (ih _ _ _ _ hf) [0, 1, 2, 3, 4] rfl
      · have hf := iff_ q12 hf
        refine x_goto (tgt := 95) C dX6_giveFlatsInOrder_45 (by decide) ?_
        refine x_iinc (d := (1 : Int32)) (v := (a4 + (1 : Int32))) (lv' := [some (.ref (ad a0)), some (.int a1), some (.int a2), some (.int a3), some (.int (a4 + (1 : Int32))), some (.ref (ad (a0 + 16 + 2 * ((M (a0 + 3) (a4).toNatClampNeg)).toNatClampNeg))), none]) C dX6_giveFlatsInOrder_95 rfl (by decide) rfl (by decide) rfl ?_
        refine x_goto (tgt := 15) C dX6_giveFlatsInOrder_98 (by decide) ?_
        exact x_weak (ih _ _ _ _ hf) [0, 1, 2, 3, 4] rfl

set_option maxHeartbeats 4000000 in
set_option maxRecDepth 100000 in
theorem c_X6_giveFlatsInOrder {a0 : Nat} {M : Mem} {r : Int32} {M' : Mem} (t0 : tg a0 = 6) (hf : f_X6_giveFlatsInOrder a0 M = some (r, M')) : CnI yX6_giveFlatsInOrder wsX6_giveFlatsInOrder 3 (fun ad => [.ref (ad a0)]) M r M' := by
  unfold f_X6_giveFlatsInOrder at hf
  refine x_metI (cc := cX6_giveFlatsInOrder) (maxL := 7) RX6 rfl (by decide) rfl (fun ad => Nat.le_of_ble_eq_true rfl) (fun ad v hv => ?_) (fun p l e s m args below meth c D cs ad C hr => ?_)
  · simp only [List.mem_cons, List.not_mem_nil, or_false] at hv
    rcases hv with rfl <;> rfl
  · show V p l e (rmk 3) s m args below meth c 7 D cs ad (QI below s args D cs ad r M') 0 [some (.ref (ad a0)), none, none, none, none, none, none] [] M
    refine x_iconst (v := (0 : Int32)) C dX6_giveFlatsInOrder_0 (by decide) ?_
    refine x_istore_n (lv' := [some (.ref (ad a0)), some (.int (0 : Int32)), none, none, none, none, none]) C dX6_giveFlatsInOrder_1 rfl (by decide) rfl ?_
    refine x_aload_n C dX6_giveFlatsInOrder_2 rfl rfl ?_
    obtain ⟨r1, M2, e3, hf⟩ := bd_of hf
    refine x_callV (n := 0) (Cn := RX6) (T := TX6) (N := 8) (As := []) (rest := []) (maxL := 4) (ret := (some .int)) C (c_X6_heldFlats t0 e3) gX6_giveFlatsInOrder_X6_heldFlats rfl (by decide +kernel) ⟨Nat.le_of_ble_eq_true rfl, Nat.le_of_ble_eq_true rfl⟩ t0 (by decide) rfl rfl rfl rfl (Nat.le_of_ble_eq_true rfl) dX6_giveFlatsInOrder_3 ?_
    refine x_istore_n (lv' := [some (.ref (ad a0)), some (.int (0 : Int32)), some (.int r1), none, none, none, none]) C dX6_giveFlatsInOrder_6 rfl (by decide) rfl ?_
    refine x_aload_n C dX6_giveFlatsInOrder_7 rfl rfl ?_
    obtain ⟨r4, M5, e6, hf⟩ := bd_of hf
    refine x_callV (n := 0) (Cn := RX6) (T := TX6) (N := 8) (As := []) (rest := []) (maxL := 4) (ret := (some .int)) C (c_X6_lineUp t0 e6) gX6_giveFlatsInOrder_X6_lineUp rfl (by decide +kernel) ⟨Nat.le_of_ble_eq_true rfl, Nat.le_of_ble_eq_true rfl⟩ t0 (by decide) rfl rfl rfl rfl (Nat.le_of_ble_eq_true rfl) dX6_giveFlatsInOrder_8 ?_
    refine x_istore_n (lv' := [some (.ref (ad a0)), some (.int (0 : Int32)), some (.int r1), some (.int r4), none, none, none]) C dX6_giveFlatsInOrder_11 rfl (by decide) rfl ?_
    refine x_iconst (v := (0 : Int32)) C dX6_giveFlatsInOrder_12 (by decide) ?_
    refine x_istore (lv' := [some (.ref (ad a0)), some (.int (0 : Int32)), some (.int r1), some (.int r4), some (.int (0 : Int32)), none, none]) C dX6_giveFlatsInOrder_13 (by decide) rfl ?_
    exact x_weak (cl_X6_giveFlatsInOrder_15 C hr t0 _ _ _ _ _ hf) [0, 1, 2, 3, 4] rfl

theorem kX6_isWronged_19 : Cond.fieldLink RX6 19 "FlatLottery$State" "households" "[LFlatLottery$Household;" ∈ wsX6_isWronged := List.mem_of_getElem? (i := 2) rfl
theorem kX6_isWronged_37 : Cond.fieldLink RX6 37 "FlatLottery$State" "householdCount" "I" ∈ wsX6_isWronged := List.mem_of_getElem? (i := 1) rfl
theorem nX6_isWronged_6 : ∀ w ∈ u_ws RX6 TX6 8, w ∈ wsX6_isWronged := in_r [45, 46, 47, 48, 49, 50, 51, 52] (by decide +kernel)
set_option maxHeartbeats 4000000 in
set_option maxRecDepth 100000 in
theorem cl_X6_isWronged_2 {p : Program} {l : Launch} {e : Env} {s : State} {m : MethodId} {args : Array Value} {below : List Frame} {meth : Method} {c : Code} {D : va_G} {cs : Nat → ClassId} {ad : Nat → Nat} (C : Cx p s m args meth c RX6 cX6_isWronged 3 wsX6_isWronged D cs ad) (hr : meth.sig.returnType = some .boolean) {a0 : Nat} {a1 : Nat} {r : Int32} {M' : Mem} (t0 : tg a0 = 6) (t1 : tg a1 = 2) : ∀ (n : Nat) (a2 : Int32) (M : Mem), l_X6_isWronged_2 a0 a1 n a2 M = some (r, M') → V p l e (rmk 3) s m args below meth c 3 D cs ad (QI below s args D cs ad r M') 2 [some (.ref (ad a0)), some (.ref (ad a1)), some (.int a2)] [] M := by
  intro n
  induction n with
  | zero => intro a2 M hf; cases hf
  | succ n ih =>
    intro a2 M hf
    rw [l_X6_isWronged_2_s] at hf
    refine x_iload_n C dX6_isWronged_2 rfl rfl ?_
    refine x_aload_n C dX6_isWronged_3 rfl rfl ?_
    refine x_geti (Cn := RX6) (T := TX6) (N := 8) C t0 (by decide) rfl nX6_isWronged_6 3 (by decide) rfl kX6_isWronged_37 rfl dX6_isWronged_4 ?_
    refine x_icmp_ge (tgt := 33) C dX6_isWronged_7 (by decide) (fun q1 => ?_) (fun q1 => ?_)
    · have hf := ift q1 hf
      refine x_iconst (v := (0 : Int32)) C dX6_isWronged_33 (by decide) ?_
      exact x_zret C hr rfl hf dX6_isWronged_34
    · have hf := iff_ q1 hf
      refine x_aload_n C dX6_isWronged_10 rfl rfl ?_
      refine x_aload_n C dX6_isWronged_11 rfl rfl ?_
      refine x_aload_n C dX6_isWronged_12 rfl rfl ?_
      refine x_getr (Cn := RX6) (T := TX6) (N := 8) C t0 (by decide) rfl nX6_isWronged_6 1 (by decide) rfl kX6_isWronged_19 rfl dX6_isWronged_13 (a0 + 2) rfl ?_
      refine x_iload_n C dX6_isWronged_16 rfl rfl ?_
      obtain ⟨g2, hf⟩ := ck_of hf
      have w3 : (a0 + 2) + 14 + 2 * (a2).toNatClampNeg = (a0 + 16 + 2 * (a2).toNatClampNeg) := by omega
      have u4 : tg (a0 + 16 + 2 * (a2).toNatClampNeg) = 2 := te_H (x := a2) (tf_6_1 t0) g2 w3
      refine x_aaldH (j := (a2).toNatClampNeg) C (tf_6_1 t0) (tl_6_1 t0) g2 rfl dX6_isWronged_17 (a0 + 16 + 2 * (a2).toNatClampNeg) w3 ?_
      obtain ⟨r5, M6, e7, hf⟩ := bd_of hf
      refine x_callV (n := 2) (Cn := RX6) (T := TX6) (N := 8) (As := [.ref (ad a1), .ref (ad (a0 + 16 + 2 * (a2).toNatClampNeg))]) (rest := []) (maxL := 4) (ret := (some .int)) C (c_X6_envyOf t0 t1 u4 e7) gX6_isWronged_X6_envyOf rfl (by decide +kernel) ⟨Nat.le_of_ble_eq_true rfl, Nat.le_of_ble_eq_true rfl⟩ t0 (by decide) rfl rfl rfl rfl (Nat.le_of_ble_eq_true rfl) dX6_isWronged_18 ?_
      refine x_iconst (v := (2 : Int32)) C dX6_isWronged_21 (by decide) ?_
      refine x_icmp_ne (tgt := 27) C dX6_isWronged_22 (by decide) (fun q8 => ?_) (fun q8 => ?_)
      · have hf := ift q8 hf
        refine x_iconst (v := (1 : Int32)) C dX6_isWronged_25 (by decide) ?_
        exact x_zret C hr rfl hf dX6_isWronged_26
      · have hf := iff_ q8 hf
        refine x_iinc (d := (1 : Int32)) (v := (a2 + (1 : Int32))) (lv' := [some (.ref (ad a0)), some (.ref (ad a1)), some (.int (a2 + (1 : Int32)))]) C dX6_isWronged_27 rfl (by decide) rfl (by decide) rfl ?_
        refine x_goto (tgt := 2) C dX6_isWronged_30 (by decide) ?_
        exact x_weak (ih _ _ hf) [0, 1, 2] rfl

set_option maxHeartbeats 4000000 in
set_option maxRecDepth 100000 in
theorem c_X6_isWronged {a0 : Nat} {a1 : Nat} {M : Mem} {r : Int32} {M' : Mem} (t0 : tg a0 = 6) (t1 : tg a1 = 2) (hf : f_X6_isWronged a0 a1 M = some (r, M')) : CnI yX6_isWronged wsX6_isWronged 3 (fun ad => [.ref (ad a0), .ref (ad a1)]) M r M' := by
  unfold f_X6_isWronged at hf
  refine x_metI (cc := cX6_isWronged) (maxL := 3) RX6 rfl (by decide) rfl (fun ad => Nat.le_of_ble_eq_true rfl) (fun ad v hv => ?_) (fun p l e s m args below meth c D cs ad C hr => ?_)
  · simp only [List.mem_cons, List.not_mem_nil, or_false] at hv
    rcases hv with rfl | rfl <;> rfl
  · show V p l e (rmk 3) s m args below meth c 3 D cs ad (QI below s args D cs ad r M') 0 [some (.ref (ad a0)), some (.ref (ad a1)), none] [] M
    refine x_iconst (v := (0 : Int32)) C dX6_isWronged_0 (by decide) ?_
    refine x_istore_n (lv' := [some (.ref (ad a0)), some (.ref (ad a1)), some (.int (0 : Int32))]) C dX6_isWronged_1 rfl (by decide) rfl ?_
    exact x_weak (cl_X6_isWronged_2 C hr t0 t1 _ _ _ hf) [0, 1, 2] rfl

theorem kX7_addFlat_10 : Cond.fieldLink RX7 10 "FlatLottery" "state" "LFlatLottery$State;" ∈ wsX7_addFlat := List.mem_of_getElem? (i := 1) rfl
theorem kX7_addFlat_26 : Cond.fieldLink RX7 26 "FlatLottery" "history" "LFlatLottery$History;" ∈ wsX7_addFlat := List.mem_of_getElem? (i := 3) rfl
theorem kX7_addFlat_55 : Cond.fieldLink RX7 55 "FlatLottery$State" "flatCount" "I" ∈ wsX7_addFlat := List.mem_of_getElem? (i := 2) rfl
theorem kX7_addFlat_63 : Cond.fieldLink RX7 63 "FlatLottery$State" "flats" "[LFlatLottery$Flat;" ∈ wsX7_addFlat := List.mem_of_getElem? (i := 4) rfl
theorem kX7_addFlat_67 : Cond.fieldLink RX7 67 "FlatLottery$Flat" "rooms" "I" ∈ wsX7_addFlat := List.mem_of_getElem? (i := 5) rfl
theorem kX7_addFlat_72 : Cond.fieldLink RX7 72 "FlatLottery$Flat" "rent" "I" ∈ wsX7_addFlat := List.mem_of_getElem? (i := 6) rfl
theorem nX7_addFlat_0 : ∀ w ∈ u_ws RX0 TX0 2, w ∈ wsX7_addFlat := in_r [70, 71] (by decide +kernel)
theorem nX7_addFlat_6 : ∀ w ∈ u_ws RX6 TX6 8, w ∈ wsX7_addFlat := in_r [62, 63, 64, 65, 66, 67, 68, 69] (by decide +kernel)
theorem nX7_addFlat_7 : ∀ w ∈ u_ws RX7 TX7 7, w ∈ wsX7_addFlat := in_r [55, 56, 57, 58, 59, 60, 61] (by decide +kernel)
set_option maxHeartbeats 4000000 in
set_option maxRecDepth 100000 in
theorem c_X7_addFlat {a1 : Int32} {a2 : Int32} {M : Mem} {r : Int32} {M' : Mem}  (hf : f_X7_addFlat a1 a2 M = some (r, M')) : CnI yX7_addFlat wsX7_addFlat 3 (fun ad => [.ref (ad 0), .int a1, .int a2]) M r M' := by
  unfold f_X7_addFlat at hf
  refine x_metI (cc := cX7_addFlat) (maxL := 4) RX7 rfl (by decide) rfl (fun ad => Nat.le_of_ble_eq_true rfl) (fun ad v hv => ?_) (fun p l e s m args below meth c D cs ad C hr => ?_)
  · simp only [List.mem_cons, List.not_mem_nil, or_false] at hv
    rcases hv with rfl | rfl | rfl <;> rfl
  · show V p l e (rmk 3) s m args below meth c 4 D cs ad (QI below s args D cs ad r M') 0 [some (.ref (ad 0)), some (.int a1), some (.int a2), none] [] M
    refine x_iload_n C dX7_addFlat_0 rfl rfl ?_
    refine x_iconst (v := (1 : Int32)) C dX7_addFlat_1 (by decide) ?_
    refine x_iconst (v := (5 : Int32)) C dX7_addFlat_2 (by decide) ?_
    obtain ⟨r1, M2, e3, hf⟩ := bd_of hf
    refine x_callS (n := 3) (As := [.int a1, .int (1 : Int32), .int (5 : Int32)]) (rest := []) (maxL := 3) (ret := (some .boolean)) C (c_X7_isWithin  e3) gX7_addFlat_X7_isWithin rfl (by decide +kernel) ⟨Nat.le_of_ble_eq_true rfl, Nat.le_of_ble_eq_true rfl⟩ rfl rfl rfl (Nat.le_of_ble_eq_true rfl) dX7_addFlat_3 ?_
    refine x_if_eq (tgt := 20) C dX7_addFlat_6 (by decide) (fun q4 => ?_) (fun q4 => ?_)
    · have hf := ift q4 hf
      refine x_bipush (v := (-2 : Int32)) C dX7_addFlat_20 (by decide) ?_
      exact x_iret C hr hf dX7_addFlat_22
    · have hf := iff_ q4 hf
      refine x_iload_n C dX7_addFlat_9 rfl rfl ?_
      refine x_iconst (v := (1 : Int32)) C dX7_addFlat_10 (by decide) ?_
      refine x_sipush (v := (999 : Int32)) C dX7_addFlat_11 (by decide) ?_
      obtain ⟨r5, M6, e7, hf⟩ := bd_of hf
      refine x_callS (n := 3) (As := [.int a2, .int (1 : Int32), .int (999 : Int32)]) (rest := []) (maxL := 3) (ret := (some .boolean)) C (c_X7_isWithin  e7) gX7_addFlat_X7_isWithin rfl (by decide +kernel) ⟨Nat.le_of_ble_eq_true rfl, Nat.le_of_ble_eq_true rfl⟩ rfl rfl rfl (Nat.le_of_ble_eq_true rfl) dX7_addFlat_14 ?_
      refine x_if_ne (tgt := 23) C dX7_addFlat_17 (by decide) (fun q8 => ?_) (fun q8 => ?_)
      · have hf := ift q8 hf
        refine x_bipush (v := (-2 : Int32)) C dX7_addFlat_20 (by decide) ?_
        exact x_iret C hr hf dX7_addFlat_22
      · have hf := iff_ q8 hf
        refine x_aload_n C dX7_addFlat_23 rfl rfl ?_
        refine x_getr (Cn := RX7) (T := TX7) (N := 7) C tg_0 (by decide) rfl nX7_addFlat_7 0 (by decide) rfl kX7_addFlat_10 rfl dX7_addFlat_24 1 rfl ?_
        refine x_geti (Cn := RX6) (T := TX6) (N := 8) C tg_1 (by decide) rfl nX7_addFlat_6 2 (by decide) rfl kX7_addFlat_55 rfl dX7_addFlat_27 ?_
        refine x_bipush (v := (12 : Int32)) C dX7_addFlat_30 (by decide) ?_
        refine x_icmp_lt (tgt := 38) C dX7_addFlat_32 (by decide) (fun q9 => ?_) (fun q9 => ?_)
        · have hf := ift q9 hf
          refine x_aload_n C dX7_addFlat_38 rfl rfl ?_
          refine x_getr (Cn := RX7) (T := TX7) (N := 7) C tg_0 (by decide) rfl nX7_addFlat_7 3 (by decide) rfl kX7_addFlat_26 rfl dX7_addFlat_39 81 rfl ?_
          refine x_aload_n C dX7_addFlat_42 rfl rfl ?_
          refine x_getr (Cn := RX7) (T := TX7) (N := 7) C tg_0 (by decide) rfl nX7_addFlat_7 0 (by decide) rfl kX7_addFlat_10 rfl dX7_addFlat_43 1 rfl ?_
          obtain ⟨r10, M11, e12, hf⟩ := bd_of hf
          refine x_callVv (n := 1) (Cn := RX1) (T := TX1) (N := 2) (As := [.ref (ad 1)]) (rest := []) (maxL := 2) (ret := none) C (c_X1_record tg_1 e12) gX7_addFlat_X1_record rfl (by decide +kernel) ⟨Nat.le_of_ble_eq_true rfl, Nat.le_of_ble_eq_true rfl⟩ tg_81 (by decide) rfl rfl rfl rfl (Nat.le_of_ble_eq_true rfl) dX7_addFlat_46 ?_
          refine x_aload_n C dX7_addFlat_49 rfl rfl ?_
          refine x_getr (Cn := RX7) (T := TX7) (N := 7) C tg_0 (by decide) rfl nX7_addFlat_7 0 (by decide) rfl kX7_addFlat_10 rfl dX7_addFlat_50 1 rfl ?_
          refine x_getr (Cn := RX6) (T := TX6) (N := 8) C tg_1 (by decide) rfl nX7_addFlat_6 0 (by decide) rfl kX7_addFlat_63 rfl dX7_addFlat_53 2 rfl ?_
          refine x_aload_n C dX7_addFlat_56 rfl rfl ?_
          refine x_getr (Cn := RX7) (T := TX7) (N := 7) C tg_0 (by decide) rfl nX7_addFlat_7 0 (by decide) rfl kX7_addFlat_10 rfl dX7_addFlat_57 1 rfl ?_
          refine x_geti (Cn := RX6) (T := TX6) (N := 8) C tg_1 (by decide) rfl nX7_addFlat_6 2 (by decide) rfl kX7_addFlat_55 rfl dX7_addFlat_60 ?_
          obtain ⟨g13, hf⟩ := ck_of hf
          have w14 : 2 + 3 + ((M11 1 2)).toNatClampNeg = (5 + ((M11 1 2)).toNatClampNeg) := by omega
          have u15 : tg (5 + ((M11 1 2)).toNatClampNeg) = 0 := te_F (x := (M11 1 2)) tg_2 g13 w14
          refine x_aaldF (j := ((M11 1 2)).toNatClampNeg) C tg_2 tl_2 g13 rfl dX7_addFlat_63 (5 + ((M11 1 2)).toNatClampNeg) w14 ?_
          refine x_astore_n (lv' := [some (.ref (ad 0)), some (.int a1), some (.int a2), some (.ref (ad (5 + ((M11 1 2)).toNatClampNeg)))]) C dX7_addFlat_64 rfl (by decide) rfl ?_
          refine x_aload_n C dX7_addFlat_65 rfl rfl ?_
          refine x_iload_n C dX7_addFlat_66 rfl rfl ?_
          refine x_puti (ty := .int) (Cn := RX0) (T := TX0) (N := 2) C u15 (by decide) rfl nX7_addFlat_0 tyX0 tyX0_ok nmX0 0 (by decide) rfl kX7_addFlat_67 rfl rfl (by decide +kernel) rfl rfl dX7_addFlat_67 ?_
          refine x_gen hf (fun M16 hf => ?_)
          refine x_aload_n C dX7_addFlat_70 rfl rfl ?_
          refine x_iload_n C dX7_addFlat_71 rfl rfl ?_
          refine x_puti (ty := .int) (Cn := RX0) (T := TX0) (N := 2) C u15 (by decide) rfl nX7_addFlat_0 tyX0 tyX0_ok nmX0 1 (by decide) rfl kX7_addFlat_72 rfl rfl (by decide +kernel) rfl rfl dX7_addFlat_72 ?_
          refine x_gen hf (fun M17 hf => ?_)
          refine x_aload_n C dX7_addFlat_75 rfl rfl ?_
          refine x_getr (Cn := RX7) (T := TX7) (N := 7) C tg_0 (by decide) rfl nX7_addFlat_7 0 (by decide) rfl kX7_addFlat_10 rfl dX7_addFlat_76 1 rfl ?_
          refine x_dup C dX7_addFlat_79 rfl ?_
          refine x_geti (Cn := RX6) (T := TX6) (N := 8) C tg_1 (by decide) rfl nX7_addFlat_6 2 (by decide) rfl kX7_addFlat_55 rfl dX7_addFlat_80 ?_
          refine x_iconst (v := (1 : Int32)) C dX7_addFlat_83 (by decide) ?_
          refine x_iadd C dX7_addFlat_84 ?_
          refine x_puti (ty := .int) (Cn := RX6) (T := TX6) (N := 8) C tg_1 (by decide) rfl nX7_addFlat_6 tyX6 tyX6_ok nmX6 2 (by decide) rfl kX7_addFlat_55 rfl rfl (by decide +kernel) rfl rfl dX7_addFlat_85 ?_
          refine x_gen hf (fun M18 hf => ?_)
          refine x_aload_n C dX7_addFlat_88 rfl rfl ?_
          refine x_getr (Cn := RX7) (T := TX7) (N := 7) C tg_0 (by decide) rfl nX7_addFlat_7 0 (by decide) rfl kX7_addFlat_10 rfl dX7_addFlat_89 1 rfl ?_
          refine x_geti (Cn := RX6) (T := TX6) (N := 8) C tg_1 (by decide) rfl nX7_addFlat_6 2 (by decide) rfl kX7_addFlat_55 rfl dX7_addFlat_92 ?_
          refine x_iconst (v := (1 : Int32)) C dX7_addFlat_95 (by decide) ?_
          refine x_isub C dX7_addFlat_96 ?_
          exact x_iret C hr hf dX7_addFlat_97
        · have hf := iff_ q9 hf
          refine x_bipush (v := (-3 : Int32)) C dX7_addFlat_35 (by decide) ?_
          exact x_iret C hr hf dX7_addFlat_37

theorem kX7_addHousehold_10 : Cond.fieldLink RX7 10 "FlatLottery" "state" "LFlatLottery$State;" ∈ wsX7_addHousehold := List.mem_of_getElem? (i := 1) rfl
theorem kX7_addHousehold_26 : Cond.fieldLink RX7 26 "FlatLottery" "history" "LFlatLottery$History;" ∈ wsX7_addHousehold := List.mem_of_getElem? (i := 3) rfl
theorem kX7_addHousehold_75 : Cond.fieldLink RX7 75 "FlatLottery$State" "householdCount" "I" ∈ wsX7_addHousehold := List.mem_of_getElem? (i := 2) rfl
theorem kX7_addHousehold_78 : Cond.fieldLink RX7 78 "FlatLottery$State" "households" "[LFlatLottery$Household;" ∈ wsX7_addHousehold := List.mem_of_getElem? (i := 4) rfl
theorem nX7_addHousehold_6 : ∀ w ∈ u_ws RX6 TX6 8, w ∈ wsX7_addHousehold := in_r [64, 65, 66, 67, 68, 69, 70, 71] (by decide +kernel)
theorem nX7_addHousehold_7 : ∀ w ∈ u_ws RX7 TX7 7, w ∈ wsX7_addHousehold := in_r [57, 58, 59, 60, 61, 62, 63] (by decide +kernel)
set_option maxHeartbeats 4000000 in
set_option maxRecDepth 100000 in
theorem c_X7_addHousehold {a1 : Int32} {a2 : Int32} {M : Mem} {r : Int32} {M' : Mem}  (hf : f_X7_addHousehold a1 a2 M = some (r, M')) : CnI yX7_addHousehold wsX7_addHousehold 3 (fun ad => [.ref (ad 0), .int a1, .int a2]) M r M' := by
  unfold f_X7_addHousehold at hf
  refine x_metI (cc := cX7_addHousehold) (maxL := 3) RX7 rfl (by decide) rfl (fun ad => Nat.le_of_ble_eq_true rfl) (fun ad v hv => ?_) (fun p l e s m args below meth c D cs ad C hr => ?_)
  · simp only [List.mem_cons, List.not_mem_nil, or_false] at hv
    rcases hv with rfl | rfl | rfl <;> rfl
  · show V p l e (rmk 3) s m args below meth c 3 D cs ad (QI below s args D cs ad r M') 0 [some (.ref (ad 0)), some (.int a1), some (.int a2)] [] M
    refine x_iload_n C dX7_addHousehold_0 rfl rfl ?_
    refine x_iconst (v := (1 : Int32)) C dX7_addHousehold_1 (by decide) ?_
    refine x_bipush (v := (9 : Int32)) C dX7_addHousehold_2 (by decide) ?_
    obtain ⟨r1, M2, e3, hf⟩ := bd_of hf
    refine x_callS (n := 3) (As := [.int a1, .int (1 : Int32), .int (9 : Int32)]) (rest := []) (maxL := 3) (ret := (some .boolean)) C (c_X7_isWithin  e3) gX7_addHousehold_X7_isWithin rfl (by decide +kernel) ⟨Nat.le_of_ble_eq_true rfl, Nat.le_of_ble_eq_true rfl⟩ rfl rfl rfl (Nat.le_of_ble_eq_true rfl) dX7_addHousehold_4 ?_
    refine x_if_eq (tgt := 21) C dX7_addHousehold_7 (by decide) (fun q4 => ?_) (fun q4 => ?_)
    · have hf := ift q4 hf
      refine x_bipush (v := (-2 : Int32)) C dX7_addHousehold_21 (by decide) ?_
      exact x_iret C hr hf dX7_addHousehold_23
    · have hf := iff_ q4 hf
      refine x_iload_n C dX7_addHousehold_10 rfl rfl ?_
      refine x_iconst (v := (1 : Int32)) C dX7_addHousehold_11 (by decide) ?_
      refine x_sipush (v := (9999 : Int32)) C dX7_addHousehold_12 (by decide) ?_
      obtain ⟨r5, M6, e7, hf⟩ := bd_of hf
      refine x_callS (n := 3) (As := [.int a2, .int (1 : Int32), .int (9999 : Int32)]) (rest := []) (maxL := 3) (ret := (some .boolean)) C (c_X7_isWithin  e7) gX7_addHousehold_X7_isWithin rfl (by decide +kernel) ⟨Nat.le_of_ble_eq_true rfl, Nat.le_of_ble_eq_true rfl⟩ rfl rfl rfl (Nat.le_of_ble_eq_true rfl) dX7_addHousehold_15 ?_
      refine x_if_ne (tgt := 24) C dX7_addHousehold_18 (by decide) (fun q8 => ?_) (fun q8 => ?_)
      · have hf := ift q8 hf
        refine x_bipush (v := (-2 : Int32)) C dX7_addHousehold_21 (by decide) ?_
        exact x_iret C hr hf dX7_addHousehold_23
      · have hf := iff_ q8 hf
        refine x_aload_n C dX7_addHousehold_24 rfl rfl ?_
        refine x_getr (Cn := RX7) (T := TX7) (N := 7) C tg_0 (by decide) rfl nX7_addHousehold_7 0 (by decide) rfl kX7_addHousehold_10 rfl dX7_addHousehold_25 1 rfl ?_
        refine x_geti (Cn := RX6) (T := TX6) (N := 8) C tg_1 (by decide) rfl nX7_addHousehold_6 3 (by decide) rfl kX7_addHousehold_75 rfl dX7_addHousehold_28 ?_
        refine x_bipush (v := (12 : Int32)) C dX7_addHousehold_31 (by decide) ?_
        refine x_icmp_lt (tgt := 39) C dX7_addHousehold_33 (by decide) (fun q9 => ?_) (fun q9 => ?_)
        · have hf := ift q9 hf
          refine x_aload_n C dX7_addHousehold_39 rfl rfl ?_
          refine x_getr (Cn := RX7) (T := TX7) (N := 7) C tg_0 (by decide) rfl nX7_addHousehold_7 3 (by decide) rfl kX7_addHousehold_26 rfl dX7_addHousehold_40 81 rfl ?_
          refine x_aload_n C dX7_addHousehold_43 rfl rfl ?_
          refine x_getr (Cn := RX7) (T := TX7) (N := 7) C tg_0 (by decide) rfl nX7_addHousehold_7 0 (by decide) rfl kX7_addHousehold_10 rfl dX7_addHousehold_44 1 rfl ?_
          obtain ⟨r10, M11, e12, hf⟩ := bd_of hf
          refine x_callVv (n := 1) (Cn := RX1) (T := TX1) (N := 2) (As := [.ref (ad 1)]) (rest := []) (maxL := 2) (ret := none) C (c_X1_record tg_1 e12) gX7_addHousehold_X1_record rfl (by decide +kernel) ⟨Nat.le_of_ble_eq_true rfl, Nat.le_of_ble_eq_true rfl⟩ tg_81 (by decide) rfl rfl rfl rfl (Nat.le_of_ble_eq_true rfl) dX7_addHousehold_47 ?_
          refine x_aload_n C dX7_addHousehold_50 rfl rfl ?_
          refine x_getr (Cn := RX7) (T := TX7) (N := 7) C tg_0 (by decide) rfl nX7_addHousehold_7 0 (by decide) rfl kX7_addHousehold_10 rfl dX7_addHousehold_51 1 rfl ?_
          refine x_getr (Cn := RX6) (T := TX6) (N := 8) C tg_1 (by decide) rfl nX7_addHousehold_6 1 (by decide) rfl kX7_addHousehold_78 rfl dX7_addHousehold_54 3 rfl ?_
          refine x_aload_n C dX7_addHousehold_57 rfl rfl ?_
          refine x_getr (Cn := RX7) (T := TX7) (N := 7) C tg_0 (by decide) rfl nX7_addHousehold_7 0 (by decide) rfl kX7_addHousehold_10 rfl dX7_addHousehold_58 1 rfl ?_
          refine x_geti (Cn := RX6) (T := TX6) (N := 8) C tg_1 (by decide) rfl nX7_addHousehold_6 3 (by decide) rfl kX7_addHousehold_75 rfl dX7_addHousehold_61 ?_
          obtain ⟨g13, hf⟩ := ck_of hf
          have w14 : 3 + 14 + 2 * ((M11 1 3)).toNatClampNeg = (17 + 2 * ((M11 1 3)).toNatClampNeg) := by omega
          have u15 : tg (17 + 2 * ((M11 1 3)).toNatClampNeg) = 2 := te_H (x := (M11 1 3)) tg_3 g13 w14
          refine x_aaldH (j := ((M11 1 3)).toNatClampNeg) C tg_3 tl_3 g13 rfl dX7_addHousehold_64 (17 + 2 * ((M11 1 3)).toNatClampNeg) w14 ?_
          refine x_iload_n C dX7_addHousehold_65 rfl rfl ?_
          refine x_iload_n C dX7_addHousehold_66 rfl rfl ?_
          obtain ⟨r16, M17, e18, hf⟩ := bd_of hf
          refine x_callVv (n := 2) (Cn := RX2) (T := TX2) (N := 9) (As := [.int a1, .int a2]) (rest := []) (maxL := 3) (ret := none) C (c_X2_begin u15 e18) gX7_addHousehold_X2_begin rfl (by decide +kernel) ⟨Nat.le_of_ble_eq_true rfl, Nat.le_of_ble_eq_true rfl⟩ u15 (by decide) rfl rfl rfl rfl (Nat.le_of_ble_eq_true rfl) dX7_addHousehold_67 ?_
          refine x_aload_n C dX7_addHousehold_70 rfl rfl ?_
          refine x_getr (Cn := RX7) (T := TX7) (N := 7) C tg_0 (by decide) rfl nX7_addHousehold_7 0 (by decide) rfl kX7_addHousehold_10 rfl dX7_addHousehold_71 1 rfl ?_
          refine x_dup C dX7_addHousehold_74 rfl ?_
          refine x_geti (Cn := RX6) (T := TX6) (N := 8) C tg_1 (by decide) rfl nX7_addHousehold_6 3 (by decide) rfl kX7_addHousehold_75 rfl dX7_addHousehold_75 ?_
          refine x_iconst (v := (1 : Int32)) C dX7_addHousehold_78 (by decide) ?_
          refine x_iadd C dX7_addHousehold_79 ?_
          refine x_puti (ty := .int) (Cn := RX6) (T := TX6) (N := 8) C tg_1 (by decide) rfl nX7_addHousehold_6 tyX6 tyX6_ok nmX6 3 (by decide) rfl kX7_addHousehold_75 rfl rfl (by decide +kernel) rfl rfl dX7_addHousehold_80 ?_
          refine x_gen hf (fun M19 hf => ?_)
          refine x_aload_n C dX7_addHousehold_83 rfl rfl ?_
          refine x_getr (Cn := RX7) (T := TX7) (N := 7) C tg_0 (by decide) rfl nX7_addHousehold_7 0 (by decide) rfl kX7_addHousehold_10 rfl dX7_addHousehold_84 1 rfl ?_
          refine x_geti (Cn := RX6) (T := TX6) (N := 8) C tg_1 (by decide) rfl nX7_addHousehold_6 3 (by decide) rfl kX7_addHousehold_75 rfl dX7_addHousehold_87 ?_
          refine x_iconst (v := (1 : Int32)) C dX7_addHousehold_90 (by decide) ?_
          refine x_isub C dX7_addHousehold_91 ?_
          exact x_iret C hr hf dX7_addHousehold_92
        · have hf := iff_ q9 hf
          refine x_bipush (v := (-3 : Int32)) C dX7_addHousehold_36 (by decide) ?_
          exact x_iret C hr hf dX7_addHousehold_38

