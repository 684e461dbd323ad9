theorem kX0_copyFrom_7 : Cond.fieldLink RX0 7 "FlatLottery$Flat" "rooms" "I" ∈ wsX0_copyFrom := List.mem_of_getElem? (i := 1) rfl
theorem kX0_copyFrom_13 : Cond.fieldLink RX0 13 "FlatLottery$Flat" "rent" "I" ∈ wsX0_copyFrom := List.mem_of_getElem? (i := 2) rfl
theorem nX0_copyFrom_0 : ∀ w ∈ u_ws RX0 TX0 2, w ∈ wsX0_copyFrom := in_r [3, 4] (by decide +kernel)
set_option maxHeartbeats 4000000 in
set_option maxRecDepth 100000 in
theorem c_X0_copyFrom {a0 : Nat} {a1 : Nat} {M : Mem} {r : Int32} {M' : Mem} (t0 : tg a0 = 0) (t1 : tg a1 = 0) (hf : f_X0_copyFrom a0 a1 M = some (r, M')) : CnV yX0_copyFrom wsX0_copyFrom 0 (fun ad => [.ref (ad a0), .ref (ad a1)]) M M' := by
  unfold f_X0_copyFrom at hf
  refine x_metV (cc := cX0_copyFrom) (maxL := 2) RX0 rfl (by decide) rfl (fun ad => Nat.le_of_ble_eq_true rfl) (fun ad v hv => ?_) (fun p l e s m args below meth c D cs ad C hr => ?_)
  · simp only [List.mem_cons, List.not_mem_nil, or_false] at hv
    rcases hv with rfl | rfl <;> rfl
  · show V p l e (rmk 0) s m args below meth c 2 D cs ad (QV below s args D cs ad M') 0 [some (.ref (ad a0)), some (.ref (ad a1))] [] M
    refine x_aload_n C dX0_copyFrom_0 rfl rfl ?_
    refine x_aload_n C dX0_copyFrom_1 rfl rfl ?_
    refine x_geti (Cn := RX0) (T := TX0) (N := 2) C t1 (by decide) rfl nX0_copyFrom_0 0 (by decide) rfl kX0_copyFrom_7 rfl dX0_copyFrom_2 ?_
    refine x_puti (ty := .int) (Cn := RX0) (T := TX0) (N := 2) C t0 (by decide) rfl nX0_copyFrom_0 tyX0 tyX0_ok nmX0 0 (by decide) rfl kX0_copyFrom_7 rfl rfl (by decide +kernel) rfl rfl dX0_copyFrom_5 ?_
    refine x_gen hf (fun M1 hf => ?_)
    refine x_aload_n C dX0_copyFrom_8 rfl rfl ?_
    refine x_aload_n C dX0_copyFrom_9 rfl rfl ?_
    refine x_geti (Cn := RX0) (T := TX0) (N := 2) C t1 (by decide) rfl nX0_copyFrom_0 1 (by decide) rfl kX0_copyFrom_13 rfl dX0_copyFrom_10 ?_
    refine x_puti (ty := .int) (Cn := RX0) (T := TX0) (N := 2) C t0 (by decide) rfl nX0_copyFrom_0 tyX0 tyX0_ok nmX0 1 (by decide) rfl kX0_copyFrom_13 rfl rfl (by decide +kernel) rfl rfl dX0_copyFrom_13 ?_
    refine x_gen hf (fun M2 hf => ?_)
    exact x_vret C hr hf dX0_copyFrom_16

theorem kX1_dropOldest_11 : Cond.fieldLink RX1 11 "FlatLottery$History" "states" "[LFlatLottery$State;" ∈ wsX1_dropOldest := List.mem_of_getElem? (i := 1) rfl
theorem kX1_dropOldest_18 : Cond.fieldLink RX1 18 "FlatLottery$History" "size" "I" ∈ wsX1_dropOldest := List.mem_of_getElem? (i := 2) rfl
theorem nX1_dropOldest_1 : ∀ w ∈ u_ws RX1 TX1 2, w ∈ wsX1_dropOldest := in_r [3, 4] (by decide +kernel)
set_option maxHeartbeats 4000000 in
set_option maxRecDepth 100000 in
theorem cl_X1_dropOldest_9 {p : Program} {l : Launch} {e : Env} {s : State} {m : MethodId} {args : Array Value} {below : List Frame} {meth : Method} {c : Code} {D : va_G} {cs : Nat → ClassId} {ad : Nat → Nat} (C : Cx p s m args meth c RX1 cX1_dropOldest 3 wsX1_dropOldest D cs ad) (hr : meth.sig.returnType = none)  {x1 : Value} {r : Int32} {M' : Mem}  {k : Mem → Option (Int32 × Mem)} (hk : ∀ (M : Mem), k M = some (r, M') → V p l e (rmk 0) s m args below meth c 3 D cs ad (QV below s args D cs ad M') 34 [some (.ref (ad 81)), some (x1), none] [] M) : ∀ (n : Nat) (a2 : Int32) (M : Mem), l_X1_dropOldest_9 k n a2 M = some (r, M') → V p l e (rmk 0) s m args below meth c 3 D cs ad (QV below s args D cs ad M') 9 [some (.ref (ad 81)), some (x1), some (.int a2)] [] M := by
  intro n
  induction n with
  | zero => intro a2 M hf; cases hf
  | succ n ih =>
    intro a2 M hf
    rw [l_X1_dropOldest_9_s] at hf
    refine x_iload_n C dX1_dropOldest_9 rfl rfl ?_
    refine x_iconst (v := (4 : Int32)) C dX1_dropOldest_10 (by decide) ?_
    refine x_icmp_ge (tgt := 34) C dX1_dropOldest_11 (by decide) (fun q4 => ?_) (fun q4 => ?_)
    · have hf := ift q4 hf
      exact x_weak (hk _ hf) [0, 1] rfl
    · have hf := iff_ q4 hf
      refine x_aload_n C dX1_dropOldest_14 rfl rfl ?_
      refine x_getr (Cn := RX1) (T := TX1) (N := 2) C tg_81 (by decide) rfl nX1_dropOldest_1 0 (by decide) rfl kX1_dropOldest_11 rfl dX1_dropOldest_15 82 rfl ?_
      refine x_iload_n C dX1_dropOldest_18 rfl rfl ?_
      refine x_iconst (v := (1 : Int32)) C dX1_dropOldest_19 (by decide) ?_
      refine x_isub C dX1_dropOldest_20 ?_
      refine x_aload_n C dX1_dropOldest_21 rfl rfl ?_
      refine x_getr (Cn := RX1) (T := TX1) (N := 2) C tg_81 (by decide) rfl nX1_dropOldest_1 0 (by decide) rfl kX1_dropOldest_11 rfl dX1_dropOldest_22 82 rfl ?_
      refine x_iload_n C dX1_dropOldest_25 rfl rfl ?_
      obtain ⟨g5, hf⟩ := ck_of hf
      obtain ⟨g6, hf⟩ := ck_of hf
      have w7 : 82 + 1 + 40 * (M 82 (a2).toNatClampNeg).toNatClampNeg = (83 + 40 * (M 82 (a2).toNatClampNeg).toNatClampNeg) := by omega
      have u8 : tg (83 + 40 * (M 82 (a2).toNatClampNeg).toNatClampNeg) = 6 := te_S tg_82 g6 w7
      refine x_aaldS (j := (a2).toNatClampNeg) C tg_82 tl_82 g5 rfl dX1_dropOldest_26 (83 + 40 * (M 82 (a2).toNatClampNeg).toNatClampNeg) w7 ?_
      obtain ⟨g9, hf⟩ := ck_of hf
      refine x_aast (j := ((a2 - (1 : Int32))).toNatClampNeg) C tg_82 tl_82 g9 rfl u8 (M 82 (a2).toNatClampNeg) (by omega) dX1_dropOldest_27 ?_
      refine x_gen hf (fun M10 hf => ?_)
      refine x_iinc (d := (1 : Int32)) (v := (a2 + (1 : Int32))) (lv' := [some (.ref (ad 81)), some (x1), some (.int (a2 + (1 : Int32)))]) C dX1_dropOldest_28 rfl (by decide) rfl (by decide) rfl ?_
      refine x_goto (tgt := 9) C dX1_dropOldest_31 (by decide) ?_
      exact x_weak (ih _ _ hf) [0, 1, 2] rfl

set_option maxHeartbeats 4000000 in
set_option maxRecDepth 100000 in
theorem c_X1_dropOldest  {M : Mem} {r : Int32} {M' : Mem}  (hf : f_X1_dropOldest  M = some (r, M')) : CnV yX1_dropOldest wsX1_dropOldest 0 (fun ad => [.ref (ad 81)]) M M' := by
  unfold f_X1_dropOldest at hf
  refine x_metV (cc := cX1_dropOldest) (maxL := 3) RX1 rfl (by decide) rfl (fun ad => Nat.le_of_ble_eq_true rfl) (fun ad v hv => ?_) (fun p l e s m args below meth c D cs ad C hr => ?_)
  · simp only [List.mem_cons, List.not_mem_nil, or_false] at hv
    rcases hv with rfl <;> rfl
  · show V p l e (rmk 0) s m args below meth c 3 D cs ad (QV below s args D cs ad M') 0 [some (.ref (ad 81)), none, none] [] M
    refine x_aload_n C dX1_dropOldest_0 rfl rfl ?_
    refine x_getr (Cn := RX1) (T := TX1) (N := 2) C tg_81 (by decide) rfl nX1_dropOldest_1 0 (by decide) rfl kX1_dropOldest_11 rfl dX1_dropOldest_1 82 rfl ?_
    refine x_iconst (v := (0 : Int32)) C dX1_dropOldest_4 (by decide) ?_
    obtain ⟨g1, hf⟩ := ck_of hf
    have w2 : 82 + 1 + 40 * (M 82 0).toNatClampNeg = (83 + 40 * (M 82 0).toNatClampNeg) := by omega
    have u3 : tg (83 + 40 * (M 82 0).toNatClampNeg) = 6 := te_S tg_82 g1 w2
    refine x_aaldS (j := 0) C tg_82 tl_82 (by decide) (by decide) dX1_dropOldest_5 (83 + 40 * (M 82 0).toNatClampNeg) w2 ?_
    refine x_astore_n (lv' := [some (.ref (ad 81)), some (.ref (ad (83 + 40 * (M 82 0).toNatClampNeg))), none]) C dX1_dropOldest_6 rfl (by decide) rfl ?_
    refine x_iconst (v := (1 : Int32)) C dX1_dropOldest_7 (by decide) ?_
    refine x_istore_n (lv' := [some (.ref (ad 81)), some (.ref (ad (83 + 40 * (M 82 0).toNatClampNeg))), some (.int (1 : Int32))]) C dX1_dropOldest_8 rfl (by decide) rfl ?_
    refine x_weak (cl_X1_dropOldest_9 C hr  (fun M11 hf => ?_) _ _ _ hf) [0, 1, 2] rfl
    refine x_aload_n C dX1_dropOldest_34 rfl rfl ?_
    refine x_getr (Cn := RX1) (T := TX1) (N := 2) C tg_81 (by decide) rfl nX1_dropOldest_1 0 (by decide) rfl kX1_dropOldest_11 rfl dX1_dropOldest_35 82 rfl ?_
    refine x_iconst (v := (3 : Int32)) C dX1_dropOldest_38 (by decide) ?_
    refine x_aload_n C dX1_dropOldest_39 rfl rfl ?_
    refine x_aast (j := 3) C tg_82 tl_82 (by decide) (by decide) u3 (M 82 0) (by omega) dX1_dropOldest_40 ?_
    refine x_gen hf (fun M12 hf => ?_)
    refine x_aload_n C dX1_dropOldest_41 rfl rfl ?_
    refine x_iconst (v := (3 : Int32)) C dX1_dropOldest_42 (by decide) ?_
    refine x_puti (ty := .int) (Cn := RX1) (T := TX1) (N := 2) C tg_81 (by decide) rfl nX1_dropOldest_1 tyX1 tyX1_ok nmX1 1 (by decide) rfl kX1_dropOldest_18 rfl rfl (by decide +kernel) rfl rfl dX1_dropOldest_43 ?_
    refine x_gen hf (fun M13 hf => ?_)
    exact x_vret C hr hf dX1_dropOldest_46

theorem kX2_addWish_9 : Cond.fieldLink RX2 9 "FlatLottery$Household" "wishes" "[I" ∈ wsX2_addWish := List.mem_of_getElem? (i := 2) rfl
theorem kX2_addWish_15 : Cond.fieldLink RX2 15 "FlatLottery$Household" "wishCount" "I" ∈ wsX2_addWish := List.mem_of_getElem? (i := 1) rfl
theorem nX2_addWish_2 : ∀ w ∈ u_ws RX2 TX2 9, w ∈ wsX2_addWish := in_r [3, 4, 5, 6, 7, 8, 9, 10, 11] (by decide +kernel)
set_option maxHeartbeats 4000000 in
set_option maxRecDepth 100000 in
theorem c_X2_addWish {a0 : Nat} {a1 : Int32} {M : Mem} {r : Int32} {M' : Mem} (t0 : tg a0 = 2) (hf : f_X2_addWish a0 a1 M = some (r, M')) : CnV yX2_addWish wsX2_addWish 0 (fun ad => [.ref (ad a0), .int a1]) M M' := by
  unfold f_X2_addWish at hf
  refine x_metV (cc := cX2_addWish) (maxL := 2) RX2 rfl (by decide) rfl (fun ad => Nat.le_of_ble_eq_true rfl) (fun ad v hv => ?_) (fun p l e s m args below meth c D cs ad C hr => ?_)
  · simp only [List.mem_cons, List.not_mem_nil, or_false] at hv
    rcases hv with rfl | rfl <;> rfl
  · show V p l e (rmk 0) s m args below meth c 2 D cs ad (QV below s args D cs ad M') 0 [some (.ref (ad a0)), some (.int a1)] [] M
    refine x_aload_n C dX2_addWish_0 rfl rfl ?_
    refine x_geti (Cn := RX2) (T := TX2) (N := 9) C t0 (by decide) rfl nX2_addWish_2 1 (by decide) rfl kX2_addWish_15 rfl dX2_addWish_1 ?_
    refine x_bipush (v := (6 : Int32)) C dX2_addWish_4 (by decide) ?_
    refine x_icmp_ge (tgt := 29) C dX2_addWish_6 (by decide) (fun q1 => ?_) (fun q1 => ?_)
    · have hf := ift q1 hf
      exact x_vret C hr hf dX2_addWish_29
    · have hf := iff_ q1 hf
      refine x_aload_n C dX2_addWish_9 rfl rfl ?_
      refine x_getr (Cn := RX2) (T := TX2) (N := 9) C t0 (by decide) rfl nX2_addWish_2 0 (by decide) rfl kX2_addWish_9 rfl dX2_addWish_10 (a0 + 1) rfl ?_
      refine x_aload_n C dX2_addWish_13 rfl rfl ?_
      refine x_geti (Cn := RX2) (T := TX2) (N := 9) C t0 (by decide) rfl nX2_addWish_2 1 (by decide) rfl kX2_addWish_15 rfl dX2_addWish_14 ?_
      refine x_iload_n C dX2_addWish_17 rfl rfl ?_
      obtain ⟨g2, hf⟩ := ck_of hf
      refine x_iast (j := ((M a0 1)).toNatClampNeg) C (tf_2_0 t0) (tl_2_0 t0) g2 rfl dX2_addWish_18 ?_
      refine x_gen hf (fun M3 hf => ?_)
      refine x_aload_n C dX2_addWish_19 rfl rfl ?_
      refine x_dup C dX2_addWish_20 rfl ?_
      refine x_geti (Cn := RX2) (T := TX2) (N := 9) C t0 (by decide) rfl nX2_addWish_2 1 (by decide) rfl kX2_addWish_15 rfl dX2_addWish_21 ?_
      refine x_iconst (v := (1 : Int32)) C dX2_addWish_24 (by decide) ?_
      refine x_iadd C dX2_addWish_25 ?_
      refine x_puti (ty := .int) (Cn := RX2) (T := TX2) (N := 9) C t0 (by decide) rfl nX2_addWish_2 tyX2 tyX2_ok nmX2 1 (by decide) rfl kX2_addWish_15 rfl rfl (by decide +kernel) rfl rfl dX2_addWish_26 ?_
      refine x_gen hf (fun M4 hf => ?_)
      exact x_vret C hr hf dX2_addWish_29

theorem kX2_begin_15 : Cond.fieldLink RX2 15 "FlatLottery$Household" "wishCount" "I" ∈ wsX2_begin := List.mem_of_getElem? (i := 1) rfl
theorem kX2_begin_19 : Cond.fieldLink RX2 19 "FlatLottery$Household" "members" "I" ∈ wsX2_begin := List.mem_of_getElem? (i := 2) rfl
theorem kX2_begin_22 : Cond.fieldLink RX2 22 "FlatLottery$Household" "income" "I" ∈ wsX2_begin := List.mem_of_getElem? (i := 3) rfl
theorem kX2_begin_25 : Cond.fieldLink RX2 25 "FlatLottery$Household" "number" "I" ∈ wsX2_begin := List.mem_of_getElem? (i := 4) rfl
theorem kX2_begin_28 : Cond.fieldLink RX2 28 "FlatLottery$Household" "points" "I" ∈ wsX2_begin := List.mem_of_getElem? (i := 5) rfl
theorem kX2_begin_31 : Cond.fieldLink RX2 31 "FlatLottery$Household" "held" "I" ∈ wsX2_begin := List.mem_of_getElem? (i := 6) rfl
theorem kX2_begin_34 : Cond.fieldLink RX2 34 "FlatLottery$Household" "appeals" "I" ∈ wsX2_begin := List.mem_of_getElem? (i := 7) rfl
theorem kX2_begin_37 : Cond.fieldLink RX2 37 "FlatLottery$Household" "passedOver" "I" ∈ wsX2_begin := List.mem_of_getElem? (i := 8) rfl
theorem nX2_begin_2 : ∀ w ∈ u_ws RX2 TX2 9, w ∈ wsX2_begin := in_r [9, 10, 11, 12, 13, 14, 15, 16, 17] (by decide +kernel)
set_option maxHeartbeats 4000000 in
set_option maxRecDepth 100000 in
theorem c_X2_begin {a0 : Nat} {a1 : Int32} {a2 : Int32} {M : Mem} {r : Int32} {M' : Mem} (t0 : tg a0 = 2) (hf : f_X2_begin a0 a1 a2 M = some (r, M')) : CnV yX2_begin wsX2_begin 0 (fun ad => [.ref (ad a0), .int a1, .int a2]) M M' := by
  unfold f_X2_begin at hf
  refine x_metV (cc := cX2_begin) (maxL := 3) RX2 rfl (by decide) rfl (fun ad => Nat.le_of_ble_eq_true rfl) (fun ad v hv => ?_) (fun p l e s m args below meth c D cs ad C hr => ?_)
  · simp only [List.mem_cons, List.not_mem_nil, or_false] at hv
    rcases hv with rfl | rfl | rfl <;> rfl
  · show V p l e (rmk 0) s m args below meth c 3 D cs ad (QV below s args D cs ad M') 0 [some (.ref (ad a0)), some (.int a1), some (.int a2)] [] M
    refine x_aload_n C dX2_begin_0 rfl rfl ?_
    refine x_iconst (v := (0 : Int32)) C dX2_begin_1 (by decide) ?_
    refine x_puti (ty := .int) (Cn := RX2) (T := TX2) (N := 9) C t0 (by decide) rfl nX2_begin_2 tyX2 tyX2_ok nmX2 1 (by decide) rfl kX2_begin_15 rfl rfl (by decide +kernel) rfl rfl dX2_begin_2 ?_
    refine x_gen hf (fun M1 hf => ?_)
    refine x_aload_n C dX2_begin_5 rfl rfl ?_
    refine x_iload_n C dX2_begin_6 rfl rfl ?_
    refine x_puti (ty := .int) (Cn := RX2) (T := TX2) (N := 9) C t0 (by decide) rfl nX2_begin_2 tyX2 tyX2_ok nmX2 2 (by decide) rfl kX2_begin_19 rfl rfl (by decide +kernel) rfl rfl dX2_begin_7 ?_
    refine x_gen hf (fun M2 hf => ?_)
    refine x_aload_n C dX2_begin_10 rfl rfl ?_
    refine x_iload_n C dX2_begin_11 rfl rfl ?_
    refine x_puti (ty := .int) (Cn := RX2) (T := TX2) (N := 9) C t0 (by decide) rfl nX2_begin_2 tyX2 tyX2_ok nmX2 3 (by decide) rfl kX2_begin_22 rfl rfl (by decide +kernel) rfl rfl dX2_begin_12 ?_
    refine x_gen hf (fun M3 hf => ?_)
    refine x_aload_n C dX2_begin_15 rfl rfl ?_
    refine x_bipush (v := (-5 : Int32)) C dX2_begin_16 (by decide) ?_
    refine x_puti (ty := .int) (Cn := RX2) (T := TX2) (N := 9) C t0 (by decide) rfl nX2_begin_2 tyX2 tyX2_ok nmX2 4 (by decide) rfl kX2_begin_25 rfl rfl (by decide +kernel) rfl rfl dX2_begin_18 ?_
    refine x_gen hf (fun M4 hf => ?_)
    refine x_aload_n C dX2_begin_21 rfl rfl ?_
    refine x_iconst (v := (0 : Int32)) C dX2_begin_22 (by decide) ?_
    refine x_puti (ty := .int) (Cn := RX2) (T := TX2) (N := 9) C t0 (by decide) rfl nX2_begin_2 tyX2 tyX2_ok nmX2 5 (by decide) rfl kX2_begin_28 rfl rfl (by decide +kernel) rfl rfl dX2_begin_23 ?_
    refine x_gen hf (fun M5 hf => ?_)
    refine x_aload_n C dX2_begin_26 rfl rfl ?_
    refine x_bipush (v := (-5 : Int32)) C dX2_begin_27 (by decide) ?_
    refine x_puti (ty := .int) (Cn := RX2) (T := TX2) (N := 9) C t0 (by decide) rfl nX2_begin_2 tyX2 tyX2_ok nmX2 6 (by decide) rfl kX2_begin_31 rfl rfl (by decide +kernel) rfl rfl dX2_begin_29 ?_
    refine x_gen hf (fun M6 hf => ?_)
    refine x_aload_n C dX2_begin_32 rfl rfl ?_
    refine x_iconst (v := (0 : Int32)) C dX2_begin_33 (by decide) ?_
    refine x_puti (ty := .int) (Cn := RX2) (T := TX2) (N := 9) C t0 (by decide) rfl nX2_begin_2 tyX2 tyX2_ok nmX2 7 (by decide) rfl kX2_begin_34 rfl rfl (by decide +kernel) rfl rfl dX2_begin_34 ?_
    refine x_gen hf (fun M7 hf => ?_)
    refine x_aload_n C dX2_begin_37 rfl rfl ?_
    refine x_iconst (v := (0 : Int32)) C dX2_begin_38 (by decide) ?_
    refine x_puti (ty := .int) (Cn := RX2) (T := TX2) (N := 9) C t0 (by decide) rfl nX2_begin_2 tyX2 tyX2_ok nmX2 8 (by decide) rfl kX2_begin_37 rfl rfl (by decide +kernel) rfl rfl dX2_begin_39 ?_
    refine x_gen hf (fun M8 hf => ?_)
    exact x_vret C hr hf dX2_begin_42

theorem kX2_copyFrom_9 : Cond.fieldLink RX2 9 "FlatLottery$Household" "wishes" "[I" ∈ wsX2_copyFrom := List.mem_of_getElem? (i := 1) rfl
theorem kX2_copyFrom_15 : Cond.fieldLink RX2 15 "FlatLottery$Household" "wishCount" "I" ∈ wsX2_copyFrom := List.mem_of_getElem? (i := 2) rfl
theorem kX2_copyFrom_19 : Cond.fieldLink RX2 19 "FlatLottery$Household" "members" "I" ∈ wsX2_copyFrom := List.mem_of_getElem? (i := 3) rfl
theorem kX2_copyFrom_22 : Cond.fieldLink RX2 22 "FlatLottery$Household" "income" "I" ∈ wsX2_copyFrom := List.mem_of_getElem? (i := 4) rfl
theorem kX2_copyFrom_25 : Cond.fieldLink RX2 25 "FlatLottery$Household" "number" "I" ∈ wsX2_copyFrom := List.mem_of_getElem? (i := 5) rfl
theorem kX2_copyFrom_28 : Cond.fieldLink RX2 28 "FlatLottery$Household" "points" "I" ∈ wsX2_copyFrom := List.mem_of_getElem? (i := 6) rfl
theorem kX2_copyFrom_31 : Cond.fieldLink RX2 31 "FlatLottery$Household" "held" "I" ∈ wsX2_copyFrom := List.mem_of_getElem? (i := 7) rfl
theorem kX2_copyFrom_34 : Cond.fieldLink RX2 34 "FlatLottery$Household" "appeals" "I" ∈ wsX2_copyFrom := List.mem_of_getElem? (i := 8) rfl
theorem kX2_copyFrom_37 : Cond.fieldLink RX2 37 "FlatLottery$Household" "passedOver" "I" ∈ wsX2_copyFrom := List.mem_of_getElem? (i := 9) rfl
theorem nX2_copyFrom_2 : ∀ w ∈ u_ws RX2 TX2 9, w ∈ wsX2_copyFrom := in_r [10, 11, 12, 13, 14, 15, 16, 17, 18] (by decide +kernel)
set_option maxHeartbeats 4000000 in
set_option maxRecDepth 100000 in
theorem cl_X2_copyFrom_2 {p : Program} {l : Launch} {e : Env} {s : State} {m : MethodId} {args : Array Value} {below : List Frame} {meth : Method} {c : Code} {D : va_G} {cs : Nat → ClassId} {ad : Nat → Nat} (C : Cx p s m args meth c RX2 cX2_copyFrom 3 wsX2_copyFrom D cs ad) (hr : meth.sig.returnType = none) {a0 : Nat} {a1 : Nat} {r : Int32} {M' : Mem} (t0 : tg a0 = 2) (t1 : tg a1 = 2) {k : Mem → Option (Int32 × Mem)} (hk : ∀ (M : Mem), k M = some (r, M') → V p l e (rmk 0) s m args below meth c 3 D cs ad (QV below s args D cs ad M') 26 [some (.ref (ad a0)), some (.ref (ad a1)), none] [] M) : ∀ (n : Nat) (a2 : Int32) (M : Mem), l_X2_copyFrom_2 a0 a1 k n a2 M = some (r, M') → V p l e (rmk 0) s m args below meth c 3 D cs ad (QV below s args D cs ad M') 2 [some (.ref (ad a0)), some (.ref (ad a1)), some (.int a2)] [] M := by
  intro n
  induction n with
  | zero => intro a2 M hf; cases hf
  | succ n ih =>
    intro a2 M hf
    rw [l_X2_copyFrom_2_s] at hf
    refine x_iload_n C dX2_copyFrom_2 rfl rfl ?_
    refine x_bipush (v := (6 : Int32)) C dX2_copyFrom_3 (by decide) ?_
    refine x_icmp_ge (tgt := 26) C dX2_copyFrom_5 (by decide) (fun q1 => ?_) (fun q1 => ?_)
    · have hf := ift q1 hf
      exact x_weak (hk _ hf) [0, 1] rfl
    · have hf := iff_ q1 hf
      refine x_aload_n C dX2_copyFrom_8 rfl rfl ?_
      refine x_getr (Cn := RX2) (T := TX2) (N := 9) C t0 (by decide) rfl nX2_copyFrom_2 0 (by decide) rfl kX2_copyFrom_9 rfl dX2_copyFrom_9 (a0 + 1) rfl ?_
      refine x_iload_n C dX2_copyFrom_12 rfl rfl ?_
      refine x_aload_n C dX2_copyFrom_13 rfl rfl ?_
      refine x_getr (Cn := RX2) (T := TX2) (N := 9) C t1 (by decide) rfl nX2_copyFrom_2 0 (by decide) rfl kX2_copyFrom_9 rfl dX2_copyFrom_14 (a1 + 1) rfl ?_
      refine x_iload_n C dX2_copyFrom_17 rfl rfl ?_
      obtain ⟨g2, hf⟩ := ck_of hf
      refine x_iald (j := (a2).toNatClampNeg) C (tf_2_0 t1) (tl_2_0 t1) g2 rfl dX2_copyFrom_18 ?_
      obtain ⟨g3, hf⟩ := ck_of hf
      refine x_iast (j := (a2).toNatClampNeg) C (tf_2_0 t0) (tl_2_0 t0) g3 rfl dX2_copyFrom_19 ?_
      refine x_gen hf (fun M4 hf => ?_)
      refine x_iinc (d := (1 : Int32)) (v := (a2 + (1 : Int32))) (lv' := [some (.ref (ad a0)), some (.ref (ad a1)), some (.int (a2 + (1 : Int32)))]) C dX2_copyFrom_20 rfl (by decide) rfl (by decide) rfl ?_
      refine x_goto (tgt := 2) C dX2_copyFrom_23 (by decide) ?_
      exact x_weak (ih _ _ hf) [0, 1, 2] rfl

set_option maxHeartbeats 4000000 in
set_option maxRecDepth 100000 in
theorem c_X2_copyFrom {a0 : Nat} {a1 : Nat} {M : Mem} {r : Int32} {M' : Mem} (t0 : tg a0 = 2) (t1 : tg a1 = 2) (hf : f_X2_copyFrom a0 a1 M = some (r, M')) : CnV yX2_copyFrom wsX2_copyFrom 0 (fun ad => [.ref (ad a0), .ref (ad a1)]) M M' := by
  unfold f_X2_copyFrom at hf
  refine x_metV (cc := cX2_copyFrom) (maxL := 3) RX2 rfl (by decide) rfl (fun ad => Nat.le_of_ble_eq_true rfl) (fun ad v hv => ?_) (fun p l e s m args below meth c D cs ad C hr => ?_)
  · simp only [List.mem_cons, List.not_mem_nil, or_false] at hv
    rcases hv with rfl | rfl <;> rfl
  · show V p l e (rmk 0) s m args below meth c 3 D cs ad (QV below s args D cs ad M') 0 [some (.ref (ad a0)), some (.ref (ad a1)), none] [] M
    refine x_iconst (v := (0 : Int32)) C dX2_copyFrom_0 (by decide) ?_
    refine x_istore_n (lv' := [some (.ref (ad a0)), some (.ref (ad a1)), some (.int (0 : Int32))]) C dX2_copyFrom_1 rfl (by decide) rfl ?_
    refine x_weak (cl_X2_copyFrom_2 C hr t0 t1 (fun M5 hf => ?_) _ _ _ hf) [0, 1, 2] rfl
    refine x_aload_n C dX2_copyFrom_26 rfl rfl ?_
    refine x_aload_n C dX2_copyFrom_27 rfl rfl ?_
    refine x_geti (Cn := RX2) (T := TX2) (N := 9) C t1 (by decide) rfl nX2_copyFrom_2 1 (by decide) rfl kX2_copyFrom_15 rfl dX2_copyFrom_28 ?_
    refine x_puti (ty := .int) (Cn := RX2) (T := TX2) (N := 9) C t0 (by decide) rfl nX2_copyFrom_2 tyX2 tyX2_ok nmX2 1 (by decide) rfl kX2_copyFrom_15 rfl rfl (by decide +kernel) rfl rfl dX2_copyFrom_31 ?_
    refine x_gen hf (fun M6 hf => ?_)
    refine x_aload_n C dX2_copyFrom_34 rfl rfl ?_
    refine x_aload_n C dX2_copyFrom_35 rfl rfl ?_
    refine x_geti (Cn := RX2) (T := TX2) (N := 9) C t1 (by decide) rfl nX2_copyFrom_2 2 (by decide) rfl kX2_copyFrom_19 rfl dX2_copyFrom_36 ?_
    refine x_puti (ty := .int) (Cn := RX2) (T := TX2) (N := 9) C t0 (by decide) rfl nX2_copyFrom_2 tyX2 tyX2_ok nmX2 2 (by decide) rfl kX2_copyFrom_19 rfl rfl (by decide +kernel) rfl rfl dX2_copyFrom_39 ?_
    refine x_gen hf (fun M7 hf => ?_)
    refine x_aload_n C dX2_copyFrom_42 rfl rfl ?_
    refine x_aload_n C dX2_copyFrom_43 rfl rfl ?_
    refine x_geti (Cn := RX2) (T := TX2) (N := 9) C t1 (by decide) rfl nX2_copyFrom_2 3 (by decide) rfl kX2_copyFrom_22 rfl dX2_copyFrom_44 ?_
    refine x_puti (ty := .int) (Cn := RX2) (T := TX2) (N := 9) C t0 (by decide) rfl nX2_copyFrom_2 tyX2 tyX2_ok nmX2 3 (by decide) rfl kX2_copyFrom_22 rfl rfl (by decide +kernel) rfl rfl dX2_copyFrom_47 ?_
    refine x_gen hf (fun M8 hf => ?_)
    refine x_aload_n C dX2_copyFrom_50 rfl rfl ?_
    refine x_aload_n C dX2_copyFrom_51 rfl rfl ?_
    refine x_geti (Cn := RX2) (T := TX2) (N := 9) C t1 (by decide) rfl nX2_copyFrom_2 4 (by decide) rfl kX2_copyFrom_25 rfl dX2_copyFrom_52 ?_
    refine x_puti (ty := .int) (Cn := RX2) (T := TX2) (N := 9) C t0 (by decide) rfl nX2_copyFrom_2 tyX2 tyX2_ok nmX2 4 (by decide) rfl kX2_copyFrom_25 rfl rfl (by decide +kernel) rfl rfl dX2_copyFrom_55 ?_
    refine x_gen hf (fun M9 hf => ?_)
    refine x_aload_n C dX2_copyFrom_58 rfl rfl ?_
    refine x_aload_n C dX2_copyFrom_59 rfl rfl ?_
    refine x_geti (Cn := RX2) (T := TX2) (N := 9) C t1 (by decide) rfl nX2_copyFrom_2 5 (by decide) rfl kX2_copyFrom_28 rfl dX2_copyFrom_60 ?_
    refine x_puti (ty := .int) (Cn := RX2) (T := TX2) (N := 9) C t0 (by decide) rfl nX2_copyFrom_2 tyX2 tyX2_ok nmX2 5 (by decide) rfl kX2_copyFrom_28 rfl rfl (by decide +kernel) rfl rfl dX2_copyFrom_63 ?_
    refine x_gen hf (fun M10 hf => ?_)
    refine x_aload_n C dX2_copyFrom_66 rfl rfl ?_
    refine x_aload_n C dX2_copyFrom_67 rfl rfl ?_
    refine x_geti (Cn := RX2) (T := TX2) (N := 9) C t1 (by decide) rfl nX2_copyFrom_2 6 (by decide) rfl kX2_copyFrom_31 rfl dX2_copyFrom_68 ?_
    refine x_puti (ty := .int) (Cn := RX2) (T := TX2) (N := 9) C t0 (by decide) rfl nX2_copyFrom_2 tyX2 tyX2_ok nmX2 6 (by decide) rfl kX2_copyFrom_31 rfl rfl (by decide +kernel) rfl rfl dX2_copyFrom_71 ?_
    refine x_gen hf (fun M11 hf => ?_)
    refine x_aload_n C dX2_copyFrom_74 rfl rfl ?_
    refine x_aload_n C dX2_copyFrom_75 rfl rfl ?_
    refine x_geti (Cn := RX2) (T := TX2) (N := 9) C t1 (by decide) rfl nX2_copyFrom_2 7 (by decide) rfl kX2_copyFrom_34 rfl dX2_copyFrom_76 ?_
    refine x_puti (ty := .int) (Cn := RX2) (T := TX2) (N := 9) C t0 (by decide) rfl nX2_copyFrom_2 tyX2 tyX2_ok nmX2 7 (by decide) rfl kX2_copyFrom_34 rfl rfl (by decide +kernel) rfl rfl dX2_copyFrom_79 ?_
    refine x_gen hf (fun M12 hf => ?_)
    refine x_aload_n C dX2_copyFrom_82 rfl rfl ?_
    refine x_aload_n C dX2_copyFrom_83 rfl rfl ?_
    refine x_geti (Cn := RX2) (T := TX2) (N := 9) C t1 (by decide) rfl nX2_copyFrom_2 8 (by decide) rfl kX2_copyFrom_37 rfl dX2_copyFrom_84 ?_
    refine x_puti (ty := .int) (Cn := RX2) (T := TX2) (N := 9) C t0 (by decide) rfl nX2_copyFrom_2 tyX2 tyX2_ok nmX2 8 (by decide) rfl kX2_copyFrom_37 rfl rfl (by decide +kernel) rfl rfl dX2_copyFrom_87 ?_
    refine x_gen hf (fun M13 hf => ?_)
    exact x_vret C hr hf dX2_copyFrom_90

theorem kX2_isEligibleFor_19 : Cond.fieldLink RX2 19 "FlatLottery$Household" "members" "I" ∈ wsX2_isEligibleFor := List.mem_of_getElem? (i := 1) rfl
theorem kX2_isEligibleFor_22 : Cond.fieldLink RX2 22 "FlatLottery$Household" "income" "I" ∈ wsX2_isEligibleFor := List.mem_of_getElem? (i := 4) rfl
theorem kX2_isEligibleFor_44 : Cond.fieldLink RX2 44 "FlatLottery$Flat" "rooms" "I" ∈ wsX2_isEligibleFor := List.mem_of_getElem? (i := 2) rfl
theorem kX2_isEligibleFor_49 : Cond.fieldLink RX2 49 "FlatLottery$Flat" "rent" "I" ∈ wsX2_isEligibleFor := List.mem_of_getElem? (i := 3) rfl
theorem nX2_isEligibleFor_0 : ∀ w ∈ u_ws RX0 TX0 2, w ∈ wsX2_isEligibleFor := in_r [14, 15] (by decide +kernel)
theorem nX2_isEligibleFor_2 : ∀ w ∈ u_ws RX2 TX2 9, w ∈ wsX2_isEligibleFor := in_r [5, 6, 7, 8, 9, 10, 11, 12, 13] (by decide +kernel)
set_option maxHeartbeats 4000000 in
set_option maxRecDepth 100000 in
theorem c_X2_isEligibleFor {a0 : Nat} {a1 : Nat} {M : Mem} {r : Int32} {M' : Mem} (t0 : tg a0 = 2) (t1 : tg a1 = 0) (hf : f_X2_isEligibleFor a0 a1 M = some (r, M')) : CnI yX2_isEligibleFor wsX2_isEligibleFor 0 (fun ad => [.ref (ad a0), .ref (ad a1)]) M r M' := by
  unfold f_X2_isEligibleFor at hf
  refine x_metI (cc := cX2_isEligibleFor) (maxL := 2) RX2 rfl (by decide) rfl (fun ad => Nat.le_of_ble_eq_true rfl) (fun ad v hv => ?_) (fun p l e s m args below meth c D cs ad C hr => ?_)
  · simp only [List.mem_cons, List.not_mem_nil, or_false] at hv
    rcases hv with rfl | rfl <;> rfl
  · show V p l e (rmk 0) s m args below meth c 2 D cs ad (QI below s args D cs ad r M') 0 [some (.ref (ad a0)), some (.ref (ad a1))] [] M
    refine x_aload_n C dX2_isEligibleFor_0 rfl rfl ?_
    refine x_geti (Cn := RX2) (T := TX2) (N := 9) C t0 (by decide) rfl nX2_isEligibleFor_2 2 (by decide) rfl kX2_isEligibleFor_19 rfl dX2_isEligibleFor_1 ?_
    refine x_iconst (v := (2 : Int32)) C dX2_isEligibleFor_4 (by decide) ?_
    refine x_aload_n C dX2_isEligibleFor_5 rfl rfl ?_
    refine x_geti (Cn := RX0) (T := TX0) (N := 2) C t1 (by decide) rfl nX2_isEligibleFor_0 0 (by decide) rfl kX2_isEligibleFor_44 rfl dX2_isEligibleFor_6 ?_
    refine x_imul C dX2_isEligibleFor_9 ?_
    refine x_icmp_gt (tgt := 43) C dX2_isEligibleFor_10 (by decide) (fun q1 => ?_) (fun q1 => ?_)
    · have hf := ift q1 hf
      refine x_iconst (v := (0 : Int32)) C dX2_isEligibleFor_43 (by decide) ?_
      exact x_zret C hr rfl hf dX2_isEligibleFor_44
    · have hf := iff_ q1 hf
      refine x_aload_n C dX2_isEligibleFor_13 rfl rfl ?_
      refine x_geti (Cn := RX0) (T := TX0) (N := 2) C t1 (by decide) rfl nX2_isEligibleFor_0 0 (by decide) rfl kX2_isEligibleFor_44 rfl dX2_isEligibleFor_14 ?_
      refine x_aload_n C dX2_isEligibleFor_17 rfl rfl ?_
      refine x_geti (Cn := RX2) (T := TX2) (N := 9) C t0 (by decide) rfl nX2_isEligibleFor_2 2 (by decide) rfl kX2_isEligibleFor_19 rfl dX2_isEligibleFor_18 ?_
      refine x_iconst (v := (1 : Int32)) C dX2_isEligibleFor_21 (by decide) ?_
      refine x_iadd C dX2_isEligibleFor_22 ?_
      refine x_icmp_gt (tgt := 43) C dX2_isEligibleFor_23 (by decide) (fun q2 => ?_) (fun q2 => ?_)
      · have hf := ift q2 hf
        refine x_iconst (v := (0 : Int32)) C dX2_isEligibleFor_43 (by decide) ?_
        exact x_zret C hr rfl hf dX2_isEligibleFor_44
      · have hf := iff_ q2 hf
        refine x_iconst (v := (3 : Int32)) C dX2_isEligibleFor_26 (by decide) ?_
        refine x_aload_n C dX2_isEligibleFor_27 rfl rfl ?_
        refine x_geti (Cn := RX0) (T := TX0) (N := 2) C t1 (by decide) rfl nX2_isEligibleFor_0 1 (by decide) rfl kX2_isEligibleFor_49 rfl dX2_isEligibleFor_28 ?_
        refine x_imul C dX2_isEligibleFor_31 ?_
        refine x_aload_n C dX2_isEligibleFor_32 rfl rfl ?_
        refine x_geti (Cn := RX2) (T := TX2) (N := 9) C t0 (by decide) rfl nX2_isEligibleFor_2 3 (by decide) rfl kX2_isEligibleFor_22 rfl dX2_isEligibleFor_33 ?_
        refine x_icmp_gt (tgt := 43) C dX2_isEligibleFor_36 (by decide) (fun q3 => ?_) (fun q3 => ?_)
        · have hf := ift q3 hf
          refine x_iconst (v := (0 : Int32)) C dX2_isEligibleFor_43 (by decide) ?_
          exact x_zret C hr rfl hf dX2_isEligibleFor_44
        · have hf := iff_ q3 hf
          refine x_iconst (v := (1 : Int32)) C dX2_isEligibleFor_39 (by decide) ?_
          refine x_goto (tgt := 44) C dX2_isEligibleFor_40 (by decide) ?_
          exact x_zret C hr rfl hf dX2_isEligibleFor_44

theorem kX2_placeOf_9 : Cond.fieldLink RX2 9 "FlatLottery$Household" "wishes" "[I" ∈ wsX2_placeOf := List.mem_of_getElem? (i := 2) rfl
theorem kX2_placeOf_15 : Cond.fieldLink RX2 15 "FlatLottery$Household" "wishCount" "I" ∈ wsX2_placeOf := List.mem_of_getElem? (i := 1) rfl
theorem nX2_placeOf_2 : ∀ w ∈ u_ws RX2 TX2 9, w ∈ wsX2_placeOf := in_r [3, 4, 5, 6, 7, 8, 9, 10, 11] (by decide +kernel)
set_option maxHeartbeats 4000000 in
set_option maxRecDepth 100000 in
theorem cl_X2_placeOf_2 {p : Program} {l : Launch} {e : Env} {s : State} {m : MethodId} {args : Array Value} {below : List Frame} {meth : Method} {c : Code} {D : va_G} {cs : Nat → ClassId} {ad : Nat → Nat} (C : Cx p s m args meth c RX2 cX2_placeOf 3 wsX2_placeOf D cs ad) (hr : meth.sig.returnType = some .int) {a0 : Nat} {a1 : Int32} {r : Int32} {M' : Mem} (t0 : tg a0 = 2) : ∀ (n : Nat) (a2 : Int32) (M : Mem), l_X2_placeOf_2 a0 a1 n a2 M = some (r, M') → V p l e (rmk 0) s m args below meth c 3 D cs ad (QI below s args D cs ad r M') 2 [some (.ref (ad a0)), some (.int a1), some (.int a2)] [] M := by
  intro n
  induction n with
  | zero => intro a2 M hf; cases hf
  | succ n ih =>
    intro a2 M hf
    rw [l_X2_placeOf_2_s] at hf
    refine x_iload_n C dX2_placeOf_2 rfl rfl ?_
    refine x_aload_n C dX2_placeOf_3 rfl rfl ?_
    refine x_geti (Cn := RX2) (T := TX2) (N := 9) C t0 (by decide) rfl nX2_placeOf_2 1 (by decide) rfl kX2_placeOf_15 rfl dX2_placeOf_4 ?_
    refine x_icmp_ge (tgt := 28) C dX2_placeOf_7 (by decide) (fun q1 => ?_) (fun q1 => ?_)
    · have hf := ift q1 hf
      refine x_bipush (v := (-5 : Int32)) C dX2_placeOf_28 (by decide) ?_
      exact x_iret C hr hf dX2_placeOf_30
    · have hf := iff_ q1 hf
      refine x_aload_n C dX2_placeOf_10 rfl rfl ?_
      refine x_getr (Cn := RX2) (T := TX2) (N := 9) C t0 (by decide) rfl nX2_placeOf_2 0 (by decide) rfl kX2_placeOf_9 rfl dX2_placeOf_11 (a0 + 1) rfl ?_
      refine x_iload_n C dX2_placeOf_14 rfl rfl ?_
      obtain ⟨g2, hf⟩ := ck_of hf
      refine x_iald (j := (a2).toNatClampNeg) C (tf_2_0 t0) (tl_2_0 t0) g2 rfl dX2_placeOf_15 ?_
      refine x_iload_n C dX2_placeOf_16 rfl rfl ?_
      refine x_icmp_ne (tgt := 22) C dX2_placeOf_17 (by decide) (fun q3 => ?_) (fun q3 => ?_)
      · have hf := ift q3 hf
        refine x_iload_n C dX2_placeOf_20 rfl rfl ?_
        exact x_iret C hr hf dX2_placeOf_21
      · have hf := iff_ q3 hf
        refine x_iinc (d := (1 : Int32)) (v := (a2 + (1 : Int32))) (lv' := [some (.ref (ad a0)), some (.int a1), some (.int (a2 + (1 : Int32)))]) C dX2_placeOf_22 rfl (by decide) rfl (by decide) rfl ?_
        refine x_goto (tgt := 2) C dX2_placeOf_25 (by decide) ?_
        exact x_weak (ih _ _ hf) [0, 1, 2] rfl

set_option maxHeartbeats 4000000 in
set_option maxRecDepth 100000 in
theorem c_X2_placeOf {a0 : Nat} {a1 : Int32} {M : Mem} {r : Int32} {M' : Mem} (t0 : tg a0 = 2) (hf : f_X2_placeOf a0 a1 M = some (r, M')) : CnI yX2_placeOf wsX2_placeOf 0 (fun ad => [.ref (ad a0), .int a1]) M r M' := by
  unfold f_X2_placeOf at hf
  refine x_metI (cc := cX2_placeOf) (maxL := 3) RX2 rfl (by decide) rfl (fun ad => Nat.le_of_ble_eq_true rfl) (fun ad v hv => ?_) (fun p l e s m args below meth c D cs ad C hr => ?_)
  · simp only [List.mem_cons, List.not_mem_nil, or_false] at hv
    rcases hv with rfl | rfl <;> rfl
  · show V p l e (rmk 0) s m args below meth c 3 D cs ad (QI below s args D cs ad r M') 0 [some (.ref (ad a0)), some (.int a1), none] [] M
    refine x_iconst (v := (0 : Int32)) C dX2_placeOf_0 (by decide) ?_
    refine x_istore_n (lv' := [some (.ref (ad a0)), some (.int a1), some (.int (0 : Int32))]) C dX2_placeOf_1 rfl (by decide) rfl ?_
    exact x_weak (cl_X2_placeOf_2 C hr t0 _ _ _ hf) [0, 1, 2] rfl

theorem kX2_standsAheadOf_25 : Cond.fieldLink RX2 25 "FlatLottery$Household" "number" "I" ∈ wsX2_standsAheadOf := List.mem_of_getElem? (i := 1) rfl
theorem kX2_standsAheadOf_28 : Cond.fieldLink RX2 28 "FlatLottery$Household" "points" "I" ∈ wsX2_standsAheadOf := List.mem_of_getElem? (i := 2) rfl
theorem nX2_standsAheadOf_2 : ∀ w ∈ u_ws RX2 TX2 9, w ∈ wsX2_standsAheadOf := in_r [3, 4, 5, 6, 7, 8, 9, 10, 11] (by decide +kernel)
set_option maxHeartbeats 4000000 in
set_option maxRecDepth 100000 in
theorem c_X2_standsAheadOf {a0 : Nat} {a1 : Nat} {M : Mem} {r : Int32} {M' : Mem} (t0 : tg a0 = 2) (t1 : tg a1 = 2) (hf : f_X2_standsAheadOf a0 a1 M = some (r, M')) : CnI yX2_standsAheadOf wsX2_standsAheadOf 0 (fun ad => [.ref (ad a0), .ref (ad a1)]) M r M' := by
  unfold f_X2_standsAheadOf at hf
  refine x_metI (cc := cX2_standsAheadOf) (maxL := 2) RX2 rfl (by decide) rfl (fun ad => Nat.le_of_ble_eq_true rfl) (fun ad v hv => ?_) (fun p l e s m args below meth c D cs ad C hr => ?_)
  · simp only [List.mem_cons, List.not_mem_nil, or_false] at hv
    rcases hv with rfl | rfl <;> rfl
  · show V p l e (rmk 0) s m args below meth c 2 D cs ad (QI below s args D cs ad r M') 0 [some (.ref (ad a0)), some (.ref (ad a1))] [] M
    refine x_aload_n C dX2_standsAheadOf_0 rfl rfl ?_
    refine x_geti (Cn := RX2) (T := TX2) (N := 9) C t0 (by decide) rfl nX2_standsAheadOf_2 4 (by decide) rfl kX2_standsAheadOf_25 rfl dX2_standsAheadOf_1 ?_
    refine x_bipush (v := (-5 : Int32)) C dX2_standsAheadOf_4 (by decide) ?_
    refine x_icmp_ne (tgt := 11) C dX2_standsAheadOf_6 (by decide) (fun q1 => ?_) (fun q1 => ?_)
    · have hf := ift q1 hf
      refine x_iconst (v := (0 : Int32)) C dX2_standsAheadOf_9 (by decide) ?_
      exact x_zret C hr rfl hf dX2_standsAheadOf_10
    · have hf := iff_ q1 hf
      refine x_aload_n C dX2_standsAheadOf_11 rfl rfl ?_
      refine x_geti (Cn := RX2) (T := TX2) (N := 9) C t1 (by decide) rfl nX2_standsAheadOf_2 4 (by decide) rfl kX2_standsAheadOf_25 rfl dX2_standsAheadOf_12 ?_
      refine x_bipush (v := (-5 : Int32)) C dX2_standsAheadOf_15 (by decide) ?_
      refine x_icmp_ne (tgt := 22) C dX2_standsAheadOf_17 (by decide) (fun q2 => ?_) (fun q2 => ?_)
      · have hf := ift q2 hf
        refine x_iconst (v := (1 : Int32)) C dX2_standsAheadOf_20 (by decide) ?_
        exact x_zret C hr rfl hf dX2_standsAheadOf_21
      · have hf := iff_ q2 hf
        refine x_aload_n C dX2_standsAheadOf_22 rfl rfl ?_
        refine x_geti (Cn := RX2) (T := TX2) (N := 9) C t0 (by decide) rfl nX2_standsAheadOf_2 5 (by decide) rfl kX2_standsAheadOf_28 rfl dX2_standsAheadOf_23 ?_
        refine x_aload_n C dX2_standsAheadOf_26 rfl rfl ?_
        refine x_geti (Cn := RX2) (T := TX2) (N := 9) C t1 (by decide) rfl nX2_standsAheadOf_2 5 (by decide) rfl kX2_standsAheadOf_28 rfl dX2_standsAheadOf_27 ?_
        refine x_icmp_eq (tgt := 50) C dX2_standsAheadOf_30 (by decide) (fun q3 => ?_) (fun q3 => ?_)
        · have hf := ift q3 hf
          refine x_aload_n C dX2_standsAheadOf_50 rfl rfl ?_
          refine x_geti (Cn := RX2) (T := TX2) (N := 9) C t0 (by decide) rfl nX2_standsAheadOf_2 4 (by decide) rfl kX2_standsAheadOf_25 rfl dX2_standsAheadOf_51 ?_
          refine x_aload_n C dX2_standsAheadOf_54 rfl rfl ?_
          refine x_geti (Cn := RX2) (T := TX2) (N := 9) C t1 (by decide) rfl nX2_standsAheadOf_2 4 (by decide) rfl kX2_standsAheadOf_25 rfl dX2_standsAheadOf_55 ?_
          refine x_icmp_ge (tgt := 65) C dX2_standsAheadOf_58 (by decide) (fun q4 => ?_) (fun q4 => ?_)
          · have hf := ift q4 hf
            refine x_iconst (v := (0 : Int32)) C dX2_standsAheadOf_65 (by decide) ?_
            exact x_zret C hr rfl hf dX2_standsAheadOf_66
          · have hf := iff_ q4 hf
            refine x_iconst (v := (1 : Int32)) C dX2_standsAheadOf_61 (by decide) ?_
            refine x_goto (tgt := 66) C dX2_standsAheadOf_62 (by decide) ?_
            exact x_zret C hr rfl hf dX2_standsAheadOf_66
        · have hf := iff_ q3 hf
          refine x_aload_n C dX2_standsAheadOf_33 rfl rfl ?_
          refine x_geti (Cn := RX2) (T := TX2) (N := 9) C t0 (by decide) rfl nX2_standsAheadOf_2 5 (by decide) rfl kX2_standsAheadOf_28 rfl dX2_standsAheadOf_34 ?_
          refine x_aload_n C dX2_standsAheadOf_37 rfl rfl ?_
          refine x_geti (Cn := RX2) (T := TX2) (N := 9) C t1 (by decide) rfl nX2_standsAheadOf_2 5 (by decide) rfl kX2_standsAheadOf_28 rfl dX2_standsAheadOf_38 ?_
          refine x_icmp_le (tgt := 48) C dX2_standsAheadOf_41 (by decide) (fun q5 => ?_) (fun q5 => ?_)
          · have hf := ift q5 hf
            refine x_iconst (v := (0 : Int32)) C dX2_standsAheadOf_48 (by decide) ?_
            exact x_zret C hr rfl hf dX2_standsAheadOf_49
          · have hf := iff_ q5 hf
            refine x_iconst (v := (1 : Int32)) C dX2_standsAheadOf_44 (by decide) ?_
            refine x_goto (tgt := 49) C dX2_standsAheadOf_45 (by decide) ?_
            exact x_zret C hr rfl hf dX2_standsAheadOf_49

theorem kX3_append_9 : Cond.fieldLink RX3 9 "FlatLottery$ListText" "characters" "[C" ∈ wsX3_append := List.mem_of_getElem? (i := 2) rfl
theorem kX3_append_25 : Cond.fieldLink RX3 25 "FlatLottery$ListText" "length" "I" ∈ wsX3_append := List.mem_of_getElem? (i := 1) rfl
theorem nX3_append_3 : ∀ w ∈ u_ws RX3 TX3 7, w ∈ wsX3_append := in_r [3, 4, 5, 6, 7, 8, 9] (by decide +kernel)
set_option maxHeartbeats 4000000 in
set_option maxRecDepth 100000 in
theorem c_X3_append {a1 : Int32} {M : Mem} {r : Int32} {M' : Mem}  (hf : f_X3_append a1 M = some (r, M')) : CnI yX3_append wsX3_append 0 (fun ad => [.ref (ad 243), .int a1]) M r M' := by
  unfold f_X3_append at hf
  refine x_metI (cc := cX3_append) (maxL := 2) RX3 rfl (by decide) rfl (fun ad => Nat.le_of_ble_eq_true rfl) (fun ad v hv => ?_) (fun p l e s m args below meth c D cs ad C hr => ?_)
  · simp only [List.mem_cons, List.not_mem_nil, or_false] at hv
    rcases hv with rfl | rfl <;> rfl
  · show V p l e (rmk 0) s m args below meth c 2 D cs ad (QI below s args D cs ad r M') 0 [some (.ref (ad 243)), some (.int a1)] [] M
    refine x_aload_n C dX3_append_0 rfl rfl ?_
    refine x_geti (Cn := RX3) (T := TX3) (N := 7) C tg_243 (by decide) rfl nX3_append_3 1 (by decide) rfl kX3_append_25 rfl dX3_append_1 ?_
    refine x_bipush (v := (60 : Int32)) C dX3_append_4 (by decide) ?_
    refine x_icmp_lt (tgt := 11) C dX3_append_6 (by decide) (fun q1 => ?_) (fun q1 => ?_)
    · have hf := ift q1 hf
      refine x_aload_n C dX3_append_11 rfl rfl ?_
      refine x_getr (Cn := RX3) (T := TX3) (N := 7) C tg_243 (by decide) rfl nX3_append_3 0 (by decide) rfl kX3_append_9 rfl dX3_append_12 244 rfl ?_
      refine x_aload_n C dX3_append_15 rfl rfl ?_
      refine x_geti (Cn := RX3) (T := TX3) (N := 7) C tg_243 (by decide) rfl nX3_append_3 1 (by decide) rfl kX3_append_25 rfl dX3_append_16 ?_
      refine x_iload_n C dX3_append_19 rfl rfl ?_
      obtain ⟨g2, hf⟩ := ck_of hf
      refine x_cast (j := ((M 243 1)).toNatClampNeg) C tg_244 tl_244 g2 rfl dX3_append_20 ?_
      refine x_gen hf (fun M3 hf => ?_)
      refine x_aload_n C dX3_append_21 rfl rfl ?_
      refine x_dup C dX3_append_22 rfl ?_
      refine x_geti (Cn := RX3) (T := TX3) (N := 7) C tg_243 (by decide) rfl nX3_append_3 1 (by decide) rfl kX3_append_25 rfl dX3_append_23 ?_
      refine x_iconst (v := (1 : Int32)) C dX3_append_26 (by decide) ?_
      refine x_iadd C dX3_append_27 ?_
      refine x_puti (ty := .int) (Cn := RX3) (T := TX3) (N := 7) C tg_243 (by decide) rfl nX3_append_3 tyX3 tyX3_ok nmX3 1 (by decide) rfl kX3_append_25 rfl rfl (by decide +kernel) rfl rfl dX3_append_28 ?_
      refine x_gen hf (fun M4 hf => ?_)
      refine x_iconst (v := (1 : Int32)) C dX3_append_31 (by decide) ?_
      exact x_zret C hr rfl hf dX3_append_32
    · have hf := iff_ q1 hf
      refine x_iconst (v := (0 : Int32)) C dX3_append_9 (by decide) ?_
      exact x_zret C hr rfl hf dX3_append_10

theorem kX3_atHand_9 : Cond.fieldLink RX3 9 "FlatLottery$ListText" "characters" "[C" ∈ wsX3_atHand := List.mem_of_getElem? (i := 3) rfl
theorem kX3_atHand_25 : Cond.fieldLink RX3 25 "FlatLottery$ListText" "length" "I" ∈ wsX3_atHand := List.mem_of_getElem? (i := 2) rfl
theorem kX3_atHand_29 : Cond.fieldLink RX3 29 "FlatLottery$ListText" "at" "I" ∈ wsX3_atHand := List.mem_of_getElem? (i := 1) rfl
theorem nX3_atHand_3 : ∀ w ∈ u_ws RX3 TX3 7, w ∈ wsX3_atHand := in_r [4, 5, 6, 7, 8, 9, 10] (by decide +kernel)
set_option maxHeartbeats 4000000 in
set_option maxRecDepth 100000 in
theorem c_X3_atHand  {M : Mem} {r : Int32} {M' : Mem}  (hf : f_X3_atHand  M = some (r, M')) : CnI yX3_atHand wsX3_atHand 0 (fun ad => [.ref (ad 243)]) M r M' := by
  unfold f_X3_atHand at hf
  refine x_metI (cc := cX3_atHand) (maxL := 1) RX3 rfl (by decide) rfl (fun ad => Nat.le_of_ble_eq_true rfl) (fun ad v hv => ?_) (fun p l e s m args below meth c D cs ad C hr => ?_)
  · simp only [List.mem_cons, List.not_mem_nil, or_false] at hv
    rcases hv with rfl <;> rfl
  · show V p l e (rmk 0) s m args below meth c 1 D cs ad (QI below s args D cs ad r M') 0 [some (.ref (ad 243))] [] M
    refine x_aload_n C dX3_atHand_0 rfl rfl ?_
    refine x_geti (Cn := RX3) (T := TX3) (N := 7) C tg_243 (by decide) rfl nX3_atHand_3 6 (by decide) rfl kX3_atHand_29 rfl dX3_atHand_1 ?_
    refine x_if_lt (tgt := 30) C dX3_atHand_4 (by decide) (fun q1 => ?_) (fun q1 => ?_)
    · have hf := ift q1 hf
      refine x_iconst (v := (-1 : Int32)) C dX3_atHand_30 (by decide) ?_
      exact x_iret C hr hf dX3_atHand_31
    · have hf := iff_ q1 hf
      refine x_aload_n C dX3_atHand_7 rfl rfl ?_
      refine x_geti (Cn := RX3) (T := TX3) (N := 7) C tg_243 (by decide) rfl nX3_atHand_3 6 (by decide) rfl kX3_atHand_29 rfl dX3_atHand_8 ?_
      refine x_aload_n C dX3_atHand_11 rfl rfl ?_
      refine x_geti (Cn := RX3) (T := TX3) (N := 7) C tg_243 (by decide) rfl nX3_atHand_3 1 (by decide) rfl kX3_atHand_25 rfl dX3_atHand_12 ?_
      refine x_icmp_ge (tgt := 30) C dX3_atHand_15 (by decide) (fun q2 => ?_) (fun q2 => ?_)
      · have hf := ift q2 hf
        refine x_iconst (v := (-1 : Int32)) C dX3_atHand_30 (by decide) ?_
        exact x_iret C hr hf dX3_atHand_31
      · have hf := iff_ q2 hf
        refine x_aload_n C dX3_atHand_18 rfl rfl ?_
        refine x_getr (Cn := RX3) (T := TX3) (N := 7) C tg_243 (by decide) rfl nX3_atHand_3 0 (by decide) rfl kX3_atHand_9 rfl dX3_atHand_19 244 rfl ?_
        refine x_aload_n C dX3_atHand_22 rfl rfl ?_
        refine x_geti (Cn := RX3) (T := TX3) (N := 7) C tg_243 (by decide) rfl nX3_atHand_3 6 (by decide) rfl kX3_atHand_29 rfl dX3_atHand_23 ?_
        obtain ⟨g3, hf⟩ := ck_of hf
        refine x_cald (j := ((M 243 6)).toNatClampNeg) C tg_244 tl_244 g3 rfl dX3_atHand_26 ?_
        refine x_goto (tgt := 31) C dX3_atHand_27 (by decide) ?_
        exact x_iret C hr hf dX3_atHand_31

theorem kX3_hasFlatTwiceInList_19 : Cond.fieldLink RX3 19 "FlatLottery$ListText" "listSize" "[I" ∈ wsX3_hasFlatTwiceInList := List.mem_of_getElem? (i := 2) rfl
theorem kX3_hasFlatTwiceInList_22 : Cond.fieldLink RX3 22 "FlatLottery$ListText" "listFlats" "[I" ∈ wsX3_hasFlatTwiceInList := List.mem_of_getElem? (i := 3) rfl
theorem kX3_hasFlatTwiceInList_32 : Cond.fieldLink RX3 32 "FlatLottery$ListText" "listCount" "I" ∈ wsX3_hasFlatTwiceInList := List.mem_of_getElem? (i := 1) rfl
theorem nX3_hasFlatTwiceInList_3 : ∀ w ∈ u_ws RX3 TX3 7, w ∈ wsX3_hasFlatTwiceInList := in_r [4, 5, 6, 7, 8, 9, 10] (by decide +kernel)
set_option maxHeartbeats 4000000 in
set_option maxRecDepth 100000 in
theorem cl_X3_hasFlatTwiceInList_14 {p : Program} {l : Launch} {e : Env} {s : State} {m : MethodId} {args : Array Value} {below : List Frame} {meth : Method} {c : Code} {D : va_G} {cs : Nat → ClassId} {ad : Nat → Nat} (C : Cx p s m args meth c RX3 cX3_hasFlatTwiceInList 5 wsX3_hasFlatTwiceInList D cs ad) (hr : meth.sig.returnType = some .boolean) {a1 : Int32} {r : Int32} {M' : Mem}  {k : Mem → Option (Int32 × Mem)} (hk : ∀ (M : Mem), k M = some (r, M') → V p l e (rmk 0) s m args below meth c 5 D cs ad (QI below s args D cs ad r M') 59 [some (.ref (ad 243)), some (.int a1), none, none, none] [] M) : ∀ (n : Nat) (a2 : Int32) (a3 : Int32) (M : Mem), l_X3_hasFlatTwiceInList_14 a1 k n a2 a3 M = some (r, M') → V p l e (rmk 0) s m args below meth c 5 D cs ad (QI below s args D cs ad r M') 14 [some (.ref (ad 243)), some (.int a1), some (.int a2), some (.int a3), none] [] M := by
  intro n
  induction n with
  | zero => intro a2 a3 M hf; cases hf
  | succ n ih =>
    intro a2 a3 M hf
    rw [l_X3_hasFlatTwiceInList_14_s] at hf
    refine x_iload_n C dX3_hasFlatTwiceInList_14 rfl rfl ?_
    refine x_aload_n C dX3_hasFlatTwiceInList_15 rfl rfl ?_
    refine x_getr (Cn := RX3) (T := TX3) (N := 7) C tg_243 (by decide) rfl nX3_hasFlatTwiceInList_3 4 (by decide) rfl kX3_hasFlatTwiceInList_19 rfl dX3_hasFlatTwiceInList_16 246 rfl ?_
    refine x_iload_n C dX3_hasFlatTwiceInList_19 rfl rfl ?_
    obtain ⟨g2, hf⟩ := ck_of hf
    refine x_iald (j := (a1).toNatClampNeg) C tg_246 tl_246 g2 rfl dX3_hasFlatTwiceInList_20 ?_
    refine x_icmp_ge (tgt := 59) C dX3_hasFlatTwiceInList_21 (by decide) (fun q3 => ?_) (fun q3 => ?_)
    · have hf := ift q3 hf
      exact x_weak (hk _ hf) [0, 1] rfl
    · have hf := iff_ q3 hf
      refine x_iconst (v := (1 : Int32)) C dX3_hasFlatTwiceInList_24 (by decide) ?_
      refine x_aload_n C dX3_hasFlatTwiceInList_25 rfl rfl ?_
      refine x_getr (Cn := RX3) (T := TX3) (N := 7) C tg_243 (by decide) rfl nX3_hasFlatTwiceInList_3 5 (by decide) rfl kX3_hasFlatTwiceInList_22 rfl dX3_hasFlatTwiceInList_26 247 rfl ?_
      refine x_iload_n C dX3_hasFlatTwiceInList_29 rfl rfl ?_
      refine x_bipush (v := (6 : Int32)) C dX3_hasFlatTwiceInList_30 (by decide) ?_
      refine x_imul C dX3_hasFlatTwiceInList_32 ?_
      refine x_iload_n C dX3_hasFlatTwiceInList_33 rfl rfl ?_
      refine x_iadd C dX3_hasFlatTwiceInList_34 ?_
      obtain ⟨g4, hf⟩ := ck_of hf
      refine x_iald (j := (((a1 * (6 : Int32)) + a3)).toNatClampNeg) C tg_247 tl_247 g4 rfl dX3_hasFlatTwiceInList_35 ?_
      refine x_ishl C dX3_hasFlatTwiceInList_36 ?_
      refine x_istore (lv' := [some (.ref (ad 243)), some (.int a1), some (.int a2), some (.int a3), some (.int ((1 : Int32) <<< ((M 247 (((a1 * (6 : Int32)) + a3)).toNatClampNeg) &&& (31 : Int32))))]) C dX3_hasFlatTwiceInList_37 (by decide) rfl ?_
      refine x_iload_n C dX3_hasFlatTwiceInList_39 rfl rfl ?_
      refine x_iload C dX3_hasFlatTwiceInList_40 rfl ?_
      refine x_iand C dX3_hasFlatTwiceInList_42 ?_
      refine x_if_eq (tgt := 48) C dX3_hasFlatTwiceInList_43 (by decide) (fun q5 => ?_) (fun q5 => ?_)
      · have hf := ift q5 hf
        refine x_iload_n C dX3_hasFlatTwiceInList_48 rfl rfl ?_
        refine x_iload C dX3_hasFlatTwiceInList_49 rfl ?_
        refine x_ior C dX3_hasFlatTwiceInList_51 ?_
        refine x_istore_n (lv' := [some (.ref (ad 243)), some (.int a1), some (.int (a2 ||| ((1 : Int32) <<< ((M 247 (((a1 * (6 : Int32)) + a3)).toNatClampNeg) &&& (31 : Int32))))), some (.int a3), some (.int ((1 : Int32) <<< ((M 247 (((a1 * (6 : Int32)) + a3)).toNatClampNeg) &&& (31 : Int32))))]) C dX3_hasFlatTwiceInList_52 rfl (by decide) rfl ?_
        refine x_iinc (d := (1 : Int32)) (v := (a3 + (1 : Int32))) (lv' := [some (.ref (ad 243)), some (.int a1), some (.int (a2 ||| ((1 : Int32) <<< ((M 247 (((a1 * (6 : Int32)) + a3)).toNatClampNeg) &&& (31 : Int32))))), some (.int (a3 + (1 : Int32))), some (.int ((1 : Int32) <<< ((M 247 (((a1 * (6 : Int32)) + a3)).toNatClampNeg) &&& (31 : Int32))))]) C dX3_hasFlatTwiceInList_53 rfl (by decide) rfl (by decide) rfl ?_
        refine x_goto (tgt := 14) C dX3_hasFlatTwiceInList_56 (by decide) ?_
        exact x_weak (ih _ _ _ hf) [0, 1, 2, 3] rfl
      · have hf := iff_ q5 hf
        refine x_iconst (v := (1 : Int32)) C dX3_hasFlatTwiceInList_46 (by decide) ?_
        exact x_zret C hr rfl hf dX3_hasFlatTwiceInList_47

set_option maxHeartbeats 4000000 in
set_option maxRecDepth 100000 in
theorem cl_X3_hasFlatTwiceInList_2 {p : Program} {l : Launch} {e : Env} {s : State} {m : MethodId} {args : Array Value} {below : List Frame} {meth : Method} {c : Code} {D : va_G} {cs : Nat → ClassId} {ad : Nat → Nat} (C : Cx p s m args meth c RX3 cX3_hasFlatTwiceInList 5 wsX3_hasFlatTwiceInList D cs ad) (hr : meth.sig.returnType = some .boolean)  {r : Int32} {M' : Mem}  : ∀ (n : Nat) (a1 : Int32) (M : Mem), l_X3_hasFlatTwiceInList_2 n a1 M = some (r, M') → V p l e (rmk 0) s m args below meth c 5 D cs ad (QI below s args D cs ad r M') 2 [some (.ref (ad 243)), some (.int a1), none, none, none] [] M := by
  intro n
  induction n with
  | zero => intro a1 M hf; cases hf
  | succ n ih =>
    intro a1 M hf
    rw [l_X3_hasFlatTwiceInList_2_s] at hf
    refine x_iload_n C dX3_hasFlatTwiceInList_2 rfl rfl ?_
    refine x_aload_n C dX3_hasFlatTwiceInList_3 rfl rfl ?_
    refine x_geti (Cn := RX3) (T := TX3) (N := 7) C tg_243 (by decide) rfl nX3_hasFlatTwiceInList_3 2 (by decide) rfl kX3_hasFlatTwiceInList_32 rfl dX3_hasFlatTwiceInList_4 ?_
    refine x_icmp_ge (tgt := 65) C dX3_hasFlatTwiceInList_7 (by decide) (fun q1 => ?_) (fun q1 => ?_)
    · have hf := ift q1 hf
      refine x_iconst (v := (0 : Int32)) C dX3_hasFlatTwiceInList_65 (by decide) ?_
      exact x_zret C hr rfl hf dX3_hasFlatTwiceInList_66
    · have hf := iff_ q1 hf
      refine x_iconst (v := (0 : Int32)) C dX3_hasFlatTwiceInList_10 (by decide) ?_
      refine x_istore_n (lv' := [some (.ref (ad 243)), some (.int a1), some (.int (0 : Int32)), none, none]) C dX3_hasFlatTwiceInList_11 rfl (by decide) rfl ?_
      refine x_iconst (v := (0 : Int32)) C dX3_hasFlatTwiceInList_12 (by decide) ?_
      refine x_istore_n (lv' := [some (.ref (ad 243)), some (.int a1), some (.int (0 : Int32)), some (.int (0 : Int32)), none]) C dX3_hasFlatTwiceInList_13 rfl (by decide) rfl ?_
      refine x_weak (cl_X3_hasFlatTwiceInList_14 C hr  (fun M6 hf => ?_) _ _ _ _ hf) [0, 1, 2, 3] rfl
      refine x_iinc (d := (1 : Int32)) (v := (a1 + (1 : Int32))) (lv' := [some (.ref (ad 243)), some (.int (a1 + (1 : Int32))), none, none, none]) C dX3_hasFlatTwiceInList_59 rfl (by decide) rfl (by decide) rfl ?_
      refine x_goto (tgt := 2) C dX3_hasFlatTwiceInList_62 (by decide) ?_
      exact x_weak (ih _ _ hf) [0, 1] rfl

set_option maxHeartbeats 4000000 in
set_option maxRecDepth 100000 in
theorem c_X3_hasFlatTwiceInList  {M : Mem} {r : Int32} {M' : Mem}  (hf : f_X3_hasFlatTwiceInList  M = some (r, M')) : CnI yX3_hasFlatTwiceInList wsX3_hasFlatTwiceInList 0 (fun ad => [.ref (ad 243)]) M r M' := by
  unfold f_X3_hasFlatTwiceInList at hf
  refine x_metI (cc := cX3_hasFlatTwiceInList) (maxL := 5) RX3 rfl (by decide) rfl (fun ad => Nat.le_of_ble_eq_true rfl) (fun ad v hv => ?_) (fun p l e s m args below meth c D cs ad C hr => ?_)
  · simp only [List.mem_cons, List.not_mem_nil, or_false] at hv
    rcases hv with rfl <;> rfl
  · show V p l e (rmk 0) s m args below meth c 5 D cs ad (QI below s args D cs ad r M') 0 [some (.ref (ad 243)), none, none, none, none] [] M
    refine x_iconst (v := (0 : Int32)) C dX3_hasFlatTwiceInList_0 (by decide) ?_
    refine x_istore_n (lv' := [some (.ref (ad 243)), some (.int (0 : Int32)), none, none, none]) C dX3_hasFlatTwiceInList_1 rfl (by decide) rfl ?_
    exact x_weak (cl_X3_hasFlatTwiceInList_2 C hr  _ _ _ hf) [0, 1] rfl

theorem kX4_handOn_9 : Cond.fieldLink RX4 9 "FlatLottery$Matching" "flatOf" "[I" ∈ wsX4_handOn := List.mem_of_getElem? (i := 2) rfl
theorem kX4_handOn_15 : Cond.fieldLink RX4 15 "FlatLottery$Matching" "takenBy" "[I" ∈ wsX4_handOn := List.mem_of_getElem? (i := 3) rfl
theorem kX4_handOn_18 : Cond.fieldLink RX4 18 "FlatLottery$Matching" "askedBy" "[I" ∈ wsX4_handOn := List.mem_of_getElem? (i := 1) rfl
theorem nX4_handOn_4 : ∀ w ∈ u_ws RX4 TX4 4, w ∈ wsX4_handOn := in_r [4, 5, 6, 7] (by decide +kernel)
set_option maxHeartbeats 4000000 in
set_option maxRecDepth 100000 in
theorem cl_X4_handOn_4 {p : Program} {l : Launch} {e : Env} {s : State} {m : MethodId} {args : Array Value} {below : List Frame} {meth : Method} {c : Code} {D : va_G} {cs : Nat → ClassId} {ad : Nat → Nat} (C : Cx p s m args meth c RX4 cX4_handOn 6 wsX4_handOn D cs ad) (hr : meth.sig.returnType = none)  {r : Int32} {M' : Mem}  : ∀ (n : Nat) (a2 : Int32) (a3 : Int32) (M : Mem), l_X4_handOn_4 n a2 a3 M = some (r, M') → V p l e (rmk 0) s m args below meth c 6 D cs ad (QV below s args D cs ad M') 4 [some (.ref (ad 250)), none, some (.int a2), some (.int a3), none, none] [] M := by
  intro n
  induction n with
  | zero => intro a2 a3 M hf; cases hf
  | succ n ih =>
    intro a2 a3 M hf
    rw [l_X4_handOn_4_s] at hf
    refine x_iload_n C dX4_handOn_4 rfl rfl ?_
    refine x_bipush (v := (12 : Int32)) C dX4_handOn_5 (by decide) ?_
    refine x_icmp_ge (tgt := 66) C dX4_handOn_7 (by decide) (fun q1 => ?_) (fun q1 => ?_)
    · have hf := ift q1 hf
      exact x_vret C hr hf dX4_handOn_66
    · have hf := iff_ q1 hf
      refine x_iload_n C dX4_handOn_10 rfl rfl ?_
      refine x_bipush (v := (-5 : Int32)) C dX4_handOn_11 (by decide) ?_
      refine x_icmp_eq (tgt := 66) C dX4_handOn_13 (by decide) (fun q2 => ?_) (fun q2 => ?_)
      · have hf := ift q2 hf
        exact x_vret C hr hf dX4_handOn_66
      · have hf := iff_ q2 hf
        refine x_aload_n C dX4_handOn_16 rfl rfl ?_
        refine x_getr (Cn := RX4) (T := TX4) (N := 4) C tg_250 (by decide) rfl nX4_handOn_4 2 (by decide) rfl kX4_handOn_18 rfl dX4_handOn_17 253 rfl ?_
        refine x_iload_n C dX4_handOn_20 rfl rfl ?_
        obtain ⟨g3, hf⟩ := ck_of hf
        refine x_iald (j := (a2).toNatClampNeg) C tg_253 tl_253 g3 rfl dX4_handOn_21 ?_
        refine x_istore (lv' := [some (.ref (ad 250)), none, some (.int a2), some (.int a3), some (.int (M 253 (a2).toNatClampNeg)), none]) C dX4_handOn_22 (by decide) rfl ?_
        refine x_iload C dX4_handOn_24 rfl ?_
        refine x_bipush (v := (-5 : Int32)) C dX4_handOn_26 (by decide) ?_
        refine x_icmp_ne (tgt := 32) C dX4_handOn_28 (by decide) (fun q4 => ?_) (fun q4 => ?_)
        · have hf := ift q4 hf
          exact x_vret C hr hf dX4_handOn_31
        · have hf := iff_ q4 hf
          refine x_aload_n C dX4_handOn_32 rfl rfl ?_
          refine x_getr (Cn := RX4) (T := TX4) (N := 4) C tg_250 (by decide) rfl nX4_handOn_4 0 (by decide) rfl kX4_handOn_9 rfl dX4_handOn_33 251 rfl ?_
          refine x_iload C dX4_handOn_36 rfl ?_
          obtain ⟨g5, hf⟩ := ck_of hf
          refine x_iald (j := ((M 253 (a2).toNatClampNeg)).toNatClampNeg) C tg_251 tl_251 g5 rfl dX4_handOn_38 ?_
          refine x_istore (lv' := [some (.ref (ad 250)), none, some (.int a2), some (.int a3), some (.int (M 253 (a2).toNatClampNeg)), some (.int (M 251 ((M 253 (a2).toNatClampNeg)).toNatClampNeg))]) C dX4_handOn_39 (by decide) rfl ?_
          refine x_aload_n C dX4_handOn_41 rfl rfl ?_
          refine x_getr (Cn := RX4) (T := TX4) (N := 4) C tg_250 (by decide) rfl nX4_handOn_4 1 (by decide) rfl kX4_handOn_15 rfl dX4_handOn_42 252 rfl ?_
          refine x_iload_n C dX4_handOn_45 rfl rfl ?_
          refine x_iload C dX4_handOn_46 rfl ?_
          obtain ⟨g6, hf⟩ := ck_of hf
          refine x_iast (j := (a2).toNatClampNeg) C tg_252 tl_252 g6 rfl dX4_handOn_48 ?_
          refine x_gen hf (fun M7 hf => ?_)
          refine x_aload_n C dX4_handOn_49 rfl rfl ?_
          refine x_getr (Cn := RX4) (T := TX4) (N := 4) C tg_250 (by decide) rfl nX4_handOn_4 0 (by decide) rfl kX4_handOn_9 rfl dX4_handOn_50 251 rfl ?_
          refine x_iload C dX4_handOn_53 rfl ?_
          refine x_iload_n C dX4_handOn_55 rfl rfl ?_
          obtain ⟨g8, hf⟩ := ck_of hf
          refine x_iast (j := ((M 253 (a2).toNatClampNeg)).toNatClampNeg) C tg_251 tl_251 g8 rfl dX4_handOn_56 ?_
          refine x_gen hf (fun M9 hf => ?_)
          refine x_iload C dX4_handOn_57 rfl ?_
          refine x_istore_n (lv' := [some (.ref (ad 250)), none, some (.int (M 251 ((M 253 (a2).toNatClampNeg)).toNatClampNeg)), some (.int a3), some (.int (M 253 (a2).toNatClampNeg)), some (.int (M 251 ((M 253 (a2).toNatClampNeg)).toNatClampNeg))]) C dX4_handOn_59 rfl (by decide) rfl ?_
          refine x_iinc (d := (1 : Int32)) (v := (a3 + (1 : Int32))) (lv' := [some (.ref (ad 250)), none, some (.int (M 251 ((M 253 (a2).toNatClampNeg)).toNatClampNeg)), some (.int (a3 + (1 : Int32))), some (.int (M 253 (a2).toNatClampNeg)), some (.int (M 251 ((M 253 (a2).toNatClampNeg)).toNatClampNeg))]) C dX4_handOn_60 rfl (by decide) rfl (by decide) rfl ?_
          refine x_goto (tgt := 4) C dX4_handOn_63 (by decide) ?_
          exact x_weak (ih _ _ _ hf) [0, 2, 3] rfl

set_option maxHeartbeats 4000000 in
set_option maxRecDepth 100000 in
theorem c_X4_handOn {a1 : Int32} {M : Mem} {r : Int32} {M' : Mem}  (hf : f_X4_handOn a1 M = some (r, M')) : CnV yX4_handOn wsX4_handOn 0 (fun ad => [.ref (ad 250), .int a1]) M M' := by
  unfold f_X4_handOn at hf
  refine x_metV (cc := cX4_handOn) (maxL := 6) RX4 rfl (by decide) rfl (fun ad => Nat.le_of_ble_eq_true rfl) (fun ad v hv => ?_) (fun p l e s m args below meth c D cs ad C hr => ?_)
  · simp only [List.mem_cons, List.not_mem_nil, or_false] at hv
    rcases hv with rfl | rfl <;> rfl
  · show V p l e (rmk 0) s m args below meth c 6 D cs ad (QV below s args D cs ad M') 0 [some (.ref (ad 250)), some (.int a1), none, none, none, none] [] M
    refine x_iload_n C dX4_handOn_0 rfl rfl ?_
    refine x_istore_n (lv' := [some (.ref (ad 250)), some (.int a1), some (.int a1), none, none, none]) C dX4_handOn_1 rfl (by decide) rfl ?_
    refine x_iconst (v := (0 : Int32)) C dX4_handOn_2 (by decide) ?_
    refine x_istore_n (lv' := [some (.ref (ad 250)), some (.int a1), some (.int a1), some (.int (0 : Int32)), none, none]) C dX4_handOn_3 rfl (by decide) rfl ?_
    exact x_weak (cl_X4_handOn_4 C hr  _ _ _ _ hf) [0, 2, 3] rfl

theorem kX5_after_9 : Cond.fieldLink RX5 9 "FlatLottery$Rings" "pointed" "[I" ∈ wsX5_after := List.mem_of_getElem? (i := 2) rfl
theorem kX5_after_21 : Cond.fieldLink RX5 21 "FlatLottery$Rings" "size" "I" ∈ wsX5_after := List.mem_of_getElem? (i := 1) rfl
theorem nX5_after_5 : ∀ w ∈ u_ws RX5 TX5 2, w ∈ wsX5_after := in_r [3, 4] (by decide +kernel)
set_option maxHeartbeats 4000000 in
set_option maxRecDepth 100000 in
theorem c_X5_after {a1 : Int32} {M : Mem} {r : Int32} {M' : Mem}  (hf : f_X5_after a1 M = some (r, M')) : CnI yX5_after wsX5_after 0 (fun ad => [.ref (ad 248), .int a1]) M r M' := by
  unfold f_X5_after at hf
  refine x_metI (cc := cX5_after) (maxL := 2) RX5 rfl (by decide) rfl (fun ad => Nat.le_of_ble_eq_true rfl) (fun ad v hv => ?_) (fun p l e s m args below meth c D cs ad C hr => ?_)
  · simp only [List.mem_cons, List.not_mem_nil, or_false] at hv
    rcases hv with rfl | rfl <;> rfl
  · show V p l e (rmk 0) s m args below meth c 2 D cs ad (QI below s args D cs ad r M') 0 [some (.ref (ad 248)), some (.int a1)] [] M
    refine x_iload_n C dX5_after_0 rfl rfl ?_
    refine x_if_lt (tgt := 21) C dX5_after_1 (by decide) (fun q1 => ?_) (fun q1 => ?_)
    · have hf := ift q1 hf
      refine x_bipush (v := (-5 : Int32)) C dX5_after_21 (by decide) ?_
      exact x_iret C hr hf dX5_after_23
    · have hf := iff_ q1 hf
      refine x_iload_n C dX5_after_4 rfl rfl ?_
      refine x_aload_n C dX5_after_5 rfl rfl ?_
      refine x_geti (Cn := RX5) (T := TX5) (N := 2) C tg_248 (by decide) rfl nX5_after_5 1 (by decide) rfl kX5_after_21 rfl dX5_after_6 ?_
      refine x_icmp_ge (tgt := 21) C dX5_after_9 (by decide) (fun q2 => ?_) (fun q2 => ?_)
      · have hf := ift q2 hf
        refine x_bipush (v := (-5 : Int32)) C dX5_after_21 (by decide) ?_
        exact x_iret C hr hf dX5_after_23
      · have hf := iff_ q2 hf
        refine x_aload_n C dX5_after_12 rfl rfl ?_
        refine x_getr (Cn := RX5) (T := TX5) (N := 2) C tg_248 (by decide) rfl nX5_after_5 0 (by decide) rfl kX5_after_9 rfl dX5_after_13 249 rfl ?_
        refine x_iload_n C dX5_after_16 rfl rfl ?_
        obtain ⟨g3, hf⟩ := ck_of hf
        refine x_iald (j := (a1).toNatClampNeg) C tg_249 tl_249 g3 rfl dX5_after_17 ?_
        refine x_goto (tgt := 23) C dX5_after_18 (by decide) ?_
        exact x_iret C hr hf dX5_after_23

theorem kX6_countAppeals_19 : Cond.fieldLink RX6 19 "FlatLottery$State" "households" "[LFlatLottery$Household;" ∈ wsX6_countAppeals := List.mem_of_getElem? (i := 2) rfl
theorem kX6_countAppeals_37 : Cond.fieldLink RX6 37 "FlatLottery$State" "householdCount" "I" ∈ wsX6_countAppeals := List.mem_of_getElem? (i := 1) rfl
theorem kX6_countAppeals_74 : Cond.fieldLink RX6 74 "FlatLottery$Household" "appeals" "I" ∈ wsX6_countAppeals := List.mem_of_getElem? (i := 3) rfl
theorem nX6_countAppeals_2 : ∀ w ∈ u_ws RX2 TX2 9, w ∈ wsX6_countAppeals := in_r [12, 13, 14, 15, 16, 17, 18, 19, 20] (by decide +kernel)
theorem nX6_countAppeals_6 : ∀ w ∈ u_ws RX6 TX6 8, w ∈ wsX6_countAppeals := in_r [4, 5, 6, 7, 8, 9, 10, 11] (by decide +kernel)
set_option maxHeartbeats 4000000 in
set_option maxRecDepth 100000 in
theorem cl_X6_countAppeals_4 {p : Program} {l : Launch} {e : Env} {s : State} {m : MethodId} {args : Array Value} {below : List Frame} {meth : Method} {c : Code} {D : va_G} {cs : Nat → ClassId} {ad : Nat → Nat} (C : Cx p s m args meth c RX6 cX6_countAppeals 3 wsX6_countAppeals D cs ad) (hr : meth.sig.returnType = some .int) {a0 : Nat} {r : Int32} {M' : Mem} (t0 : tg a0 = 6) : ∀ (n : Nat) (a1 : Int32) (a2 : Int32) (M : Mem), l_X6_countAppeals_4 a0 n a1 a2 M = some (r, M') → V p l e (rmk 0) s m args below meth c 3 D cs ad (QI below s args D cs ad r M') 4 [some (.ref (ad a0)), some (.int a1), some (.int a2)] [] M := by
  intro n
  induction n with
  | zero => intro a1 a2 M hf; cases hf
  | succ n ih =>
    intro a1 a2 M hf
    rw [l_X6_countAppeals_4_s] at hf
    refine x_iload_n C dX6_countAppeals_4 rfl rfl ?_
    refine x_aload_n C dX6_countAppeals_5 rfl rfl ?_
    refine x_geti (Cn := RX6) (T := TX6) (N := 8) C t0 (by decide) rfl nX6_countAppeals_6 3 (by decide) rfl kX6_countAppeals_37 rfl dX6_countAppeals_6 ?_
    refine x_icmp_ge (tgt := 30) C dX6_countAppeals_9 (by decide) (fun q1 => ?_) (fun q1 => ?_)
    · have hf := ift q1 hf
      refine x_iload_n C dX6_countAppeals_30 rfl rfl ?_
      exact x_iret C hr hf dX6_countAppeals_31
    · have hf := iff_ q1 hf
      refine x_iload_n C dX6_countAppeals_12 rfl rfl ?_
      refine x_aload_n C dX6_countAppeals_13 rfl rfl ?_
      refine x_getr (Cn := RX6) (T := TX6) (N := 8) C t0 (by decide) rfl nX6_countAppeals_6 1 (by decide) rfl kX6_countAppeals_19 rfl dX6_countAppeals_14 (a0 + 2) rfl ?_
      refine x_iload_n C dX6_countAppeals_17 rfl rfl ?_
      obtain ⟨g2, hf⟩ := ck_of hf
      have w3 : (a0 + 2) + 14 + 2 * (a2).toNatClampNeg = (a0 + 16 + 2 * (a2).toNatClampNeg) := by omega
      have u4 : tg (a0 + 16 + 2 * (a2).toNatClampNeg) = 2 := te_H (x := a2) (tf_6_1 t0) g2 w3
      refine x_aaldH (j := (a2).toNatClampNeg) C (tf_6_1 t0) (tl_6_1 t0) g2 rfl dX6_countAppeals_18 (a0 + 16 + 2 * (a2).toNatClampNeg) w3 ?_
      refine x_geti (Cn := RX2) (T := TX2) (N := 9) C u4 (by decide) rfl nX6_countAppeals_2 7 (by decide) rfl kX6_countAppeals_74 rfl dX6_countAppeals_19 ?_
      refine x_iadd C dX6_countAppeals_22 ?_
      refine x_istore_n (lv' := [some (.ref (ad a0)), some (.int (a1 + (M (a0 + 16 + 2 * (a2).toNatClampNeg) 7))), some (.int a2)]) C dX6_countAppeals_23 rfl (by decide) rfl ?_
      refine x_iinc (d := (1 : Int32)) (v := (a2 + (1 : Int32))) (lv' := [some (.ref (ad a0)), some (.int (a1 + (M (a0 + 16 + 2 * (a2).toNatClampNeg) 7))), some (.int (a2 + (1 : Int32)))]) C dX6_countAppeals_24 rfl (by decide) rfl (by decide) rfl ?_
      refine x_goto (tgt := 4) C dX6_countAppeals_27 (by decide) ?_
      exact x_weak (ih _ _ _ hf) [0, 1, 2] rfl

set_option maxHeartbeats 4000000 in
set_option maxRecDepth 100000 in
theorem c_X6_countAppeals {a0 : Nat} {M : Mem} {r : Int32} {M' : Mem} (t0 : tg a0 = 6) (hf : f_X6_countAppeals a0 M = some (r, M')) : CnI yX6_countAppeals wsX6_countAppeals 0 (fun ad => [.ref (ad a0)]) M r M' := by
  unfold f_X6_countAppeals at hf
  refine x_metI (cc := cX6_countAppeals) (maxL := 3) RX6 rfl (by decide) rfl (fun ad => Nat.le_of_ble_eq_true rfl) (fun ad v hv => ?_) (fun p l e s m args below meth c D cs ad C hr => ?_)
  · simp only [List.mem_cons, List.not_mem_nil, or_false] at hv
    rcases hv with rfl <;> rfl
  · show V p l e (rmk 0) s m args below meth c 3 D cs ad (QI below s args D cs ad r M') 0 [some (.ref (ad a0)), none, none] [] M
    refine x_iconst (v := (0 : Int32)) C dX6_countAppeals_0 (by decide) ?_
    refine x_istore_n (lv' := [some (.ref (ad a0)), some (.int (0 : Int32)), none]) C dX6_countAppeals_1 rfl (by decide) rfl ?_
    refine x_iconst (v := (0 : Int32)) C dX6_countAppeals_2 (by decide) ?_
    refine x_istore_n (lv' := [some (.ref (ad a0)), some (.int (0 : Int32)), some (.int (0 : Int32))]) C dX6_countAppeals_3 rfl (by decide) rfl ?_
    exact x_weak (cl_X6_countAppeals_4 C hr t0 _ _ _ _ hf) [0, 1, 2] rfl

theorem kX6_countHeld_19 : Cond.fieldLink RX6 19 "FlatLottery$State" "households" "[LFlatLottery$Household;" ∈ wsX6_countHeld := List.mem_of_getElem? (i := 2) rfl
theorem kX6_countHeld_37 : Cond.fieldLink RX6 37 "FlatLottery$State" "householdCount" "I" ∈ wsX6_countHeld := List.mem_of_getElem? (i := 1) rfl
theorem kX6_countHeld_52 : Cond.fieldLink RX6 52 "FlatLottery$Household" "held" "I" ∈ wsX6_countHeld := List.mem_of_getElem? (i := 3) rfl
theorem nX6_countHeld_2 : ∀ w ∈ u_ws RX2 TX2 9, w ∈ wsX6_countHeld := in_r [12, 13, 14, 15, 16, 17, 18, 19, 20] (by decide +kernel)
theorem nX6_countHeld_6 : ∀ w ∈ u_ws RX6 TX6 8, w ∈ wsX6_countHeld := in_r [4, 5, 6, 7, 8, 9, 10, 11] (by decide +kernel)
set_option maxHeartbeats 4000000 in
set_option maxRecDepth 100000 in
theorem cl_X6_countHeld_4 {p : Program} {l : Launch} {e : Env} {s : State} {m : MethodId} {args : Array Value} {below : List Frame} {meth : Method} {c : Code} {D : va_G} {cs : Nat → ClassId} {ad : Nat → Nat} (C : Cx p s m args meth c RX6 cX6_countHeld 3 wsX6_countHeld D cs ad) (hr : meth.sig.returnType = some .int) {a0 : Nat} {r : Int32} {M' : Mem} (t0 : tg a0 = 6) : ∀ (n : Nat) (a1 : Int32) (a2 : Int32) (M : Mem), l_X6_countHeld_4 a0 n a1 a2 M = some (r, M') → V p l e (rmk 0) s m args below meth c 3 D cs ad (QI below s args D cs ad r M') 4 [some (.ref (ad a0)), some (.int a1), some (.int a2)] [] M := by
  intro n
  induction n with
  | zero => intro a1 a2 M hf; cases hf
  | succ n ih =>
    intro a1 a2 M hf
    rw [l_X6_countHeld_4_s] at hf
    refine x_iload_n C dX6_countHeld_4 rfl rfl ?_
    refine x_aload_n C dX6_countHeld_5 rfl rfl ?_
    refine x_geti (Cn := RX6) (T := TX6) (N := 8) C t0 (by decide) rfl nX6_countHeld_6 3 (by decide) rfl kX6_countHeld_37 rfl dX6_countHeld_6 ?_
    refine x_icmp_ge (tgt := 35) C dX6_countHeld_9 (by decide) (fun q1 => ?_) (fun q1 => ?_)
    · have hf := ift q1 hf
      refine x_iload_n C dX6_countHeld_35 rfl rfl ?_
      exact x_iret C hr hf dX6_countHeld_36
    · have hf := iff_ q1 hf
      refine x_aload_n C dX6_countHeld_12 rfl rfl ?_
      refine x_getr (Cn := RX6) (T := TX6) (N := 8) C t0 (by decide) rfl nX6_countHeld_6 1 (by decide) rfl kX6_countHeld_19 rfl dX6_countHeld_13 (a0 + 2) rfl ?_
      refine x_iload_n C dX6_countHeld_16 rfl rfl ?_
      obtain ⟨g2, hf⟩ := ck_of hf
      have w3 : (a0 + 2) + 14 + 2 * (a2).toNatClampNeg = (a0 + 16 + 2 * (a2).toNatClampNeg) := by omega
      have u4 : tg (a0 + 16 + 2 * (a2).toNatClampNeg) = 2 := te_H (x := a2) (tf_6_1 t0) g2 w3
      refine x_aaldH (j := (a2).toNatClampNeg) C (tf_6_1 t0) (tl_6_1 t0) g2 rfl dX6_countHeld_17 (a0 + 16 + 2 * (a2).toNatClampNeg) w3 ?_
      refine x_geti (Cn := RX2) (T := TX2) (N := 9) C u4 (by decide) rfl nX6_countHeld_2 6 (by decide) rfl kX6_countHeld_52 rfl dX6_countHeld_18 ?_
      refine x_bipush (v := (-5 : Int32)) C dX6_countHeld_21 (by decide) ?_
      refine x_icmp_eq (tgt := 29) C dX6_countHeld_23 (by decide) (fun q5 => ?_) (fun q5 => ?_)
      · have hf := ift q5 hf
        refine x_iinc (d := (1 : Int32)) (v := (a2 + (1 : Int32))) (lv' := [some (.ref (ad a0)), some (.int a1), some (.int (a2 + (1 : Int32)))]) C dX6_countHeld_29 rfl (by decide) rfl (by decide) rfl ?_
        refine x_goto (tgt := 4) C dX6_countHeld_32 (by decide) ?_
        exact x_weak (ih _ _ _ hf) [0, 1, 2] rfl
      · have hf := iff_ q5 hf
        refine x_iinc (d := (1 : Int32)) (v := (a1 + (1 : Int32))) (lv' := [some (.ref (ad a0)), some (.int (a1 + (1 : Int32))), some (.int a2)]) C dX6_countHeld_26 rfl (by decide) rfl (by decide) rfl ?_
        refine x_iinc (d := (1 : Int32)) (v := (a2 + (1 : Int32))) (lv' := [some (.ref (ad a0)), some (.int (a1 + (1 : Int32))), some (.int (a2 + (1 : Int32)))]) C dX6_countHeld_29 rfl (by decide) rfl (by decide) rfl ?_
        refine x_goto (tgt := 4) C dX6_countHeld_32 (by decide) ?_
        exact x_weak (ih _ _ _ hf) [0, 1, 2] rfl

set_option maxHeartbeats 4000000 in
set_option maxRecDepth 100000 in
theorem c_X6_countHeld {a0 : Nat} {M : Mem} {r : Int32} {M' : Mem} (t0 : tg a0 = 6) (hf : f_X6_countHeld a0 M = some (r, M')) : CnI yX6_countHeld wsX6_countHeld 0 (fun ad => [.ref (ad a0)]) M r M' := by
  unfold f_X6_countHeld at hf
  refine x_metI (cc := cX6_countHeld) (maxL := 3) RX6 rfl (by decide) rfl (fun ad => Nat.le_of_ble_eq_true rfl) (fun ad v hv => ?_) (fun p l e s m args below meth c D cs ad C hr => ?_)
  · simp only [List.mem_cons, List.not_mem_nil, or_false] at hv
    rcases hv with rfl <;> rfl
  · show V p l e (rmk 0) s m args below meth c 3 D cs ad (QI below s args D cs ad r M') 0 [some (.ref (ad a0)), none, none] [] M
    refine x_iconst (v := (0 : Int32)) C dX6_countHeld_0 (by decide) ?_
    refine x_istore_n (lv' := [some (.ref (ad a0)), some (.int (0 : Int32)), none]) C dX6_countHeld_1 rfl (by decide) rfl ?_
    refine x_iconst (v := (0 : Int32)) C dX6_countHeld_2 (by decide) ?_
    refine x_istore_n (lv' := [some (.ref (ad a0)), some (.int (0 : Int32)), some (.int (0 : Int32))]) C dX6_countHeld_3 rfl (by decide) rfl ?_
    exact x_weak (cl_X6_countHeld_4 C hr t0 _ _ _ _ hf) [0, 1, 2] rfl

theorem kX6_countNumbered_19 : Cond.fieldLink RX6 19 "FlatLottery$State" "households" "[LFlatLottery$Household;" ∈ wsX6_countNumbered := List.mem_of_getElem? (i := 2) rfl
theorem kX6_countNumbered_37 : Cond.fieldLink RX6 37 "FlatLottery$State" "householdCount" "I" ∈ wsX6_countNumbered := List.mem_of_getElem? (i := 1) rfl
theorem kX6_countNumbered_55 : Cond.fieldLink RX6 55 "FlatLottery$Household" "number" "I" ∈ wsX6_countNumbered := List.mem_of_getElem? (i := 3) rfl
theorem nX6_countNumbered_2 : ∀ w ∈ u_ws RX2 TX2 9, w ∈ wsX6_countNumbered := in_r [12, 13, 14, 15, 16, 17, 18, 19, 20] (by decide +kernel)
theorem nX6_countNumbered_6 : ∀ w ∈ u_ws RX6 TX6 8, w ∈ wsX6_countNumbered := in_r [4, 5, 6, 7, 8, 9, 10, 11] (by decide +kernel)
set_option maxHeartbeats 4000000 in
set_option maxRecDepth 100000 in
theorem cl_X6_countNumbered_4 {p : Program} {l : Launch} {e : Env} {s : State} {m : MethodId} {args : Array Value} {below : List Frame} {meth : Method} {c : Code} {D : va_G} {cs : Nat → ClassId} {ad : Nat → Nat} (C : Cx p s m args meth c RX6 cX6_countNumbered 3 wsX6_countNumbered D cs ad) (hr : meth.sig.returnType = some .int) {a0 : Nat} {r : Int32} {M' : Mem} (t0 : tg a0 = 6) : ∀ (n : Nat) (a1 : Int32) (a2 : Int32) (M : Mem), l_X6_countNumbered_4 a0 n a1 a2 M = some (r, M') → V p l e (rmk 0) s m args below meth c 3 D cs ad (QI below s args D cs ad r M') 4 [some (.ref (ad a0)), some (.int a1), some (.int a2)] [] M := by
  intro n
  induction n with
  | zero => intro a1 a2 M hf; cases hf
  | succ n ih =>
    intro a1 a2 M hf
    rw [l_X6_countNumbered_4_s] at hf
    refine x_iload_n C dX6_countNumbered_4 rfl rfl ?_
    refine x_aload_n C dX6_countNumbered_5 rfl rfl ?_
    refine x_geti (Cn := RX6) (T := TX6) (N := 8) C t0 (by decide) rfl nX6_countNumbered_6 3 (by decide) rfl kX6_countNumbered_37 rfl dX6_countNumbered_6 ?_
    refine x_icmp_ge (tgt := 35) C dX6_countNumbered_9 (by decide) (fun q1 => ?_) (fun q1 => ?_)
    · have hf := ift q1 hf
      refine x_iload_n C dX6_countNumbered_35 rfl rfl ?_
      exact x_iret C hr hf dX6_countNumbered_36
    · have hf := iff_ q1 hf
      refine x_aload_n C dX6_countNumbered_12 rfl rfl ?_
      refine x_getr (Cn := RX6) (T := TX6) (N := 8) C t0 (by decide) rfl nX6_countNumbered_6 1 (by decide) rfl kX6_countNumbered_19 rfl dX6_countNumbered_13 (a0 + 2) rfl ?_
      refine x_iload_n C dX6_countNumbered_16 rfl rfl ?_
      obtain ⟨g2, hf⟩ := ck_of hf
      have w3 : (a0 + 2) + 14 + 2 * (a2).toNatClampNeg = (a0 + 16 + 2 * (a2).toNatClampNeg) := by omega
      have u4 : tg (a0 + 16 + 2 * (a2).toNatClampNeg) = 2 := te_H (x := a2) (tf_6_1 t0) g2 w3
      refine x_aaldH (j := (a2).toNatClampNeg) C (tf_6_1 t0) (tl_6_1 t0) g2 rfl dX6_countNumbered_17 (a0 + 16 + 2 * (a2).toNatClampNeg) w3 ?_
      refine x_geti (Cn := RX2) (T := TX2) (N := 9) C u4 (by decide) rfl nX6_countNumbered_2 4 (by decide) rfl kX6_countNumbered_55 rfl dX6_countNumbered_18 ?_
      refine x_bipush (v := (-5 : Int32)) C dX6_countNumbered_21 (by decide) ?_
      refine x_icmp_eq (tgt := 29) C dX6_countNumbered_23 (by decide) (fun q5 => ?_) (fun q5 => ?_)
      · have hf := ift q5 hf
        refine x_iinc (d := (1 : Int32)) (v := (a2 + (1 : Int32))) (lv' := [some (.ref (ad a0)), some (.int a1), some (.int (a2 + (1 : Int32)))]) C dX6_countNumbered_29 rfl (by decide) rfl (by decide) rfl ?_
        refine x_goto (tgt := 4) C dX6_countNumbered_32 (by decide) ?_
        exact x_weak (ih _ _ _ hf) [0, 1, 2] rfl
      · have hf := iff_ q5 hf
        refine x_iinc (d := (1 : Int32)) (v := (a1 + (1 : Int32))) (lv' := [some (.ref (ad a0)), some (.int (a1 + (1 : Int32))), some (.int a2)]) C dX6_countNumbered_26 rfl (by decide) rfl (by decide) rfl ?_
        refine x_iinc (d := (1 : Int32)) (v := (a2 + (1 : Int32))) (lv' := [some (.ref (ad a0)), some (.int (a1 + (1 : Int32))), some (.int (a2 + (1 : Int32)))]) C dX6_countNumbered_29 rfl (by decide) rfl (by decide) rfl ?_
        refine x_goto (tgt := 4) C dX6_countNumbered_32 (by decide) ?_
        exact x_weak (ih _ _ _ hf) [0, 1, 2] rfl

set_option maxHeartbeats 4000000 in
set_option maxRecDepth 100000 in
theorem c_X6_countNumbered {a0 : Nat} {M : Mem} {r : Int32} {M' : Mem} (t0 : tg a0 = 6) (hf : f_X6_countNumbered a0 M = some (r, M')) : CnI yX6_countNumbered wsX6_countNumbered 0 (fun ad => [.ref (ad a0)]) M r M' := by
  unfold f_X6_countNumbered at hf
  refine x_metI (cc := cX6_countNumbered) (maxL := 3) RX6 rfl (by decide) rfl (fun ad => Nat.le_of_ble_eq_true rfl) (fun ad v hv => ?_) (fun p l e s m args below meth c D cs ad C hr => ?_)
  · simp only [List.mem_cons, List.not_mem_nil, or_false] at hv
    rcases hv with rfl <;> rfl
  · show V p l e (rmk 0) s m args below meth c 3 D cs ad (QI below s args D cs ad r M') 0 [some (.ref (ad a0)), none, none] [] M
    refine x_iconst (v := (0 : Int32)) C dX6_countNumbered_0 (by decide) ?_
    refine x_istore_n (lv' := [some (.ref (ad a0)), some (.int (0 : Int32)), none]) C dX6_countNumbered_1 rfl (by decide) rfl ?_
    refine x_iconst (v := (0 : Int32)) C dX6_countNumbered_2 (by decide) ?_
    refine x_istore_n (lv' := [some (.ref (ad a0)), some (.int (0 : Int32)), some (.int (0 : Int32))]) C dX6_countNumbered_3 rfl (by decide) rfl ?_
    exact x_weak (cl_X6_countNumbered_4 C hr t0 _ _ _ _ hf) [0, 1, 2] rfl

theorem kX6_hasFlat_29 : Cond.fieldLink RX6 29 "FlatLottery$State" "flatCount" "I" ∈ wsX6_hasFlat := List.mem_of_getElem? (i := 1) rfl
theorem nX6_hasFlat_6 : ∀ w ∈ u_ws RX6 TX6 8, w ∈ wsX6_hasFlat := in_r [2, 3, 4, 5, 6, 7, 8, 9] (by decide +kernel)
set_option maxHeartbeats 4000000 in
set_option maxRecDepth 100000 in
theorem c_X6_hasFlat {a0 : Nat} {a1 : Int32} {M : Mem} {r : Int32} {M' : Mem} (t0 : tg a0 = 6) (hf : f_X6_hasFlat a0 a1 M = some (r, M')) : CnI yX6_hasFlat wsX6_hasFlat 0 (fun ad => [.ref (ad a0), .int a1]) M r M' := by
  unfold f_X6_hasFlat at hf
  refine x_metI (cc := cX6_hasFlat) (maxL := 2) RX6 rfl (by decide) rfl (fun ad => Nat.le_of_ble_eq_true rfl) (fun ad v hv => ?_) (fun p l e s m args below meth c D cs ad C hr => ?_)
  · simp only [List.mem_cons, List.not_mem_nil, or_false] at hv
    rcases hv with rfl | rfl <;> rfl
  · show V p l e (rmk 0) s m args below meth c 2 D cs ad (QI below s args D cs ad r M') 0 [some (.ref (ad a0)), some (.int a1)] [] M
    refine x_iload_n C dX6_hasFlat_0 rfl rfl ?_
    refine x_if_lt (tgt := 16) C dX6_hasFlat_1 (by decide) (fun q1 => ?_) (fun q1 => ?_)
    · have hf := ift q1 hf
      refine x_iconst (v := (0 : Int32)) C dX6_hasFlat_16 (by decide) ?_
      exact x_zret C hr rfl hf dX6_hasFlat_17
    · have hf := iff_ q1 hf
      refine x_iload_n C dX6_hasFlat_4 rfl rfl ?_
      refine x_aload_n C dX6_hasFlat_5 rfl rfl ?_
      refine x_geti (Cn := RX6) (T := TX6) (N := 8) C t0 (by decide) rfl nX6_hasFlat_6 2 (by decide) rfl kX6_hasFlat_29 rfl dX6_hasFlat_6 ?_
      refine x_icmp_ge (tgt := 16) C dX6_hasFlat_9 (by decide) (fun q2 => ?_) (fun q2 => ?_)
      · have hf := ift q2 hf
        refine x_iconst (v := (0 : Int32)) C dX6_hasFlat_16 (by decide) ?_
        exact x_zret C hr rfl hf dX6_hasFlat_17
      · have hf := iff_ q2 hf
        refine x_iconst (v := (1 : Int32)) C dX6_hasFlat_12 (by decide) ?_
        refine x_goto (tgt := 17) C dX6_hasFlat_13 (by decide) ?_
        exact x_zret C hr rfl hf dX6_hasFlat_17

theorem kX6_hasHousehold_37 : Cond.fieldLink RX6 37 "FlatLottery$State" "householdCount" "I" ∈ wsX6_hasHousehold := List.mem_of_getElem? (i := 1) rfl
theorem nX6_hasHousehold_6 : ∀ w ∈ u_ws RX6 TX6 8, w ∈ wsX6_hasHousehold := in_r [2, 3, 4, 5, 6, 7, 8, 9] (by decide +kernel)
set_option maxHeartbeats 4000000 in
set_option maxRecDepth 100000 in
theorem c_X6_hasHousehold {a0 : Nat} {a1 : Int32} {M : Mem} {r : Int32} {M' : Mem} (t0 : tg a0 = 6) (hf : f_X6_hasHousehold a0 a1 M = some (r, M')) : CnI yX6_hasHousehold wsX6_hasHousehold 0 (fun ad => [.ref (ad a0), .int a1]) M r M' := by
  unfold f_X6_hasHousehold at hf
  refine x_metI (cc := cX6_hasHousehold) (maxL := 2) RX6 rfl (by decide) rfl (fun ad => Nat.le_of_ble_eq_true rfl) (fun ad v hv => ?_) (fun p l e s m args below meth c D cs ad C hr => ?_)
  · simp only [List.mem_cons, List.not_mem_nil, or_false] at hv
    rcases hv with rfl | rfl <;> rfl
  · show V p l e (rmk 0) s m args below meth c 2 D cs ad (QI below s args D cs ad r M') 0 [some (.ref (ad a0)), some (.int a1)] [] M
    refine x_iload_n C dX6_hasHousehold_0 rfl rfl ?_
    refine x_if_lt (tgt := 16) C dX6_hasHousehold_1 (by decide) (fun q1 => ?_) (fun q1 => ?_)
    · have hf := ift q1 hf
      refine x_iconst (v := (0 : Int32)) C dX6_hasHousehold_16 (by decide) ?_
      exact x_zret C hr rfl hf dX6_hasHousehold_17
    · have hf := iff_ q1 hf
      refine x_iload_n C dX6_hasHousehold_4 rfl rfl ?_
      refine x_aload_n C dX6_hasHousehold_5 rfl rfl ?_
      refine x_geti (Cn := RX6) (T := TX6) (N := 8) C t0 (by decide) rfl nX6_hasHousehold_6 3 (by decide) rfl kX6_hasHousehold_37 rfl dX6_hasHousehold_6 ?_
      refine x_icmp_ge (tgt := 16) C dX6_hasHousehold_9 (by decide) (fun q2 => ?_) (fun q2 => ?_)
      · have hf := ift q2 hf
        refine x_iconst (v := (0 : Int32)) C dX6_hasHousehold_16 (by decide) ?_
        exact x_zret C hr rfl hf dX6_hasHousehold_17
      · have hf := iff_ q2 hf
        refine x_iconst (v := (1 : Int32)) C dX6_hasHousehold_12 (by decide) ?_
        refine x_goto (tgt := 17) C dX6_hasHousehold_13 (by decide) ?_
        exact x_zret C hr rfl hf dX6_hasHousehold_17

theorem kX6_heldFlats_19 : Cond.fieldLink RX6 19 "FlatLottery$State" "households" "[LFlatLottery$Household;" ∈ wsX6_heldFlats := List.mem_of_getElem? (i := 2) rfl
theorem kX6_heldFlats_37 : Cond.fieldLink RX6 37 "FlatLottery$State" "householdCount" "I" ∈ wsX6_heldFlats := List.mem_of_getElem? (i := 1) rfl
theorem kX6_heldFlats_52 : Cond.fieldLink RX6 52 "FlatLottery$Household" "held" "I" ∈ wsX6_heldFlats := List.mem_of_getElem? (i := 3) rfl
theorem nX6_heldFlats_2 : ∀ w ∈ u_ws RX2 TX2 9, w ∈ wsX6_heldFlats := in_r [12, 13, 14, 15, 16, 17, 18, 19, 20] (by decide +kernel)
theorem nX6_heldFlats_6 : ∀ w ∈ u_ws RX6 TX6 8, w ∈ wsX6_heldFlats := in_r [4, 5, 6, 7, 8, 9, 10, 11] (by decide +kernel)
set_option maxHeartbeats 4000000 in
set_option maxRecDepth 100000 in
theorem cl_X6_heldFlats_4 {p : Program} {l : Launch} {e : Env} {s : State} {m : MethodId} {args : Array Value} {below : List Frame} {meth : Method} {c : Code} {D : va_G} {cs : Nat → ClassId} {ad : Nat → Nat} (C : Cx p s m args meth c RX6 cX6_heldFlats 4 wsX6_heldFlats D cs ad) (hr : meth.sig.returnType = some .int) {a0 : Nat} {r : Int32} {M' : Mem} (t0 : tg a0 = 6) : ∀ (n : Nat) (a1 : Int32) (a2 : Int32) (M : Mem), l_X6_heldFlats_4 a0 n a1 a2 M = some (r, M') → V p l e (rmk 0) s m args below meth c 4 D cs ad (QI below s args D cs ad r M') 4 [some (.ref (ad a0)), some (.int a1), some (.int a2), none] [] M := by
  intro n
  induction n with
  | zero => intro a1 a2 M hf; cases hf
  | succ n ih =>
    intro a1 a2 M hf
    rw [l_X6_heldFlats_4_s] at hf
    refine x_iload_n C dX6_heldFlats_4 rfl rfl ?_
    refine x_aload_n C dX6_heldFlats_5 rfl rfl ?_
    refine x_geti (Cn := RX6) (T := TX6) (N := 8) C t0 (by decide) rfl nX6_heldFlats_6 3 (by decide) rfl kX6_heldFlats_37 rfl dX6_heldFlats_6 ?_
    refine x_icmp_ge (tgt := 40) C dX6_heldFlats_9 (by decide) (fun q1 => ?_) (fun q1 => ?_)
    · have hf := ift q1 hf
      refine x_iload_n C dX6_heldFlats_40 rfl rfl ?_
      exact x_iret C hr hf dX6_heldFlats_41
    · have hf := iff_ q1 hf
      refine x_aload_n C dX6_heldFlats_12 rfl rfl ?_
      refine x_getr (Cn := RX6) (T := TX6) (N := 8) C t0 (by decide) rfl nX6_heldFlats_6 1 (by decide) rfl kX6_heldFlats_19 rfl dX6_heldFlats_13 (a0 + 2) rfl ?_
      refine x_iload_n C dX6_heldFlats_16 rfl rfl ?_
      obtain ⟨g2, hf⟩ := ck_of hf
      have w3 : (a0 + 2) + 14 + 2 * (a2).toNatClampNeg = (a0 + 16 + 2 * (a2).toNatClampNeg) := by omega
      have u4 : tg (a0 + 16 + 2 * (a2).toNatClampNeg) = 2 := te_H (x := a2) (tf_6_1 t0) g2 w3
      refine x_aaldH (j := (a2).toNatClampNeg) C (tf_6_1 t0) (tl_6_1 t0) g2 rfl dX6_heldFlats_17 (a0 + 16 + 2 * (a2).toNatClampNeg) w3 ?_
      refine x_geti (Cn := RX2) (T := TX2) (N := 9) C u4 (by decide) rfl nX6_heldFlats_2 6 (by decide) rfl kX6_heldFlats_52 rfl dX6_heldFlats_18 ?_
      refine x_istore_n (lv' := [some (.ref (ad a0)), some (.int a1), some (.int a2), some (.int (M (a0 + 16 + 2 * (a2).toNatClampNeg) 6))]) C dX6_heldFlats_21 rfl (by decide) rfl ?_
      refine x_iload_n C dX6_heldFlats_22 rfl rfl ?_
      refine x_bipush (v := (-5 : Int32)) C dX6_heldFlats_23 (by decide) ?_
      refine x_icmp_eq (tgt := 34) C dX6_heldFlats_25 (by decide) (fun q5 => ?_) (fun q5 => ?_)
      · have hf := ift q5 hf
        refine x_iinc (d := (1 : Int32)) (v := (a2 + (1 : Int32))) (lv' := [some (.ref (ad a0)), some (.int a1), some (.int (a2 + (1 : Int32))), some (.int (M (a0 + 16 + 2 * (a2).toNatClampNeg) 6))]) C dX6_heldFlats_34 rfl (by decide) rfl (by decide) rfl ?_
        refine x_goto (tgt := 4) C dX6_heldFlats_37 (by decide) ?_
        exact x_weak (ih _ _ _ hf) [0, 1, 2] rfl
      · have hf := iff_ q5 hf
        refine x_iload_n C dX6_heldFlats_28 rfl rfl ?_
        refine x_iconst (v := (1 : Int32)) C dX6_heldFlats_29 (by decide) ?_
        refine x_iload_n C dX6_heldFlats_30 rfl rfl ?_
        refine x_ishl C dX6_heldFlats_31 ?_
        refine x_ior C dX6_heldFlats_32 ?_
        refine x_istore_n (lv' := [some (.ref (ad a0)), some (.int (a1 ||| ((1 : Int32) <<< ((M (a0 + 16 + 2 * (a2).toNatClampNeg) 6) &&& (31 : Int32))))), some (.int a2), some (.int (M (a0 + 16 + 2 * (a2).toNatClampNeg) 6))]) C dX6_heldFlats_33 rfl (by decide) rfl ?_
        refine x_iinc (d := (1 : Int32)) (v := (a2 + (1 : Int32))) (lv' := [some (.ref (ad a0)), some (.int (a1 ||| ((1 : Int32) <<< ((M (a0 + 16 + 2 * (a2).toNatClampNeg) 6) &&& (31 : Int32))))), some (.int (a2 + (1 : Int32))), some (.int (M (a0 + 16 + 2 * (a2).toNatClampNeg) 6))]) C dX6_heldFlats_34 rfl (by decide) rfl (by decide) rfl ?_
        refine x_goto (tgt := 4) C dX6_heldFlats_37 (by decide) ?_
        exact x_weak (ih _ _ _ hf) [0, 1, 2] rfl

set_option maxHeartbeats 4000000 in
set_option maxRecDepth 100000 in
theorem c_X6_heldFlats {a0 : Nat} {M : Mem} {r : Int32} {M' : Mem} (t0 : tg a0 = 6) (hf : f_X6_heldFlats a0 M = some (r, M')) : CnI yX6_heldFlats wsX6_heldFlats 0 (fun ad => [.ref (ad a0)]) M r M' := by
  unfold f_X6_heldFlats at hf
  refine x_metI (cc := cX6_heldFlats) (maxL := 4) RX6 rfl (by decide) rfl (fun ad => Nat.le_of_ble_eq_true rfl) (fun ad v hv => ?_) (fun p l e s m args below meth c D cs ad C hr => ?_)
  · simp only [List.mem_cons, List.not_mem_nil, or_false] at hv
    rcases hv with rfl <;> rfl
  · show V p l e (rmk 0) s m args below meth c 4 D cs ad (QI below s args D cs ad r M') 0 [some (.ref (ad a0)), none, none, none] [] M
    refine x_iconst (v := (0 : Int32)) C dX6_heldFlats_0 (by decide) ?_
    refine x_istore_n (lv' := [some (.ref (ad a0)), some (.int (0 : Int32)), none, none]) C dX6_heldFlats_1 rfl (by decide) rfl ?_
    refine x_iconst (v := (0 : Int32)) C dX6_heldFlats_2 (by decide) ?_
    refine x_istore_n (lv' := [some (.ref (ad a0)), some (.int (0 : Int32)), some (.int (0 : Int32)), none]) C dX6_heldFlats_3 rfl (by decide) rfl ?_
    exact x_weak (cl_X6_heldFlats_4 C hr t0 _ _ _ _ hf) [0, 1, 2] rfl

theorem kX6_holderOf_19 : Cond.fieldLink RX6 19 "FlatLottery$State" "households" "[LFlatLottery$Household;" ∈ wsX6_holderOf := List.mem_of_getElem? (i := 2) rfl
theorem kX6_holderOf_37 : Cond.fieldLink RX6 37 "FlatLottery$State" "householdCount" "I" ∈ wsX6_holderOf := List.mem_of_getElem? (i := 1) rfl
theorem kX6_holderOf_52 : Cond.fieldLink RX6 52 "FlatLottery$Household" "held" "I" ∈ wsX6_holderOf := List.mem_of_getElem? (i := 3) rfl
theorem nX6_holderOf_2 : ∀ w ∈ u_ws RX2 TX2 9, w ∈ wsX6_holderOf := in_r [12, 13, 14, 15, 16, 17, 18, 19, 20] (by decide +kernel)
theorem nX6_holderOf_6 : ∀ w ∈ u_ws RX6 TX6 8, w ∈ wsX6_holderOf := in_r [4, 5, 6, 7, 8, 9, 10, 11] (by decide +kernel)
set_option maxHeartbeats 4000000 in
set_option maxRecDepth 100000 in
theorem cl_X6_holderOf_2 {p : Program} {l : Launch} {e : Env} {s : State} {m : MethodId} {args : Array Value} {below : List Frame} {meth : Method} {c : Code} {D : va_G} {cs : Nat → ClassId} {ad : Nat → Nat} (C : Cx p s m args meth c RX6 cX6_holderOf 3 wsX6_holderOf D cs ad) (hr : meth.sig.returnType = some .int) {a0 : Nat} {a1 : Int32} {r : Int32} {M' : Mem} (t0 : tg a0 = 6) : ∀ (n : Nat) (a2 : Int32) (M : Mem), l_X6_holderOf_2 a0 a1 n a2 M = some (r, M') → V p l e (rmk 0) s m args below meth c 3 D cs ad (QI below s args D cs ad r M') 2 [some (.ref (ad a0)), some (.int a1), some (.int a2)] [] M := by
  intro n
  induction n with
  | zero => intro a2 M hf; cases hf
  | succ n ih =>
    intro a2 M hf
    rw [l_X6_holderOf_2_s] at hf
    refine x_iload_n C dX6_holderOf_2 rfl rfl ?_
    refine x_aload_n C dX6_holderOf_3 rfl rfl ?_
    refine x_geti (Cn := RX6) (T := TX6) (N := 8) C t0 (by decide) rfl nX6_holderOf_6 3 (by decide) rfl kX6_holderOf_37 rfl dX6_holderOf_4 ?_
    refine x_icmp_ge (tgt := 31) C dX6_holderOf_7 (by decide) (fun q1 => ?_) (fun q1 => ?_)
    · have hf := ift q1 hf
      refine x_bipush (v := (-5 : Int32)) C dX6_holderOf_31 (by decide) ?_
      exact x_iret C hr hf dX6_holderOf_33
    · have hf := iff_ q1 hf
      refine x_aload_n C dX6_holderOf_10 rfl rfl ?_
      refine x_getr (Cn := RX6) (T := TX6) (N := 8) C t0 (by decide) rfl nX6_holderOf_6 1 (by decide) rfl kX6_holderOf_19 rfl dX6_holderOf_11 (a0 + 2) rfl ?_
      refine x_iload_n C dX6_holderOf_14 rfl rfl ?_
      obtain ⟨g2, hf⟩ := ck_of hf
      have w3 : (a0 + 2) + 14 + 2 * (a2).toNatClampNeg = (a0 + 16 + 2 * (a2).toNatClampNeg) := by omega
      have u4 : tg (a0 + 16 + 2 * (a2).toNatClampNeg) = 2 := te_H (x := a2) (tf_6_1 t0) g2 w3
      refine x_aaldH (j := (a2).toNatClampNeg) C (tf_6_1 t0) (tl_6_1 t0) g2 rfl dX6_holderOf_15 (a0 + 16 + 2 * (a2).toNatClampNeg) w3 ?_
      refine x_geti (Cn := RX2) (T := TX2) (N := 9) C u4 (by decide) rfl nX6_holderOf_2 6 (by decide) rfl kX6_holderOf_52 rfl dX6_holderOf_16 ?_
      refine x_iload_n C dX6_holderOf_19 rfl rfl ?_
      refine x_icmp_ne (tgt := 25) C dX6_holderOf_20 (by decide) (fun q5 => ?_) (fun q5 => ?_)
      · have hf := ift q5 hf
        refine x_iload_n C dX6_holderOf_23 rfl rfl ?_
        exact x_iret C hr hf dX6_holderOf_24
      · have hf := iff_ q5 hf
        refine x_iinc (d := (1 : Int32)) (v := (a2 + (1 : Int32))) (lv' := [some (.ref (ad a0)), some (.int a1), some (.int (a2 + (1 : Int32)))]) C dX6_holderOf_25 rfl (by decide) rfl (by decide) rfl ?_
        refine x_goto (tgt := 2) C dX6_holderOf_28 (by decide) ?_
        exact x_weak (ih _ _ hf) [0, 1, 2] rfl

set_option maxHeartbeats 4000000 in
set_option maxRecDepth 100000 in
theorem c_X6_holderOf {a0 : Nat} {a1 : Int32} {M : Mem} {r : Int32} {M' : Mem} (t0 : tg a0 = 6) (hf : f_X6_holderOf a0 a1 M = some (r, M')) : CnI yX6_holderOf wsX6_holderOf 0 (fun ad => [.ref (ad a0), .int a1]) M r M' := by
  unfold f_X6_holderOf at hf
  refine x_metI (cc := cX6_holderOf) (maxL := 3) RX6 rfl (by decide) rfl (fun ad => Nat.le_of_ble_eq_true rfl) (fun ad v hv => ?_) (fun p l e s m args below meth c D cs ad C hr => ?_)
  · simp only [List.mem_cons, List.not_mem_nil, or_false] at hv
    rcases hv with rfl | rfl <;> rfl
  · show V p l e (rmk 0) s m args below meth c 3 D cs ad (QI below s args D cs ad r M') 0 [some (.ref (ad a0)), some (.int a1), none] [] M
    refine x_iconst (v := (0 : Int32)) C dX6_holderOf_0 (by decide) ?_
    refine x_istore_n (lv' := [some (.ref (ad a0)), some (.int a1), some (.int (0 : Int32))]) C dX6_holderOf_1 rfl (by decide) rfl ?_
    exact x_weak (cl_X6_holderOf_2 C hr t0 _ _ _ hf) [0, 1, 2] rfl

theorem kX6_isPassedOver_52 : Cond.fieldLink RX6 52 "FlatLottery$Household" "held" "I" ∈ wsX6_isPassedOver := List.mem_of_getElem? (i := 2) rfl
theorem kX6_isPassedOver_55 : Cond.fieldLink RX6 55 "FlatLottery$Household" "number" "I" ∈ wsX6_isPassedOver := List.mem_of_getElem? (i := 1) rfl
theorem kX6_isPassedOver_96 : Cond.fieldLink RX6 96 "FlatLottery$Household" "passedOver" "I" ∈ wsX6_isPassedOver := List.mem_of_getElem? (i := 3) rfl
theorem nX6_isPassedOver_2 : ∀ w ∈ u_ws RX2 TX2 9, w ∈ wsX6_isPassedOver := in_r [4, 5, 6, 7, 8, 9, 10, 11, 12] (by decide +kernel)
set_option maxHeartbeats 4000000 in
set_option maxRecDepth 100000 in
theorem c_X6_isPassedOver {a0 : Nat} {a1 : Nat} {M : Mem} {r : Int32} {M' : Mem} (t0 : tg a0 = 6) (t1 : tg a1 = 2) (hf : f_X6_isPassedOver a0 a1 M = some (r, M')) : CnI yX6_isPassedOver wsX6_isPassedOver 0 (fun ad => [.ref (ad a0), .ref (ad a1)]) M r M' := by
  unfold f_X6_isPassedOver at hf
  refine x_metI (cc := cX6_isPassedOver) (maxL := 2) RX6 rfl (by decide) rfl (fun ad => Nat.le_of_ble_eq_true rfl) (fun ad v hv => ?_) (fun p l e s m args below meth c D cs ad C hr => ?_)
  · simp only [List.mem_cons, List.not_mem_nil, or_false] at hv
    rcases hv with rfl | rfl <;> rfl
  · show V p l e (rmk 0) s m args below meth c 2 D cs ad (QI below s args D cs ad r M') 0 [some (.ref (ad a0)), some (.ref (ad a1))] [] M
    refine x_aload_n C dX6_isPassedOver_0 rfl rfl ?_
    refine x_geti (Cn := RX2) (T := TX2) (N := 9) C t1 (by decide) rfl nX6_isPassedOver_2 4 (by decide) rfl kX6_isPassedOver_55 rfl dX6_isPassedOver_1 ?_
    refine x_bipush (v := (-5 : Int32)) C dX6_isPassedOver_4 (by decide) ?_
    refine x_icmp_eq (tgt := 29) C dX6_isPassedOver_6 (by decide) (fun q1 => ?_) (fun q1 => ?_)
    · have hf := ift q1 hf
      refine x_iconst (v := (0 : Int32)) C dX6_isPassedOver_29 (by decide) ?_
      exact x_zret C hr rfl hf dX6_isPassedOver_30
    · have hf := iff_ q1 hf
      refine x_aload_n C dX6_isPassedOver_9 rfl rfl ?_
      refine x_geti (Cn := RX2) (T := TX2) (N := 9) C t1 (by decide) rfl nX6_isPassedOver_2 6 (by decide) rfl kX6_isPassedOver_52 rfl dX6_isPassedOver_10 ?_
      refine x_bipush (v := (-5 : Int32)) C dX6_isPassedOver_13 (by decide) ?_
      refine x_icmp_ne (tgt := 29) C dX6_isPassedOver_15 (by decide) (fun q2 => ?_) (fun q2 => ?_)
      · have hf := ift q2 hf
        refine x_aload_n C dX6_isPassedOver_18 rfl rfl ?_
        refine x_geti (Cn := RX2) (T := TX2) (N := 9) C t1 (by decide) rfl nX6_isPassedOver_2 8 (by decide) rfl kX6_isPassedOver_96 rfl dX6_isPassedOver_19 ?_
        refine x_if_le (tgt := 29) C dX6_isPassedOver_22 (by decide) (fun q3 => ?_) (fun q3 => ?_)
        · have hf := ift q3 hf
          refine x_iconst (v := (0 : Int32)) C dX6_isPassedOver_29 (by decide) ?_
          exact x_zret C hr rfl hf dX6_isPassedOver_30
        · have hf := iff_ q3 hf
          refine x_iconst (v := (1 : Int32)) C dX6_isPassedOver_25 (by decide) ?_
          refine x_goto (tgt := 30) C dX6_isPassedOver_26 (by decide) ?_
          exact x_zret C hr rfl hf dX6_isPassedOver_30
      · have hf := iff_ q2 hf
        refine x_iconst (v := (0 : Int32)) C dX6_isPassedOver_29 (by decide) ?_
        exact x_zret C hr rfl hf dX6_isPassedOver_30

theorem kX6_ownerOfNumber_19 : Cond.fieldLink RX6 19 "FlatLottery$State" "households" "[LFlatLottery$Household;" ∈ wsX6_ownerOfNumber := List.mem_of_getElem? (i := 2) rfl
theorem kX6_ownerOfNumber_37 : Cond.fieldLink RX6 37 "FlatLottery$State" "householdCount" "I" ∈ wsX6_ownerOfNumber := List.mem_of_getElem? (i := 1) rfl
theorem kX6_ownerOfNumber_55 : Cond.fieldLink RX6 55 "FlatLottery$Household" "number" "I" ∈ wsX6_ownerOfNumber := List.mem_of_getElem? (i := 3) rfl
theorem nX6_ownerOfNumber_2 : ∀ w ∈ u_ws RX2 TX2 9, w ∈ wsX6_ownerOfNumber := in_r [12, 13, 14, 15, 16, 17, 18, 19, 20] (by decide +kernel)
theorem nX6_ownerOfNumber_6 : ∀ w ∈ u_ws RX6 TX6 8, w ∈ wsX6_ownerOfNumber := in_r [4, 5, 6, 7, 8, 9, 10, 11] (by decide +kernel)
set_option maxHeartbeats 4000000 in
set_option maxRecDepth 100000 in
theorem cl_X6_ownerOfNumber_2 {p : Program} {l : Launch} {e : Env} {s : State} {m : MethodId} {args : Array Value} {below : List Frame} {meth : Method} {c : Code} {D : va_G} {cs : Nat → ClassId} {ad : Nat → Nat} (C : Cx p s m args meth c RX6 cX6_ownerOfNumber 3 wsX6_ownerOfNumber D cs ad) (hr : meth.sig.returnType = some .int) {a0 : Nat} {a1 : Int32} {r : Int32} {M' : Mem} (t0 : tg a0 = 6) : ∀ (n : Nat) (a2 : Int32) (M : Mem), l_X6_ownerOfNumber_2 a0 a1 n a2 M = some (r, M') → V p l e (rmk 0) s m args below meth c 3 D cs ad (QI below s args D cs ad r M') 2 [some (.ref (ad a0)), some (.int a1), some (.int a2)] [] M := by
  intro n
  induction n with
  | zero => intro a2 M hf; cases hf
  | succ n ih =>
    intro a2 M hf
    rw [l_X6_ownerOfNumber_2_s] at hf
    refine x_iload_n C dX6_ownerOfNumber_2 rfl rfl ?_
    refine x_aload_n C dX6_ownerOfNumber_3 rfl rfl ?_
    refine x_geti (Cn := RX6) (T := TX6) (N := 8) C t0 (by decide) rfl nX6_ownerOfNumber_6 3 (by decide) rfl kX6_ownerOfNumber_37 rfl dX6_ownerOfNumber_4 ?_
    refine x_icmp_ge (tgt := 31) C dX6_ownerOfNumber_7 (by decide) (fun q1 => ?_) (fun q1 => ?_)
    · have hf := ift q1 hf
      refine x_bipush (v := (-5 : Int32)) C dX6_ownerOfNumber_31 (by decide) ?_
      exact x_iret C hr hf dX6_ownerOfNumber_33
    · have hf := iff_ q1 hf
      refine x_aload_n C dX6_ownerOfNumber_10 rfl rfl ?_
      refine x_getr (Cn := RX6) (T := TX6) (N := 8) C t0 (by decide) rfl nX6_ownerOfNumber_6 1 (by decide) rfl kX6_ownerOfNumber_19 rfl dX6_ownerOfNumber_11 (a0 + 2) rfl ?_
      refine x_iload_n C dX6_ownerOfNumber_14 rfl rfl ?_
      obtain ⟨g2, hf⟩ := ck_of hf
      have w3 : (a0 + 2) + 14 + 2 * (a2).toNatClampNeg = (a0 + 16 + 2 * (a2).toNatClampNeg) := by omega
      have u4 : tg (a0 + 16 + 2 * (a2).toNatClampNeg) = 2 := te_H (x := a2) (tf_6_1 t0) g2 w3
      refine x_aaldH (j := (a2).toNatClampNeg) C (tf_6_1 t0) (tl_6_1 t0) g2 rfl dX6_ownerOfNumber_15 (a0 + 16 + 2 * (a2).toNatClampNeg) w3 ?_
      refine x_geti (Cn := RX2) (T := TX2) (N := 9) C u4 (by decide) rfl nX6_ownerOfNumber_2 4 (by decide) rfl kX6_ownerOfNumber_55 rfl dX6_ownerOfNumber_16 ?_
      refine x_iload_n C dX6_ownerOfNumber_19 rfl rfl ?_
      refine x_icmp_ne (tgt := 25) C dX6_ownerOfNumber_20 (by decide) (fun q5 => ?_) (fun q5 => ?_)
      · have hf := ift q5 hf
        refine x_iload_n C dX6_ownerOfNumber_23 rfl rfl ?_
        exact x_iret C hr hf dX6_ownerOfNumber_24
      · have hf := iff_ q5 hf
        refine x_iinc (d := (1 : Int32)) (v := (a2 + (1 : Int32))) (lv' := [some (.ref (ad a0)), some (.int a1), some (.int (a2 + (1 : Int32)))]) C dX6_ownerOfNumber_25 rfl (by decide) rfl (by decide) rfl ?_
        refine x_goto (tgt := 2) C dX6_ownerOfNumber_28 (by decide) ?_
        exact x_weak (ih _ _ hf) [0, 1, 2] rfl

set_option maxHeartbeats 4000000 in
set_option maxRecDepth 100000 in
theorem c_X6_ownerOfNumber {a0 : Nat} {a1 : Int32} {M : Mem} {r : Int32} {M' : Mem} (t0 : tg a0 = 6) (hf : f_X6_ownerOfNumber a0 a1 M = some (r, M')) : CnI yX6_ownerOfNumber wsX6_ownerOfNumber 0 (fun ad => [.ref (ad a0), .int a1]) M r M' := by
  unfold f_X6_ownerOfNumber at hf
  refine x_metI (cc := cX6_ownerOfNumber) (maxL := 3) RX6 rfl (by decide) rfl (fun ad => Nat.le_of_ble_eq_true rfl) (fun ad v hv => ?_) (fun p l e s m args below meth c D cs ad C hr => ?_)
  · simp only [List.mem_cons, List.not_mem_nil, or_false] at hv
    rcases hv with rfl | rfl <;> rfl
  · show V p l e (rmk 0) s m args below meth c 3 D cs ad (QI below s args D cs ad r M') 0 [some (.ref (ad a0)), some (.int a1), none] [] M
    refine x_iconst (v := (0 : Int32)) C dX6_ownerOfNumber_0 (by decide) ?_
    refine x_istore_n (lv' := [some (.ref (ad a0)), some (.int a1), some (.int (0 : Int32))]) C dX6_ownerOfNumber_1 rfl (by decide) rfl ?_
    exact x_weak (cl_X6_ownerOfNumber_2 C hr t0 _ _ _ hf) [0, 1, 2] rfl

theorem kX7_clearText_33 : Cond.fieldLink RX7 33 "FlatLottery" "text" "LFlatLottery$ListText;" ∈ wsX7_clearText := List.mem_of_getElem? (i := 1) rfl
theorem kX7_clearText_187 : Cond.fieldLink RX7 187 "FlatLottery$ListText" "length" "I" ∈ wsX7_clearText := List.mem_of_getElem? (i := 2) rfl
theorem nX7_clearText_3 : ∀ w ∈ u_ws RX3 TX3 7, w ∈ wsX7_clearText := in_r [10, 11, 12, 13, 14, 15, 16] (by decide +kernel)
theorem nX7_clearText_7 : ∀ w ∈ u_ws RX7 TX7 7, w ∈ wsX7_clearText := in_r [3, 4, 5, 6, 7, 8, 9] (by decide +kernel)
set_option maxHeartbeats 4000000 in
set_option maxRecDepth 100000 in
theorem c_X7_clearText  {M : Mem} {r : Int32} {M' : Mem}  (hf : f_X7_clearText  M = some (r, M')) : CnI yX7_clearText wsX7_clearText 0 (fun ad => [.ref (ad 0)]) M r M' := by
  unfold f_X7_clearText at hf
  refine x_metI (cc := cX7_clearText) (maxL := 2) RX7 rfl (by decide) rfl (fun ad => Nat.le_of_ble_eq_true rfl) (fun ad v hv => ?_) (fun p l e s m args below meth c D cs ad C hr => ?_)
  · simp only [List.mem_cons, List.not_mem_nil, or_false] at hv
    rcases hv with rfl <;> rfl
  · show V p l e (rmk 0) s m args below meth c 2 D cs ad (QI below s args D cs ad r M') 0 [some (.ref (ad 0)), none] [] M
    refine x_aload_n C dX7_clearText_0 rfl rfl ?_
    refine x_getr (Cn := RX7) (T := TX7) (N := 7) C tg_0 (by decide) rfl nX7_clearText_7 4 (by decide) rfl kX7_clearText_33 rfl dX7_clearText_1 243 rfl ?_
    refine x_geti (Cn := RX3) (T := TX3) (N := 7) C tg_243 (by decide) rfl nX7_clearText_3 1 (by decide) rfl kX7_clearText_187 rfl dX7_clearText_4 ?_
    refine x_istore_n (lv' := [some (.ref (ad 0)), some (.int (M 243 1))]) C dX7_clearText_7 rfl (by decide) rfl ?_
    refine x_aload_n C dX7_clearText_8 rfl rfl ?_
    refine x_getr (Cn := RX7) (T := TX7) (N := 7) C tg_0 (by decide) rfl nX7_clearText_7 4 (by decide) rfl kX7_clearText_33 rfl dX7_clearText_9 243 rfl ?_
    refine x_iconst (v := (0 : Int32)) C dX7_clearText_12 (by decide) ?_
    refine x_puti (ty := .int) (Cn := RX3) (T := TX3) (N := 7) C tg_243 (by decide) rfl nX7_clearText_3 tyX3 tyX3_ok nmX3 1 (by decide) rfl kX7_clearText_187 rfl rfl (by decide +kernel) rfl rfl dX7_clearText_13 ?_
    refine x_gen hf (fun M1 hf => ?_)
    refine x_iload_n C dX7_clearText_16 rfl rfl ?_
    exact x_iret C hr hf dX7_clearText_17

set_option maxHeartbeats 4000000 in
set_option maxRecDepth 100000 in
theorem c_X7_isWithin {a0 : Int32} {a1 : Int32} {a2 : Int32} {M : Mem} {r : Int32} {M' : Mem}  (hf : f_X7_isWithin a0 a1 a2 M = some (r, M')) : CnI yX7_isWithin wsX7_isWithin 0 (fun ad => [.int a0, .int a1, .int a2]) M r M' := by
  unfold f_X7_isWithin at hf
  refine x_metI (cc := cX7_isWithin) (maxL := 3) RX7 rfl (by decide) rfl (fun ad => Nat.le_of_ble_eq_true rfl) (fun ad v hv => ?_) (fun p l e s m args below meth c D cs ad C hr => ?_)
  · simp only [List.mem_cons, List.not_mem_nil, or_false] at hv
    rcases hv with rfl | rfl | rfl <;> rfl
  · show V p l e (rmk 0) s m args below meth c 3 D cs ad (QI below s args D cs ad r M') 0 [some (.int a0), some (.int a1), some (.int a2)] [] M
    refine x_iload_n C dX7_isWithin_0 rfl rfl ?_
    refine x_iload_n C dX7_isWithin_1 rfl rfl ?_
    refine x_icmp_lt (tgt := 14) C dX7_isWithin_2 (by decide) (fun q1 => ?_) (fun q1 => ?_)
    · have hf := ift q1 hf
      refine x_iconst (v := (0 : Int32)) C dX7_isWithin_14 (by decide) ?_
      exact x_zret C hr rfl hf dX7_isWithin_15
    · have hf := iff_ q1 hf
      refine x_iload_n C dX7_isWithin_5 rfl rfl ?_
      refine x_iload_n C dX7_isWithin_6 rfl rfl ?_
      refine x_icmp_gt (tgt := 14) C dX7_isWithin_7 (by decide) (fun q2 => ?_) (fun q2 => ?_)
      · have hf := ift q2 hf
        refine x_iconst (v := (0 : Int32)) C dX7_isWithin_14 (by decide) ?_
        exact x_zret C hr rfl hf dX7_isWithin_15
      · have hf := iff_ q2 hf
        refine x_iconst (v := (1 : Int32)) C dX7_isWithin_10 (by decide) ?_
        refine x_goto (tgt := 15) C dX7_isWithin_11 (by decide) ?_
        exact x_zret C hr rfl hf dX7_isWithin_15

theorem kX2_removeWish_9 : Cond.fieldLink RX2 9 "FlatLottery$Household" "wishes" "[I" ∈ wsX2_removeWish := List.mem_of_getElem? (i := 2) rfl
theorem kX2_removeWish_15 : Cond.fieldLink RX2 15 "FlatLottery$Household" "wishCount" "I" ∈ wsX2_removeWish := List.mem_of_getElem? (i := 1) rfl
theorem nX2_removeWish_2 : ∀ w ∈ u_ws RX2 TX2 9, w ∈ wsX2_removeWish := in_r [8, 9, 10, 11, 12, 13, 14, 15, 16] (by decide +kernel)
set_option maxHeartbeats 4000000 in
set_option maxRecDepth 100000 in
theorem cl_X2_removeWish_17 {p : Program} {l : Launch} {e : Env} {s : State} {m : MethodId} {args : Array Value} {below : List Frame} {meth : Method} {c : Code} {D : va_G} {cs : Nat → ClassId} {ad : Nat → Nat} (C : Cx p s m args meth c RX2 cX2_removeWish 4 wsX2_removeWish D cs ad) (hr : meth.sig.returnType = none) {a0 : Nat} {r : Int32} {M' : Mem} (t0 : tg a0 = 2) : ∀ (n : Nat) (a3 : Int32) (M : Mem), l_X2_removeWish_17 a0 n a3 M = some (r, M') → V p l e (rmk 1) s m args below meth c 4 D cs ad (QV below s args D cs ad M') 17 [some (.ref (ad a0)), none, none, some (.int a3)] [] M := by
  intro n
  induction n with
  | zero => intro a3 M hf; cases hf
  | succ n ih =>
    intro a3 M hf
    rw [l_X2_removeWish_17_s] at hf
    refine x_iload_n C dX2_removeWish_17 rfl rfl ?_
    refine x_aload_n C dX2_removeWish_18 rfl rfl ?_
    refine x_geti (Cn := RX2) (T := TX2) (N := 9) C t0 (by decide) rfl nX2_removeWish_2 1 (by decide) rfl kX2_removeWish_15 rfl dX2_removeWish_19 ?_
    refine x_icmp_ge (tgt := 45) C dX2_removeWish_22 (by decide) (fun q5 => ?_) (fun q5 => ?_)
    · have hf := ift q5 hf
      refine x_aload_n C dX2_removeWish_45 rfl rfl ?_
      refine x_dup C dX2_removeWish_46 rfl ?_
      refine x_geti (Cn := RX2) (T := TX2) (N := 9) C t0 (by decide) rfl nX2_removeWish_2 1 (by decide) rfl kX2_removeWish_15 rfl dX2_removeWish_47 ?_
      refine x_iconst (v := (1 : Int32)) C dX2_removeWish_50 (by decide) ?_
      refine x_isub C dX2_removeWish_51 ?_
      refine x_puti (ty := .int) (Cn := RX2) (T := TX2) (N := 9) C t0 (by decide) rfl nX2_removeWish_2 tyX2 tyX2_ok nmX2 1 (by decide) rfl kX2_removeWish_15 rfl rfl (by decide +kernel) rfl rfl dX2_removeWish_52 ?_
      refine x_gen hf (fun M6 hf => ?_)
      exact x_vret C hr hf dX2_removeWish_55
    · have hf := iff_ q5 hf
      refine x_aload_n C dX2_removeWish_25 rfl rfl ?_
      refine x_getr (Cn := RX2) (T := TX2) (N := 9) C t0 (by decide) rfl nX2_removeWish_2 0 (by decide) rfl kX2_removeWish_9 rfl dX2_removeWish_26 (a0 + 1) rfl ?_
      refine x_iload_n C dX2_removeWish_29 rfl rfl ?_
      refine x_iconst (v := (1 : Int32)) C dX2_removeWish_30 (by decide) ?_
      refine x_isub C dX2_removeWish_31 ?_
      refine x_aload_n C dX2_removeWish_32 rfl rfl ?_
      refine x_getr (Cn := RX2) (T := TX2) (N := 9) C t0 (by decide) rfl nX2_removeWish_2 0 (by decide) rfl kX2_removeWish_9 rfl dX2_removeWish_33 (a0 + 1) rfl ?_
      refine x_iload_n C dX2_removeWish_36 rfl rfl ?_
      obtain ⟨g7, hf⟩ := ck_of hf
      refine x_iald (j := (a3).toNatClampNeg) C (tf_2_0 t0) (tl_2_0 t0) g7 rfl dX2_removeWish_37 ?_
      obtain ⟨g8, hf⟩ := ck_of hf
      refine x_iast (j := ((a3 - (1 : Int32))).toNatClampNeg) C (tf_2_0 t0) (tl_2_0 t0) g8 rfl dX2_removeWish_38 ?_
      refine x_gen hf (fun M9 hf => ?_)
      refine x_iinc (d := (1 : Int32)) (v := (a3 + (1 : Int32))) (lv' := [some (.ref (ad a0)), none, none, some (.int (a3 + (1 : Int32)))]) C dX2_removeWish_39 rfl (by decide) rfl (by decide) rfl ?_
      refine x_goto (tgt := 17) C dX2_removeWish_42 (by decide) ?_
      exact x_weak (ih _ _ hf) [0, 3] rfl

set_option maxHeartbeats 4000000 in
set_option maxRecDepth 100000 in
theorem c_X2_removeWish {a0 : Nat} {a1 : Int32} {M : Mem} {r : Int32} {M' : Mem} (t0 : tg a0 = 2) (hf : f_X2_removeWish a0 a1 M = some (r, M')) : CnV yX2_removeWish wsX2_removeWish 1 (fun ad => [.ref (ad a0), .int a1]) M M' := by
  unfold f_X2_removeWish at hf
  refine x_metV (cc := cX2_removeWish) (maxL := 4) RX2 rfl (by decide) rfl (fun ad => Nat.le_of_ble_eq_true rfl) (fun ad v hv => ?_) (fun p l e s m args below meth c D cs ad C hr => ?_)
  · simp only [List.mem_cons, List.not_mem_nil, or_false] at hv
    rcases hv with rfl | rfl <;> rfl
  · show V p l e (rmk 1) s m args below meth c 4 D cs ad (QV below s args D cs ad M') 0 [some (.ref (ad a0)), some (.int a1), none, none] [] M
    refine x_aload_n C dX2_removeWish_0 rfl rfl ?_
    refine x_iload_n C dX2_removeWish_1 rfl rfl ?_
    obtain ⟨r1, M2, e3, hf⟩ := bd_of hf
    refine x_callV (n := 1) (Cn := RX2) (T := TX2) (N := 9) (As := [.int a1]) (rest := []) (maxL := 3) (ret := (some .int)) C (c_X2_placeOf t0 e3) gX2_removeWish_X2_placeOf rfl (by decide +kernel) ⟨Nat.le_of_ble_eq_true rfl, Nat.le_of_ble_eq_true rfl⟩ t0 (by decide) rfl rfl rfl rfl (Nat.le_of_ble_eq_true rfl) dX2_removeWish_2 ?_
    refine x_istore_n (lv' := [some (.ref (ad a0)), some (.int a1), some (.int r1), none]) C dX2_removeWish_5 rfl (by decide) rfl ?_
    refine x_iload_n C dX2_removeWish_6 rfl rfl ?_
    refine x_bipush (v := (-5 : Int32)) C dX2_removeWish_7 (by decide) ?_
    refine x_icmp_ne (tgt := 13) C dX2_removeWish_9 (by decide) (fun q4 => ?_) (fun q4 => ?_)
    · have hf := ift q4 hf
      exact x_vret C hr hf dX2_removeWish_12
    · have hf := iff_ q4 hf
      refine x_iload_n C dX2_removeWish_13 rfl rfl ?_
      refine x_iconst (v := (1 : Int32)) C dX2_removeWish_14 (by decide) ?_
      refine x_iadd C dX2_removeWish_15 ?_
      refine x_istore_n (lv' := [some (.ref (ad a0)), some (.int a1), some (.int r1), some (.int (r1 + (1 : Int32)))]) C dX2_removeWish_16 rfl (by decide) rfl ?_
      exact x_weak (cl_X2_removeWish_17 C hr t0 _ _ _ hf) [0, 3] rfl

theorem kX2_wishesMoreThanItsOwn_31 : Cond.fieldLink RX2 31 "FlatLottery$Household" "held" "I" ∈ wsX2_wishesMoreThanItsOwn := List.mem_of_getElem? (i := 1) rfl
theorem nX2_wishesMoreThanItsOwn_2 : ∀ w ∈ u_ws RX2 TX2 9, w ∈ wsX2_wishesMoreThanItsOwn := in_r [9, 10, 11, 12, 13, 14, 15, 16, 17] (by decide +kernel)
set_option maxHeartbeats 4000000 in
set_option maxRecDepth 100000 in
theorem c_X2_wishesMoreThanItsOwn {a0 : Nat} {a1 : Int32} {M : Mem} {r : Int32} {M' : Mem} (t0 : tg a0 = 2) (hf : f_X2_wishesMoreThanItsOwn a0 a1 M = some (r, M')) : CnI yX2_wishesMoreThanItsOwn wsX2_wishesMoreThanItsOwn 1 (fun ad => [.ref (ad a0), .int a1]) M r M' := by
  unfold f_X2_wishesMoreThanItsOwn at hf
  refine x_metI (cc := cX2_wishesMoreThanItsOwn) (maxL := 4) RX2 rfl (by decide) rfl (fun ad => Nat.le_of_ble_eq_true rfl) (fun ad v hv => ?_) (fun p l e s m args below meth c D cs ad C hr => ?_)
  · simp only [List.mem_cons, List.not_mem_nil, or_false] at hv
    rcases hv with rfl | rfl <;> rfl
  · show V p l e (rmk 1) s m args below meth c 4 D cs ad (QI below s args D cs ad r M') 0 [some (.ref (ad a0)), some (.int a1), none, none] [] M
    refine x_aload_n C dX2_wishesMoreThanItsOwn_0 rfl rfl ?_
    refine x_iload_n C dX2_wishesMoreThanItsOwn_1 rfl rfl ?_
    obtain ⟨r1, M2, e3, hf⟩ := bd_of hf
    refine x_callV (n := 1) (Cn := RX2) (T := TX2) (N := 9) (As := [.int a1]) (rest := []) (maxL := 3) (ret := (some .int)) C (c_X2_placeOf t0 e3) gX2_wishesMoreThanItsOwn_X2_placeOf rfl (by decide +kernel) ⟨Nat.le_of_ble_eq_true rfl, Nat.le_of_ble_eq_true rfl⟩ t0 (by decide) rfl rfl rfl rfl (Nat.le_of_ble_eq_true rfl) dX2_wishesMoreThanItsOwn_2 ?_
    refine x_istore_n (lv' := [some (.ref (ad a0)), some (.int a1), some (.int r1), none]) C dX2_wishesMoreThanItsOwn_5 rfl (by decide) rfl ?_
    refine x_aload_n C dX2_wishesMoreThanItsOwn_6 rfl rfl ?_
    refine x_aload_n C dX2_wishesMoreThanItsOwn_7 rfl rfl ?_
    refine x_geti (Cn := RX2) (T := TX2) (N := 9) C t0 (by decide) rfl nX2_wishesMoreThanItsOwn_2 6 (by decide) rfl kX2_wishesMoreThanItsOwn_31 rfl dX2_wishesMoreThanItsOwn_8 ?_
    obtain ⟨r4, M5, e6, hf⟩ := bd_of hf
    refine x_callV (n := 1) (Cn := RX2) (T := TX2) (N := 9) (As := [.int (M2 a0 6)]) (rest := []) (maxL := 3) (ret := (some .int)) C (c_X2_placeOf t0 e6) gX2_wishesMoreThanItsOwn_X2_placeOf rfl (by decide +kernel) ⟨Nat.le_of_ble_eq_true rfl, Nat.le_of_ble_eq_true rfl⟩ t0 (by decide) rfl rfl rfl rfl (Nat.le_of_ble_eq_true rfl) dX2_wishesMoreThanItsOwn_11 ?_
    refine x_istore_n (lv' := [some (.ref (ad a0)), some (.int a1), some (.int r1), some (.int r4)]) C dX2_wishesMoreThanItsOwn_14 rfl (by decide) rfl ?_
    refine x_iload_n C dX2_wishesMoreThanItsOwn_15 rfl rfl ?_
    refine x_bipush (v := (-5 : Int32)) C dX2_wishesMoreThanItsOwn_16 (by decide) ?_
    refine x_icmp_eq (tgt := 36) C dX2_wishesMoreThanItsOwn_18 (by decide) (fun q7 => ?_) (fun q7 => ?_)
    · have hf := ift q7 hf
      refine x_iconst (v := (0 : Int32)) C dX2_wishesMoreThanItsOwn_36 (by decide) ?_
      exact x_zret C hr rfl hf dX2_wishesMoreThanItsOwn_37
    · have hf := iff_ q7 hf
      refine x_iload_n C dX2_wishesMoreThanItsOwn_21 rfl rfl ?_
      refine x_bipush (v := (-5 : Int32)) C dX2_wishesMoreThanItsOwn_22 (by decide) ?_
      refine x_icmp_eq (tgt := 32) C dX2_wishesMoreThanItsOwn_24 (by decide) (fun q8 => ?_) (fun q8 => ?_)
      · have hf := ift q8 hf
        refine x_iconst (v := (1 : Int32)) C dX2_wishesMoreThanItsOwn_32 (by decide) ?_
        refine x_goto (tgt := 37) C dX2_wishesMoreThanItsOwn_33 (by decide) ?_
        exact x_zret C hr rfl hf dX2_wishesMoreThanItsOwn_37
      · have hf := iff_ q8 hf
        refine x_iload_n C dX2_wishesMoreThanItsOwn_27 rfl rfl ?_
        refine x_iload_n C dX2_wishesMoreThanItsOwn_28 rfl rfl ?_
        refine x_icmp_ge (tgt := 36) C dX2_wishesMoreThanItsOwn_29 (by decide) (fun q9 => ?_) (fun q9 => ?_)
        · have hf := ift q9 hf
          refine x_iconst (v := (0 : Int32)) C dX2_wishesMoreThanItsOwn_36 (by decide) ?_
          exact x_zret C hr rfl hf dX2_wishesMoreThanItsOwn_37
        · have hf := iff_ q9 hf
          refine x_iconst (v := (1 : Int32)) C dX2_wishesMoreThanItsOwn_32 (by decide) ?_
          refine x_goto (tgt := 37) C dX2_wishesMoreThanItsOwn_33 (by decide) ?_
          exact x_zret C hr rfl hf dX2_wishesMoreThanItsOwn_37

