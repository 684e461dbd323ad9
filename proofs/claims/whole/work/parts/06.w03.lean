theorem kX7_keep_10 : Cond.fieldLink RX7 10 "FlatLottery" "state" "LFlatLottery$State;" ∈ wsX7_keep := List.mem_of_getElem? (i := 2) rfl
theorem kX7_keep_16 : Cond.fieldLink RX7 16 "FlatLottery" "snapshot" "LFlatLottery$State;" ∈ wsX7_keep := List.mem_of_getElem? (i := 1) rfl
theorem kX7_keep_19 : Cond.fieldLink RX7 19 "FlatLottery" "hasSnapshot" "Z" ∈ wsX7_keep := List.mem_of_getElem? (i := 3) rfl
theorem nX7_keep_7 : ∀ w ∈ u_ws RX7 TX7 7, w ∈ wsX7_keep := in_r [42, 43, 44, 45, 46, 47, 48] (by decide +kernel)
set_option maxHeartbeats 4000000 in
set_option maxRecDepth 100000 in
theorem c_X7_keep  {M : Mem} {r : Int32} {M' : Mem}  (hf : f_X7_keep  M = some (r, M')) : CnI yX7_keep wsX7_keep 2 (fun ad => [.ref (ad 0)]) M r M' := by
  unfold f_X7_keep at hf
  refine x_metI (cc := cX7_keep) (maxL := 1) RX7 rfl (by decide) rfl (fun ad => Nat.le_of_ble_eq_true rfl) (fun ad v hv => ?_) (fun p l e s m args below meth c D cs ad C hr => ?_)
  · simp only [List.mem_cons, List.not_mem_nil, or_false] at hv
    rcases hv with rfl <;> rfl
  · show V p l e (rmk 2) s m args below meth c 1 D cs ad (QI below s args D cs ad r M') 0 [some (.ref (ad 0))] [] M
    refine x_aload_n C dX7_keep_0 rfl rfl ?_
    refine x_getr (Cn := RX7) (T := TX7) (N := 7) C tg_0 (by decide) rfl nX7_keep_7 1 (by decide) rfl kX7_keep_16 rfl dX7_keep_1 41 rfl ?_
    refine x_aload_n C dX7_keep_4 rfl rfl ?_
    refine x_getr (Cn := RX7) (T := TX7) (N := 7) C tg_0 (by decide) rfl nX7_keep_7 0 (by decide) rfl kX7_keep_10 rfl dX7_keep_5 1 rfl ?_
    obtain ⟨r1, M2, e3, hf⟩ := bd_of hf
    refine x_callVv (n := 1) (Cn := RX6) (T := TX6) (N := 8) (As := [.ref (ad 1)]) (rest := []) (maxL := 3) (ret := none) C (c_X6_copyFrom tg_41 tg_1 e3) gX7_keep_X6_copyFrom rfl (by decide +kernel) ⟨Nat.le_of_ble_eq_true rfl, Nat.le_of_ble_eq_true rfl⟩ tg_41 (by decide) rfl rfl rfl rfl (Nat.le_of_ble_eq_true rfl) dX7_keep_8 ?_
    refine x_aload_n C dX7_keep_11 rfl rfl ?_
    refine x_iconst (v := (1 : Int32)) C dX7_keep_12 (by decide) ?_
    refine x_puti (ty := .boolean) (Cn := RX7) (T := TX7) (N := 7) C tg_0 (by decide) rfl nX7_keep_7 tyX7 tyX7_ok nmX7 2 (by decide) rfl kX7_keep_19 rfl rfl (by decide +kernel) rfl rfl dX7_keep_13 ?_
    refine x_gen hf (fun M4 hf => ?_)
    refine x_aload_n C dX7_keep_16 rfl rfl ?_
    refine x_getr (Cn := RX7) (T := TX7) (N := 7) C tg_0 (by decide) rfl nX7_keep_7 0 (by decide) rfl kX7_keep_10 rfl dX7_keep_17 1 rfl ?_
    obtain ⟨r5, M6, e7, hf⟩ := bd_of hf
    refine x_callV (n := 0) (Cn := RX6) (T := TX6) (N := 8) (As := []) (rest := []) (maxL := 3) (ret := (some .int)) C (c_X6_countHeld tg_1 e7) gX7_keep_X6_countHeld rfl (by decide +kernel) ⟨Nat.le_of_ble_eq_true rfl, Nat.le_of_ble_eq_true rfl⟩ tg_1 (by decide) rfl rfl rfl rfl (Nat.le_of_ble_eq_true rfl) dX7_keep_20 ?_
    exact x_iret C hr hf dX7_keep_23

theorem kX8_addFlat_7 : Cond.fieldLink RX8 7 "FlatLotteryModel" "s" "[I" ∈ wsX8_addFlat := List.mem_of_getElem? (i := 1) rfl
theorem nX8_addFlat_8 : ∀ w ∈ u_ws RX8 TX8 13, w ∈ wsX8_addFlat := in_r [15, 16, 17, 18, 19, 20, 21, 22, 23, 24, 25, 26, 27] (by decide +kernel)
set_option maxHeartbeats 4000000 in
set_option maxRecDepth 100000 in
theorem c_X8_addFlat {a1 : Int32} {a2 : Int32} {M : Mem} {r : Int32} {M' : Mem}  (hf : f_X8_addFlat a1 a2 M = some (r, M')) : CnI yX8_addFlat wsX8_addFlat 2 (fun ad => [.ref (ad 255), .int a1, .int a2]) M r M' := by
  unfold f_X8_addFlat at hf
  refine x_metI (cc := cX8_addFlat) (maxL := 4) RX8 rfl (by decide) rfl (fun ad => Nat.le_of_ble_eq_true rfl) (fun ad v hv => ?_) (fun p l e s m args below meth c D cs ad C hr => ?_)
  · simp only [List.mem_cons, List.not_mem_nil, or_false] at hv
    rcases hv with rfl | rfl | rfl <;> rfl
  · show V p l e (rmk 2) s m args below meth c 4 D cs ad (QI below s args D cs ad r M') 0 [some (.ref (ad 255)), some (.int a1), some (.int a2), none] [] M
    refine x_iload_n C dX8_addFlat_0 rfl rfl ?_
    refine x_iconst (v := (1 : Int32)) C dX8_addFlat_1 (by decide) ?_
    refine x_iconst (v := (5 : Int32)) C dX8_addFlat_2 (by decide) ?_
    obtain ⟨r1, M2, e3, hf⟩ := bd_of hf
    refine x_callS (n := 3) (As := [.int a1, .int (1 : Int32), .int (5 : Int32)]) (rest := []) (maxL := 3) (ret := (some .boolean)) C (c_X8_in  e3) gX8_addFlat_X8_in rfl (by decide +kernel) ⟨Nat.le_of_ble_eq_true rfl, Nat.le_of_ble_eq_true rfl⟩ rfl rfl rfl (Nat.le_of_ble_eq_true rfl) dX8_addFlat_3 ?_
    refine x_if_eq (tgt := 20) C dX8_addFlat_6 (by decide) (fun q4 => ?_) (fun q4 => ?_)
    · have hf := ift q4 hf
      refine x_bipush (v := (-2 : Int32)) C dX8_addFlat_20 (by decide) ?_
      exact x_iret C hr hf dX8_addFlat_22
    · have hf := iff_ q4 hf
      refine x_iload_n C dX8_addFlat_9 rfl rfl ?_
      refine x_iconst (v := (1 : Int32)) C dX8_addFlat_10 (by decide) ?_
      refine x_sipush (v := (999 : Int32)) C dX8_addFlat_11 (by decide) ?_
      obtain ⟨r5, M6, e7, hf⟩ := bd_of hf
      refine x_callS (n := 3) (As := [.int a2, .int (1 : Int32), .int (999 : Int32)]) (rest := []) (maxL := 3) (ret := (some .boolean)) C (c_X8_in  e7) gX8_addFlat_X8_in rfl (by decide +kernel) ⟨Nat.le_of_ble_eq_true rfl, Nat.le_of_ble_eq_true rfl⟩ rfl rfl rfl (Nat.le_of_ble_eq_true rfl) dX8_addFlat_14 ?_
      refine x_if_ne (tgt := 23) C dX8_addFlat_17 (by decide) (fun q8 => ?_) (fun q8 => ?_)
      · have hf := ift q8 hf
        refine x_bipush (v := (-2 : Int32)) C dX8_addFlat_20 (by decide) ?_
        exact x_iret C hr hf dX8_addFlat_22
      · have hf := iff_ q8 hf
        refine x_aload_n C dX8_addFlat_23 rfl rfl ?_
        refine x_getr (Cn := RX8) (T := TX8) (N := 13) C tg_255 (by decide) rfl nX8_addFlat_8 0 (by decide) rfl kX8_addFlat_7 rfl dX8_addFlat_24 256 rfl ?_
        refine x_iconst (v := (0 : Int32)) C dX8_addFlat_27 (by decide) ?_
        refine x_iald (j := 0) C tg_256 tl_256 (by decide) (by decide) dX8_addFlat_28 ?_
        refine x_istore_n (lv' := [some (.ref (ad 255)), some (.int a1), some (.int a2), some (.int (M6 256 0))]) C dX8_addFlat_29 rfl (by decide) rfl ?_
        refine x_iload_n C dX8_addFlat_30 rfl rfl ?_
        refine x_bipush (v := (12 : Int32)) C dX8_addFlat_31 (by decide) ?_
        refine x_icmp_ne (tgt := 39) C dX8_addFlat_33 (by decide) (fun q9 => ?_) (fun q9 => ?_)
        · have hf := ift q9 hf
          refine x_bipush (v := (-3 : Int32)) C dX8_addFlat_36 (by decide) ?_
          exact x_iret C hr hf dX8_addFlat_38
        · have hf := iff_ q9 hf
          refine x_aload_n C dX8_addFlat_39 rfl rfl ?_
          obtain ⟨r10, M11, e12, hf⟩ := bd_of hf
          refine x_callVv (n := 0) (Cn := RX8) (T := TX8) (N := 13) (As := []) (rest := []) (maxL := 2) (ret := none) C (c_X8_records  e12) gX8_addFlat_X8_records rfl (by decide +kernel) ⟨Nat.le_of_ble_eq_true rfl, Nat.le_of_ble_eq_true rfl⟩ tg_255 (by decide) rfl rfl rfl rfl (Nat.le_of_ble_eq_true rfl) dX8_addFlat_40 ?_
          refine x_aload_n C dX8_addFlat_43 rfl rfl ?_
          refine x_getr (Cn := RX8) (T := TX8) (N := 13) C tg_255 (by decide) rfl nX8_addFlat_8 0 (by decide) rfl kX8_addFlat_7 rfl dX8_addFlat_44 256 rfl ?_
          refine x_bipush (v := (6 : Int32)) C dX8_addFlat_47 (by decide) ?_
          refine x_iconst (v := (2 : Int32)) C dX8_addFlat_49 (by decide) ?_
          refine x_iload_n C dX8_addFlat_50 rfl rfl ?_
          refine x_imul C dX8_addFlat_51 ?_
          refine x_iadd C dX8_addFlat_52 ?_
          refine x_iload_n C dX8_addFlat_53 rfl rfl ?_
          obtain ⟨g13, hf⟩ := ck_of hf
          refine x_iast (j := (((6 : Int32) + ((2 : Int32) * (M6 256 0)))).toNatClampNeg) C tg_256 tl_256 g13 rfl dX8_addFlat_54 ?_
          refine x_gen hf (fun M14 hf => ?_)
          refine x_aload_n C dX8_addFlat_55 rfl rfl ?_
          refine x_getr (Cn := RX8) (T := TX8) (N := 13) C tg_255 (by decide) rfl nX8_addFlat_8 0 (by decide) rfl kX8_addFlat_7 rfl dX8_addFlat_56 256 rfl ?_
          refine x_bipush (v := (6 : Int32)) C dX8_addFlat_59 (by decide) ?_
          refine x_iconst (v := (2 : Int32)) C dX8_addFlat_61 (by decide) ?_
          refine x_iload_n C dX8_addFlat_62 rfl rfl ?_
          refine x_imul C dX8_addFlat_63 ?_
          refine x_iadd C dX8_addFlat_64 ?_
          refine x_iconst (v := (1 : Int32)) C dX8_addFlat_65 (by decide) ?_
          refine x_iadd C dX8_addFlat_66 ?_
          refine x_iload_n C dX8_addFlat_67 rfl rfl ?_
          obtain ⟨g15, hf⟩ := ck_of hf
          refine x_iast (j := ((((6 : Int32) + ((2 : Int32) * (M6 256 0))) + (1 : Int32))).toNatClampNeg) C tg_256 tl_256 g15 rfl dX8_addFlat_68 ?_
          refine x_gen hf (fun M16 hf => ?_)
          refine x_aload_n C dX8_addFlat_69 rfl rfl ?_
          refine x_getr (Cn := RX8) (T := TX8) (N := 13) C tg_255 (by decide) rfl nX8_addFlat_8 0 (by decide) rfl kX8_addFlat_7 rfl dX8_addFlat_70 256 rfl ?_
          refine x_iconst (v := (0 : Int32)) C dX8_addFlat_73 (by decide) ?_
          refine x_dup2 C dX8_addFlat_74 rfl rfl ?_
          refine x_iald (j := 0) C tg_256 tl_256 (by decide) (by decide) dX8_addFlat_75 ?_
          refine x_iconst (v := (1 : Int32)) C dX8_addFlat_76 (by decide) ?_
          refine x_iadd C dX8_addFlat_77 ?_
          refine x_iast (j := 0) C tg_256 tl_256 (by decide) (by decide) dX8_addFlat_78 ?_
          refine x_gen hf (fun M17 hf => ?_)
          refine x_iload_n C dX8_addFlat_79 rfl rfl ?_
          exact x_iret C hr hf dX8_addFlat_80

theorem kX8_addHousehold_7 : Cond.fieldLink RX8 7 "FlatLotteryModel" "s" "[I" ∈ wsX8_addHousehold := List.mem_of_getElem? (i := 1) rfl
theorem nX8_addHousehold_8 : ∀ w ∈ u_ws RX8 TX8 13, w ∈ wsX8_addHousehold := in_r [22, 23, 24, 25, 26, 27, 28, 29, 30, 31, 32, 33, 34] (by decide +kernel)
set_option maxHeartbeats 4000000 in
set_option maxRecDepth 100000 in
theorem cl_X8_addHousehold_42 {p : Program} {l : Launch} {e : Env} {s : State} {m : MethodId} {args : Array Value} {below : List Frame} {meth : Method} {c : Code} {D : va_G} {cs : Nat → ClassId} {ad : Nat → Nat} (C : Cx p s m args meth c RX8 cX8_addHousehold 5 wsX8_addHousehold D cs ad) (hr : meth.sig.returnType = some .int) {a3 : Int32} {x1 : Value} {x2 : Value} {r : Int32} {M' : Mem}  {k : Mem → Option (Int32 × Mem)} (hk : ∀ (M : Mem), k M = some (r, M') → V p l e (rmk 2) s m args below meth c 5 D cs ad (QI below s args D cs ad r M') 63 [some (.ref (ad 255)), some (x1), some (x2), some (.int a3), none] [] M) : ∀ (n : Nat) (a4 : Int32) (M : Mem), l_X8_addHousehold_42 a3 k n a4 M = some (r, M') → V p l e (rmk 2) s m args below meth c 5 D cs ad (QI below s args D cs ad r M') 42 [some (.ref (ad 255)), some (x1), some (x2), some (.int a3), some (.int a4)] [] M := by
  intro n
  induction n with
  | zero => intro a4 M hf; cases hf
  | succ n ih =>
    intro a4 M hf
    rw [l_X8_addHousehold_42_s] at hf
    refine x_iload C dX8_addHousehold_42 rfl ?_
    refine x_bipush (v := (14 : Int32)) C dX8_addHousehold_44 (by decide) ?_
    refine x_icmp_ge (tgt := 63) C dX8_addHousehold_46 (by decide) (fun q13 => ?_) (fun q13 => ?_)
    · have hf := ift q13 hf
      exact x_weak (hk _ hf) [0, 1, 2, 3] rfl
    · have hf := iff_ q13 hf
      refine x_aload_n C dX8_addHousehold_49 rfl rfl ?_
      refine x_iload_n C dX8_addHousehold_50 rfl rfl ?_
      refine x_iload C dX8_addHousehold_51 rfl ?_
      refine x_iconst (v := (0 : Int32)) C dX8_addHousehold_53 (by decide) ?_
      obtain ⟨r14, M15, e16, hf⟩ := bd_of hf
      refine x_callVv (n := 3) (Cn := RX8) (T := TX8) (N := 13) (As := [.int a3, .int a4, .int (0 : Int32)]) (rest := []) (maxL := 4) (ret := none) C (c_X8_puts  e16) gX8_addHousehold_X8_puts rfl (by decide +kernel) ⟨Nat.le_of_ble_eq_true rfl, Nat.le_of_ble_eq_true rfl⟩ tg_255 (by decide) rfl rfl rfl rfl (Nat.le_of_ble_eq_true rfl) dX8_addHousehold_54 ?_
      refine x_iinc (d := (1 : Int32)) (v := (a4 + (1 : Int32))) (lv' := [some (.ref (ad 255)), some (x1), some (x2), some (.int a3), some (.int (a4 + (1 : Int32)))]) C dX8_addHousehold_57 rfl (by decide) rfl (by decide) rfl ?_
      refine x_goto (tgt := 42) C dX8_addHousehold_60 (by decide) ?_
      exact x_weak (ih _ _ hf) [0, 1, 2, 3, 4] rfl

set_option maxHeartbeats 4000000 in
set_option maxRecDepth 100000 in
theorem c_X8_addHousehold {a1 : Int32} {a2 : Int32} {M : Mem} {r : Int32} {M' : Mem}  (hf : f_X8_addHousehold a1 a2 M = some (r, M')) : CnI yX8_addHousehold wsX8_addHousehold 2 (fun ad => [.ref (ad 255), .int a1, .int a2]) M r M' := by
  unfold f_X8_addHousehold at hf
  refine x_metI (cc := cX8_addHousehold) (maxL := 5) RX8 rfl (by decide) rfl (fun ad => Nat.le_of_ble_eq_true rfl) (fun ad v hv => ?_) (fun p l e s m args below meth c D cs ad C hr => ?_)
  · simp only [List.mem_cons, List.not_mem_nil, or_false] at hv
    rcases hv with rfl | rfl | rfl <;> rfl
  · show V p l e (rmk 2) s m args below meth c 5 D cs ad (QI below s args D cs ad r M') 0 [some (.ref (ad 255)), some (.int a1), some (.int a2), none, none] [] M
    refine x_iconst (v := (0 : Int32)) C dX8_addHousehold_0 (by decide) ?_
    refine x_iload_n C dX8_addHousehold_1 rfl rfl ?_
    obtain ⟨r1, M2, e3, hf⟩ := bd_of hf
    refine x_callS (n := 2) (As := [.int (0 : Int32), .int a1]) (rest := []) (maxL := 2) (ret := (some .boolean)) C (c_X8_isNumber  e3) gX8_addHousehold_X8_isNumber rfl (by decide +kernel) ⟨Nat.le_of_ble_eq_true rfl, Nat.le_of_ble_eq_true rfl⟩ rfl rfl rfl (Nat.le_of_ble_eq_true rfl) dX8_addHousehold_2 ?_
    refine x_if_eq (tgt := 16) C dX8_addHousehold_5 (by decide) (fun q4 => ?_) (fun q4 => ?_)
    · have hf := ift q4 hf
      refine x_bipush (v := (-2 : Int32)) C dX8_addHousehold_16 (by decide) ?_
      exact x_iret C hr hf dX8_addHousehold_18
    · have hf := iff_ q4 hf
      refine x_iconst (v := (1 : Int32)) C dX8_addHousehold_8 (by decide) ?_
      refine x_iload_n C dX8_addHousehold_9 rfl rfl ?_
      obtain ⟨r5, M6, e7, hf⟩ := bd_of hf
      refine x_callS (n := 2) (As := [.int (1 : Int32), .int a2]) (rest := []) (maxL := 2) (ret := (some .boolean)) C (c_X8_isNumber  e7) gX8_addHousehold_X8_isNumber rfl (by decide +kernel) ⟨Nat.le_of_ble_eq_true rfl, Nat.le_of_ble_eq_true rfl⟩ rfl rfl rfl (Nat.le_of_ble_eq_true rfl) dX8_addHousehold_10 ?_
      refine x_if_ne (tgt := 19) C dX8_addHousehold_13 (by decide) (fun q8 => ?_) (fun q8 => ?_)
      · have hf := ift q8 hf
        refine x_bipush (v := (-2 : Int32)) C dX8_addHousehold_16 (by decide) ?_
        exact x_iret C hr hf dX8_addHousehold_18
      · have hf := iff_ q8 hf
        refine x_aload_n C dX8_addHousehold_19 rfl rfl ?_
        refine x_getr (Cn := RX8) (T := TX8) (N := 13) C tg_255 (by decide) rfl nX8_addHousehold_8 0 (by decide) rfl kX8_addHousehold_7 rfl dX8_addHousehold_20 256 rfl ?_
        refine x_iconst (v := (1 : Int32)) C dX8_addHousehold_23 (by decide) ?_
        refine x_iald (j := 1) C tg_256 tl_256 (by decide) (by decide) dX8_addHousehold_24 ?_
        refine x_istore_n (lv' := [some (.ref (ad 255)), some (.int a1), some (.int a2), some (.int (M6 256 1)), none]) C dX8_addHousehold_25 rfl (by decide) rfl ?_
        refine x_iload_n C dX8_addHousehold_26 rfl rfl ?_
        refine x_bipush (v := (12 : Int32)) C dX8_addHousehold_27 (by decide) ?_
        refine x_icmp_ne (tgt := 35) C dX8_addHousehold_29 (by decide) (fun q9 => ?_) (fun q9 => ?_)
        · have hf := ift q9 hf
          refine x_bipush (v := (-3 : Int32)) C dX8_addHousehold_32 (by decide) ?_
          exact x_iret C hr hf dX8_addHousehold_34
        · have hf := iff_ q9 hf
          refine x_aload_n C dX8_addHousehold_35 rfl rfl ?_
          obtain ⟨r10, M11, e12, hf⟩ := bd_of hf
          refine x_callVv (n := 0) (Cn := RX8) (T := TX8) (N := 13) (As := []) (rest := []) (maxL := 2) (ret := none) C (c_X8_records  e12) gX8_addHousehold_X8_records rfl (by decide +kernel) ⟨Nat.le_of_ble_eq_true rfl, Nat.le_of_ble_eq_true rfl⟩ tg_255 (by decide) rfl rfl rfl rfl (Nat.le_of_ble_eq_true rfl) dX8_addHousehold_36 ?_
          refine x_iconst (v := (0 : Int32)) C dX8_addHousehold_39 (by decide) ?_
          refine x_istore (lv' := [some (.ref (ad 255)), some (.int a1), some (.int a2), some (.int (M6 256 1)), some (.int (0 : Int32))]) C dX8_addHousehold_40 (by decide) rfl ?_
          refine x_weak (cl_X8_addHousehold_42 C hr  (fun M17 hf => ?_) _ _ _ hf) [0, 1, 2, 3, 4] rfl
          refine x_aload_n C dX8_addHousehold_63 rfl rfl ?_
          refine x_iload_n C dX8_addHousehold_64 rfl rfl ?_
          refine x_iconst (v := (0 : Int32)) C dX8_addHousehold_65 (by decide) ?_
          refine x_iload_n C dX8_addHousehold_66 rfl rfl ?_
          obtain ⟨r18, M19, e20, hf⟩ := bd_of hf
          refine x_callVv (n := 3) (Cn := RX8) (T := TX8) (N := 13) (As := [.int (M6 256 1), .int (0 : Int32), .int a1]) (rest := []) (maxL := 4) (ret := none) C (c_X8_puts  e20) gX8_addHousehold_X8_puts rfl (by decide +kernel) ⟨Nat.le_of_ble_eq_true rfl, Nat.le_of_ble_eq_true rfl⟩ tg_255 (by decide) rfl rfl rfl rfl (Nat.le_of_ble_eq_true rfl) dX8_addHousehold_67 ?_
          refine x_aload_n C dX8_addHousehold_70 rfl rfl ?_
          refine x_iload_n C dX8_addHousehold_71 rfl rfl ?_
          refine x_iconst (v := (1 : Int32)) C dX8_addHousehold_72 (by decide) ?_
          refine x_iload_n C dX8_addHousehold_73 rfl rfl ?_
          obtain ⟨r21, M22, e23, hf⟩ := bd_of hf
          refine x_callVv (n := 3) (Cn := RX8) (T := TX8) (N := 13) (As := [.int (M6 256 1), .int (1 : Int32), .int a2]) (rest := []) (maxL := 4) (ret := none) C (c_X8_puts  e23) gX8_addHousehold_X8_puts rfl (by decide +kernel) ⟨Nat.le_of_ble_eq_true rfl, Nat.le_of_ble_eq_true rfl⟩ tg_255 (by decide) rfl rfl rfl rfl (Nat.le_of_ble_eq_true rfl) dX8_addHousehold_74 ?_
          refine x_aload_n C dX8_addHousehold_77 rfl rfl ?_
          refine x_iload_n C dX8_addHousehold_78 rfl rfl ?_
          refine x_iconst (v := (4 : Int32)) C dX8_addHousehold_79 (by decide) ?_
          refine x_bipush (v := (-5 : Int32)) C dX8_addHousehold_80 (by decide) ?_
          obtain ⟨r24, M25, e26, hf⟩ := bd_of hf
          refine x_callVv (n := 3) (Cn := RX8) (T := TX8) (N := 13) (As := [.int (M6 256 1), .int (4 : Int32), .int (-5 : Int32)]) (rest := []) (maxL := 4) (ret := none) C (c_X8_puts  e26) gX8_addHousehold_X8_puts rfl (by decide +kernel) ⟨Nat.le_of_ble_eq_true rfl, Nat.le_of_ble_eq_true rfl⟩ tg_255 (by decide) rfl rfl rfl rfl (Nat.le_of_ble_eq_true rfl) dX8_addHousehold_82 ?_
          refine x_aload_n C dX8_addHousehold_85 rfl rfl ?_
          refine x_getr (Cn := RX8) (T := TX8) (N := 13) C tg_255 (by decide) rfl nX8_addHousehold_8 0 (by decide) rfl kX8_addHousehold_7 rfl dX8_addHousehold_86 256 rfl ?_
          refine x_iconst (v := (1 : Int32)) C dX8_addHousehold_89 (by decide) ?_
          refine x_dup2 C dX8_addHousehold_90 rfl rfl ?_
          refine x_iald (j := 1) C tg_256 tl_256 (by decide) (by decide) dX8_addHousehold_91 ?_
          refine x_iconst (v := (1 : Int32)) C dX8_addHousehold_92 (by decide) ?_
          refine x_iadd C dX8_addHousehold_93 ?_
          refine x_iast (j := 1) C tg_256 tl_256 (by decide) (by decide) dX8_addHousehold_94 ?_
          refine x_gen hf (fun M27 hf => ?_)
          refine x_iload_n C dX8_addHousehold_95 rfl rfl ?_
          exact x_iret C hr hf dX8_addHousehold_96

set_option maxHeartbeats 4000000 in
set_option maxRecDepth 100000 in
theorem c_X8_change {a1 : Int32} {a2 : Int32} {a3 : Int32} {M : Mem} {r : Int32} {M' : Mem}  (hf : f_X8_change a1 a2 a3 M = some (r, M')) : CnI yX8_change wsX8_change 2 (fun ad => [.ref (ad 255), .int a1, .int a2, .int a3]) M r M' := by
  unfold f_X8_change at hf
  refine x_metI (cc := cX8_change) (maxL := 5) RX8 rfl (by decide) rfl (fun ad => Nat.le_of_ble_eq_true rfl) (fun ad v hv => ?_) (fun p l e s m args below meth c D cs ad C hr => ?_)
  · simp only [List.mem_cons, List.not_mem_nil, or_false] at hv
    rcases hv with rfl | rfl | rfl | rfl <;> rfl
  · show V p l e (rmk 2) s m args below meth c 5 D cs ad (QI below s args D cs ad r M') 0 [some (.ref (ad 255)), some (.int a1), some (.int a2), some (.int a3), none] [] M
    refine x_aload_n C dX8_change_0 rfl rfl ?_
    refine x_iload_n C dX8_change_1 rfl rfl ?_
    obtain ⟨r1, M2, e3, hf⟩ := bd_of hf
    refine x_callV (n := 1) (Cn := RX8) (T := TX8) (N := 13) (As := [.int a1]) (rest := []) (maxL := 2) (ret := (some .boolean)) C (c_X8_isHome  e3) gX8_change_X8_isHome rfl (by decide +kernel) ⟨Nat.le_of_ble_eq_true rfl, Nat.le_of_ble_eq_true rfl⟩ tg_255 (by decide) rfl rfl rfl rfl (Nat.le_of_ble_eq_true rfl) dX8_change_2 ?_
    refine x_if_ne (tgt := 10) C dX8_change_5 (by decide) (fun q4 => ?_) (fun q4 => ?_)
    · have hf := ift q4 hf
      refine x_iconst (v := (-1 : Int32)) C dX8_change_8 (by decide) ?_
      exact x_iret C hr hf dX8_change_9
    · have hf := iff_ q4 hf
      refine x_iload_n C dX8_change_10 rfl rfl ?_
      refine x_iload_n C dX8_change_11 rfl rfl ?_
      obtain ⟨r5, M6, e7, hf⟩ := bd_of hf
      refine x_callS (n := 2) (As := [.int a2, .int a3]) (rest := []) (maxL := 2) (ret := (some .boolean)) C (c_X8_isNumber  e7) gX8_change_X8_isNumber rfl (by decide +kernel) ⟨Nat.le_of_ble_eq_true rfl, Nat.le_of_ble_eq_true rfl⟩ rfl rfl rfl (Nat.le_of_ble_eq_true rfl) dX8_change_12 ?_
      refine x_if_ne (tgt := 21) C dX8_change_15 (by decide) (fun q8 => ?_) (fun q8 => ?_)
      · have hf := ift q8 hf
        refine x_bipush (v := (-2 : Int32)) C dX8_change_18 (by decide) ?_
        exact x_iret C hr hf dX8_change_20
      · have hf := iff_ q8 hf
        refine x_aload_n C dX8_change_21 rfl rfl ?_
        refine x_iload_n C dX8_change_22 rfl rfl ?_
        refine x_iload_n C dX8_change_23 rfl rfl ?_
        refine x_if_eq (tgt := 31) C dX8_change_24 (by decide) (fun q9 => ?_) (fun q9 => ?_)
        · have hf := ift q9 hf
          refine x_iconst (v := (0 : Int32)) C dX8_change_31 (by decide) ?_
          obtain ⟨r10, M11, e12, hf⟩ := bd_of hf
          refine x_callV (n := 2) (Cn := RX8) (T := TX8) (N := 13) (As := [.int a1, .int (0 : Int32)]) (rest := []) (maxL := 3) (ret := (some .int)) C (c_X8_of  e12) gX8_change_X8_of rfl (by decide +kernel) ⟨Nat.le_of_ble_eq_true rfl, Nat.le_of_ble_eq_true rfl⟩ tg_255 (by decide) rfl rfl rfl rfl (Nat.le_of_ble_eq_true rfl) dX8_change_32 ?_
          refine x_istore (lv' := [some (.ref (ad 255)), some (.int a1), some (.int a2), some (.int a3), some (.int r10)]) C dX8_change_35 (by decide) rfl ?_
          refine x_iload C dX8_change_37 rfl ?_
          refine x_iload_n C dX8_change_39 rfl rfl ?_
          refine x_icmp_ne (tgt := 46) C dX8_change_40 (by decide) (fun q13 => ?_) (fun q13 => ?_)
          · have hf := ift q13 hf
            refine x_bipush (v := (-5 : Int32)) C dX8_change_43 (by decide) ?_
            exact x_iret C hr hf dX8_change_45
          · have hf := iff_ q13 hf
            refine x_aload_n C dX8_change_46 rfl rfl ?_
            obtain ⟨r14, M15, e16, hf⟩ := bd_of hf
            refine x_callVv (n := 0) (Cn := RX8) (T := TX8) (N := 13) (As := []) (rest := []) (maxL := 2) (ret := none) C (c_X8_records  e16) gX8_change_X8_records rfl (by decide +kernel) ⟨Nat.le_of_ble_eq_true rfl, Nat.le_of_ble_eq_true rfl⟩ tg_255 (by decide) rfl rfl rfl rfl (Nat.le_of_ble_eq_true rfl) dX8_change_47 ?_
            refine x_aload_n C dX8_change_50 rfl rfl ?_
            refine x_iload_n C dX8_change_51 rfl rfl ?_
            refine x_iload_n C dX8_change_52 rfl rfl ?_
            refine x_if_eq (tgt := 60) C dX8_change_53 (by decide) (fun q17 => ?_) (fun q17 => ?_)
            · have hf := ift q17 hf
              refine x_iconst (v := (0 : Int32)) C dX8_change_60 (by decide) ?_
              refine x_iload_n C dX8_change_61 rfl rfl ?_
              obtain ⟨r18, M19, e20, hf⟩ := bd_of hf
              refine x_callVv (n := 3) (Cn := RX8) (T := TX8) (N := 13) (As := [.int a1, .int (0 : Int32), .int a3]) (rest := []) (maxL := 4) (ret := none) C (c_X8_puts  e20) gX8_change_X8_puts rfl (by decide +kernel) ⟨Nat.le_of_ble_eq_true rfl, Nat.le_of_ble_eq_true rfl⟩ tg_255 (by decide) rfl rfl rfl rfl (Nat.le_of_ble_eq_true rfl) dX8_change_62 ?_
              refine x_iload C dX8_change_65 rfl ?_
              exact x_iret C hr hf dX8_change_67
            · have hf := iff_ q17 hf
              refine x_iconst (v := (1 : Int32)) C dX8_change_56 (by decide) ?_
              refine x_goto (tgt := 61) C dX8_change_57 (by decide) ?_
              refine x_iload_n C dX8_change_61 rfl rfl ?_
              obtain ⟨r21, M22, e23, hf⟩ := bd_of hf
              refine x_callVv (n := 3) (Cn := RX8) (T := TX8) (N := 13) (As := [.int a1, .int (1 : Int32), .int a3]) (rest := []) (maxL := 4) (ret := none) C (c_X8_puts  e23) gX8_change_X8_puts rfl (by decide +kernel) ⟨Nat.le_of_ble_eq_true rfl, Nat.le_of_ble_eq_true rfl⟩ tg_255 (by decide) rfl rfl rfl rfl (Nat.le_of_ble_eq_true rfl) dX8_change_62 ?_
              refine x_iload C dX8_change_65 rfl ?_
              exact x_iret C hr hf dX8_change_67
        · have hf := iff_ q9 hf
          refine x_iconst (v := (1 : Int32)) C dX8_change_27 (by decide) ?_
          refine x_goto (tgt := 32) C dX8_change_28 (by decide) ?_
          obtain ⟨r24, M25, e26, hf⟩ := bd_of hf
          refine x_callV (n := 2) (Cn := RX8) (T := TX8) (N := 13) (As := [.int a1, .int (1 : Int32)]) (rest := []) (maxL := 3) (ret := (some .int)) C (c_X8_of  e26) gX8_change_X8_of rfl (by decide +kernel) ⟨Nat.le_of_ble_eq_true rfl, Nat.le_of_ble_eq_true rfl⟩ tg_255 (by decide) rfl rfl rfl rfl (Nat.le_of_ble_eq_true rfl) dX8_change_32 ?_
          refine x_istore (lv' := [some (.ref (ad 255)), some (.int a1), some (.int a2), some (.int a3), some (.int r24)]) C dX8_change_35 (by decide) rfl ?_
          refine x_iload C dX8_change_37 rfl ?_
          refine x_iload_n C dX8_change_39 rfl rfl ?_
          refine x_icmp_ne (tgt := 46) C dX8_change_40 (by decide) (fun q27 => ?_) (fun q27 => ?_)
          · have hf := ift q27 hf
            refine x_bipush (v := (-5 : Int32)) C dX8_change_43 (by decide) ?_
            exact x_iret C hr hf dX8_change_45
          · have hf := iff_ q27 hf
            refine x_aload_n C dX8_change_46 rfl rfl ?_
            obtain ⟨r28, M29, e30, hf⟩ := bd_of hf
            refine x_callVv (n := 0) (Cn := RX8) (T := TX8) (N := 13) (As := []) (rest := []) (maxL := 2) (ret := none) C (c_X8_records  e30) gX8_change_X8_records rfl (by decide +kernel) ⟨Nat.le_of_ble_eq_true rfl, Nat.le_of_ble_eq_true rfl⟩ tg_255 (by decide) rfl rfl rfl rfl (Nat.le_of_ble_eq_true rfl) dX8_change_47 ?_
            refine x_aload_n C dX8_change_50 rfl rfl ?_
            refine x_iload_n C dX8_change_51 rfl rfl ?_
            refine x_iload_n C dX8_change_52 rfl rfl ?_
            refine x_if_eq (tgt := 60) C dX8_change_53 (by decide) (fun q31 => ?_) (fun q31 => ?_)
            · have hf := ift q31 hf
              refine x_iconst (v := (0 : Int32)) C dX8_change_60 (by decide) ?_
              refine x_iload_n C dX8_change_61 rfl rfl ?_
              obtain ⟨r32, M33, e34, hf⟩ := bd_of hf
              refine x_callVv (n := 3) (Cn := RX8) (T := TX8) (N := 13) (As := [.int a1, .int (0 : Int32), .int a3]) (rest := []) (maxL := 4) (ret := none) C (c_X8_puts  e34) gX8_change_X8_puts rfl (by decide +kernel) ⟨Nat.le_of_ble_eq_true rfl, Nat.le_of_ble_eq_true rfl⟩ tg_255 (by decide) rfl rfl rfl rfl (Nat.le_of_ble_eq_true rfl) dX8_change_62 ?_
              refine x_iload C dX8_change_65 rfl ?_
              exact x_iret C hr hf dX8_change_67
            · have hf := iff_ q31 hf
              refine x_iconst (v := (1 : Int32)) C dX8_change_56 (by decide) ?_
              refine x_goto (tgt := 61) C dX8_change_57 (by decide) ?_
              refine x_iload_n C dX8_change_61 rfl rfl ?_
              obtain ⟨r35, M36, e37, hf⟩ := bd_of hf
              refine x_callVv (n := 3) (Cn := RX8) (T := TX8) (N := 13) (As := [.int a1, .int (1 : Int32), .int a3]) (rest := []) (maxL := 4) (ret := none) C (c_X8_puts  e37) gX8_change_X8_puts rfl (by decide +kernel) ⟨Nat.le_of_ble_eq_true rfl, Nat.le_of_ble_eq_true rfl⟩ tg_255 (by decide) rfl rfl rfl rfl (Nat.le_of_ble_eq_true rfl) dX8_change_62 ?_
              refine x_iload C dX8_change_65 rfl ?_
              exact x_iret C hr hf dX8_change_67

theorem kX8_decline_7 : Cond.fieldLink RX8 7 "FlatLotteryModel" "s" "[I" ∈ wsX8_decline := List.mem_of_getElem? (i := 1) rfl
theorem nX8_decline_8 : ∀ w ∈ u_ws RX8 TX8 13, w ∈ wsX8_decline := in_r [35, 36, 37, 38, 39, 40, 41, 42, 43, 44, 45, 46, 47] (by decide +kernel)
set_option maxHeartbeats 4000000 in
set_option maxRecDepth 100000 in
theorem c_X8_decline {a1 : Int32} {M : Mem} {r : Int32} {M' : Mem}  (hf : f_X8_decline a1 M = some (r, M')) : CnI yX8_decline wsX8_decline 2 (fun ad => [.ref (ad 255), .int a1]) M r M' := by
  unfold f_X8_decline at hf
  refine x_metI (cc := cX8_decline) (maxL := 5) RX8 rfl (by decide) rfl (fun ad => Nat.le_of_ble_eq_true rfl) (fun ad v hv => ?_) (fun p l e s m args below meth c D cs ad C hr => ?_)
  · simp only [List.mem_cons, List.not_mem_nil, or_false] at hv
    rcases hv with rfl | rfl <;> rfl
  · show V p l e (rmk 2) s m args below meth c 5 D cs ad (QI below s args D cs ad r M') 0 [some (.ref (ad 255)), some (.int a1), none, none, none] [] M
    refine x_aload_n C dX8_decline_0 rfl rfl ?_
    refine x_iload_n C dX8_decline_1 rfl rfl ?_
    obtain ⟨r1, M2, e3, hf⟩ := bd_of hf
    refine x_callV (n := 1) (Cn := RX8) (T := TX8) (N := 13) (As := [.int a1]) (rest := []) (maxL := 2) (ret := (some .boolean)) C (c_X8_isHome  e3) gX8_decline_X8_isHome rfl (by decide +kernel) ⟨Nat.le_of_ble_eq_true rfl, Nat.le_of_ble_eq_true rfl⟩ tg_255 (by decide) rfl rfl rfl rfl (Nat.le_of_ble_eq_true rfl) dX8_decline_2 ?_
    refine x_if_ne (tgt := 10) C dX8_decline_5 (by decide) (fun q4 => ?_) (fun q4 => ?_)
    · have hf := ift q4 hf
      refine x_iconst (v := (-1 : Int32)) C dX8_decline_8 (by decide) ?_
      exact x_iret C hr hf dX8_decline_9
    · have hf := iff_ q4 hf
      refine x_aload_n C dX8_decline_10 rfl rfl ?_
      refine x_iload_n C dX8_decline_11 rfl rfl ?_
      refine x_iconst (v := (4 : Int32)) C dX8_decline_12 (by decide) ?_
      obtain ⟨r5, M6, e7, hf⟩ := bd_of hf
      refine x_callV (n := 2) (Cn := RX8) (T := TX8) (N := 13) (As := [.int a1, .int (4 : Int32)]) (rest := []) (maxL := 3) (ret := (some .int)) C (c_X8_of  e7) gX8_decline_X8_of rfl (by decide +kernel) ⟨Nat.le_of_ble_eq_true rfl, Nat.le_of_ble_eq_true rfl⟩ tg_255 (by decide) rfl rfl rfl rfl (Nat.le_of_ble_eq_true rfl) dX8_decline_13 ?_
      refine x_istore_n (lv' := [some (.ref (ad 255)), some (.int a1), some (.int r5), none, none]) C dX8_decline_16 rfl (by decide) rfl ?_
      refine x_iload_n C dX8_decline_17 rfl rfl ?_
      refine x_bipush (v := (-5 : Int32)) C dX8_decline_18 (by decide) ?_
      refine x_icmp_ne (tgt := 26) C dX8_decline_20 (by decide) (fun q8 => ?_) (fun q8 => ?_)
      · have hf := ift q8 hf
        refine x_bipush (v := (-4 : Int32)) C dX8_decline_23 (by decide) ?_
        exact x_iret C hr hf dX8_decline_25
      · have hf := iff_ q8 hf
        refine x_aload_n C dX8_decline_26 rfl rfl ?_
        obtain ⟨r9, M10, e11, hf⟩ := bd_of hf
        refine x_callVv (n := 0) (Cn := RX8) (T := TX8) (N := 13) (As := []) (rest := []) (maxL := 2) (ret := none) C (c_X8_records  e11) gX8_decline_X8_records rfl (by decide +kernel) ⟨Nat.le_of_ble_eq_true rfl, Nat.le_of_ble_eq_true rfl⟩ tg_255 (by decide) rfl rfl rfl rfl (Nat.le_of_ble_eq_true rfl) dX8_decline_27 ?_
        refine x_aload_n C dX8_decline_30 rfl rfl ?_
        refine x_iload_n C dX8_decline_31 rfl rfl ?_
        refine x_iconst (v := (4 : Int32)) C dX8_decline_32 (by decide) ?_
        refine x_bipush (v := (-5 : Int32)) C dX8_decline_33 (by decide) ?_
        obtain ⟨r12, M13, e14, hf⟩ := bd_of hf
        refine x_callVv (n := 3) (Cn := RX8) (T := TX8) (N := 13) (As := [.int a1, .int (4 : Int32), .int (-5 : Int32)]) (rest := []) (maxL := 4) (ret := none) C (c_X8_puts  e14) gX8_decline_X8_puts rfl (by decide +kernel) ⟨Nat.le_of_ble_eq_true rfl, Nat.le_of_ble_eq_true rfl⟩ tg_255 (by decide) rfl rfl rfl rfl (Nat.le_of_ble_eq_true rfl) dX8_decline_35 ?_
        refine x_aload_n C dX8_decline_38 rfl rfl ?_
        refine x_iload_n C dX8_decline_39 rfl rfl ?_
        refine x_iload_n C dX8_decline_40 rfl rfl ?_
        obtain ⟨r15, M16, e17, hf⟩ := bd_of hf
        refine x_callV (n := 2) (Cn := RX8) (T := TX8) (N := 13) (As := [.int a1, .int r5]) (rest := []) (maxL := 5) (ret := (some .int)) C (c_X8_placeOn  e17) gX8_decline_X8_placeOn rfl (by decide +kernel) ⟨Nat.le_of_ble_eq_true rfl, Nat.le_of_ble_eq_true rfl⟩ tg_255 (by decide) rfl rfl rfl rfl (Nat.le_of_ble_eq_true rfl) dX8_decline_41 ?_
        refine x_istore_n (lv' := [some (.ref (ad 255)), some (.int a1), some (.int r5), some (.int r15), none]) C dX8_decline_44 rfl (by decide) rfl ?_
        refine x_iload_n C dX8_decline_45 rfl rfl ?_
        refine x_bipush (v := (-5 : Int32)) C dX8_decline_46 (by decide) ?_
        refine x_icmp_eq (tgt := 57) C dX8_decline_48 (by decide) (fun q18 => ?_) (fun q18 => ?_)
        · have hf := ift q18 hf
          refine x_aload_n C dX8_decline_57 rfl rfl ?_
          refine x_iload_n C dX8_decline_58 rfl rfl ?_
          refine x_iconst (v := (3 : Int32)) C dX8_decline_59 (by decide) ?_
          obtain ⟨r19, M20, e21, hf⟩ := bd_of hf
          refine x_callV (n := 2) (Cn := RX8) (T := TX8) (N := 13) (As := [.int a1, .int (3 : Int32)]) (rest := []) (maxL := 3) (ret := (some .int)) C (c_X8_of  e21) gX8_decline_X8_of rfl (by decide +kernel) ⟨Nat.le_of_ble_eq_true rfl, Nat.le_of_ble_eq_true rfl⟩ tg_255 (by decide) rfl rfl rfl rfl (Nat.le_of_ble_eq_true rfl) dX8_decline_60 ?_
          refine x_istore (lv' := [some (.ref (ad 255)), some (.int a1), some (.int r5), some (.int r15), some (.int r19)]) C dX8_decline_63 (by decide) rfl ?_
          refine x_aload_n C dX8_decline_65 rfl rfl ?_
          refine x_iload_n C dX8_decline_66 rfl rfl ?_
          refine x_iconst (v := (3 : Int32)) C dX8_decline_67 (by decide) ?_
          refine x_iload C dX8_decline_68 rfl ?_
          refine x_if_le (tgt := 80) C dX8_decline_70 (by decide) (fun q22 => ?_) (fun q22 => ?_)
          · have hf := ift q22 hf
            refine x_iconst (v := (0 : Int32)) C dX8_decline_80 (by decide) ?_
            obtain ⟨r23, M24, e25, hf⟩ := bd_of hf
            refine x_callVv (n := 3) (Cn := RX8) (T := TX8) (N := 13) (As := [.int a1, .int (3 : Int32), .int (0 : Int32)]) (rest := []) (maxL := 4) (ret := none) C (c_X8_puts  e25) gX8_decline_X8_puts rfl (by decide +kernel) ⟨Nat.le_of_ble_eq_true rfl, Nat.le_of_ble_eq_true rfl⟩ tg_255 (by decide) rfl rfl rfl rfl (Nat.le_of_ble_eq_true rfl) dX8_decline_81 ?_
            refine x_aload_n C dX8_decline_84 rfl rfl ?_
            refine x_getr (Cn := RX8) (T := TX8) (N := 13) C tg_255 (by decide) rfl nX8_decline_8 0 (by decide) rfl kX8_decline_7 rfl dX8_decline_85 256 rfl ?_
            refine x_iconst (v := (5 : Int32)) C dX8_decline_88 (by decide) ?_
            refine x_dup2 C dX8_decline_89 rfl rfl ?_
            refine x_iald (j := 5) C tg_256 tl_256 (by decide) (by decide) dX8_decline_90 ?_
            refine x_iconst (v := (1 : Int32)) C dX8_decline_91 (by decide) ?_
            refine x_iadd C dX8_decline_92 ?_
            refine x_iast (j := 5) C tg_256 tl_256 (by decide) (by decide) dX8_decline_93 ?_
            refine x_gen hf (fun M26 hf => ?_)
            refine x_iload_n C dX8_decline_94 rfl rfl ?_
            exact x_iret C hr hf dX8_decline_95
          · have hf := iff_ q22 hf
            refine x_iload C dX8_decline_73 rfl ?_
            refine x_iconst (v := (1 : Int32)) C dX8_decline_75 (by decide) ?_
            refine x_isub C dX8_decline_76 ?_
            refine x_goto (tgt := 81) C dX8_decline_77 (by decide) ?_
            obtain ⟨r27, M28, e29, hf⟩ := bd_of hf
            refine x_callVv (n := 3) (Cn := RX8) (T := TX8) (N := 13) (As := [.int a1, .int (3 : Int32), .int (r19 - (1 : Int32))]) (rest := []) (maxL := 4) (ret := none) C (c_X8_puts  e29) gX8_decline_X8_puts rfl (by decide +kernel) ⟨Nat.le_of_ble_eq_true rfl, Nat.le_of_ble_eq_true rfl⟩ tg_255 (by decide) rfl rfl rfl rfl (Nat.le_of_ble_eq_true rfl) dX8_decline_81 ?_
            refine x_aload_n C dX8_decline_84 rfl rfl ?_
            refine x_getr (Cn := RX8) (T := TX8) (N := 13) C tg_255 (by decide) rfl nX8_decline_8 0 (by decide) rfl kX8_decline_7 rfl dX8_decline_85 256 rfl ?_
            refine x_iconst (v := (5 : Int32)) C dX8_decline_88 (by decide) ?_
            refine x_dup2 C dX8_decline_89 rfl rfl ?_
            refine x_iald (j := 5) C tg_256 tl_256 (by decide) (by decide) dX8_decline_90 ?_
            refine x_iconst (v := (1 : Int32)) C dX8_decline_91 (by decide) ?_
            refine x_iadd C dX8_decline_92 ?_
            refine x_iast (j := 5) C tg_256 tl_256 (by decide) (by decide) dX8_decline_93 ?_
            refine x_gen hf (fun M30 hf => ?_)
            refine x_iload_n C dX8_decline_94 rfl rfl ?_
            exact x_iret C hr hf dX8_decline_95
        · have hf := iff_ q18 hf
          refine x_aload_n C dX8_decline_51 rfl rfl ?_
          refine x_iload_n C dX8_decline_52 rfl rfl ?_
          refine x_iload_n C dX8_decline_53 rfl rfl ?_
          obtain ⟨r31, M32, e33, hf⟩ := bd_of hf
          refine x_callVv (n := 2) (Cn := RX8) (T := TX8) (N := 13) (As := [.int a1, .int r15]) (rest := []) (maxL := 5) (ret := none) C (c_X8_takesOff  e33) gX8_decline_X8_takesOff rfl (by decide +kernel) ⟨Nat.le_of_ble_eq_true rfl, Nat.le_of_ble_eq_true rfl⟩ tg_255 (by decide) rfl rfl rfl rfl (Nat.le_of_ble_eq_true rfl) dX8_decline_54 ?_
          refine x_aload_n C dX8_decline_57 rfl rfl ?_
          refine x_iload_n C dX8_decline_58 rfl rfl ?_
          refine x_iconst (v := (3 : Int32)) C dX8_decline_59 (by decide) ?_
          obtain ⟨r34, M35, e36, hf⟩ := bd_of hf
          refine x_callV (n := 2) (Cn := RX8) (T := TX8) (N := 13) (As := [.int a1, .int (3 : Int32)]) (rest := []) (maxL := 3) (ret := (some .int)) C (c_X8_of  e36) gX8_decline_X8_of rfl (by decide +kernel) ⟨Nat.le_of_ble_eq_true rfl, Nat.le_of_ble_eq_true rfl⟩ tg_255 (by decide) rfl rfl rfl rfl (Nat.le_of_ble_eq_true rfl) dX8_decline_60 ?_
          refine x_istore (lv' := [some (.ref (ad 255)), some (.int a1), some (.int r5), some (.int r15), some (.int r34)]) C dX8_decline_63 (by decide) rfl ?_
          refine x_aload_n C dX8_decline_65 rfl rfl ?_
          refine x_iload_n C dX8_decline_66 rfl rfl ?_
          refine x_iconst (v := (3 : Int32)) C dX8_decline_67 (by decide) ?_
          refine x_iload C dX8_decline_68 rfl ?_
          refine x_if_le (tgt := 80) C dX8_decline_70 (by decide) (fun q37 => ?_) (fun q37 => ?_)
          · have hf := ift q37 hf
            refine x_iconst (v := (0 : Int32)) C dX8_decline_80 (by decide) ?_
            obtain ⟨r38, M39, e40, hf⟩ := bd_of hf
            refine x_callVv (n := 3) (Cn := RX8) (T := TX8) (N := 13) (As := [.int a1, .int (3 : Int32), .int (0 : Int32)]) (rest := []) (maxL := 4) (ret := none) C (c_X8_puts  e40) gX8_decline_X8_puts rfl (by decide +kernel) ⟨Nat.le_of_ble_eq_true rfl, Nat.le_of_ble_eq_true rfl⟩ tg_255 (by decide) rfl rfl rfl rfl (Nat.le_of_ble_eq_true rfl) dX8_decline_81 ?_
            refine x_aload_n C dX8_decline_84 rfl rfl ?_
            refine x_getr (Cn := RX8) (T := TX8) (N := 13) C tg_255 (by decide) rfl nX8_decline_8 0 (by decide) rfl kX8_decline_7 rfl dX8_decline_85 256 rfl ?_
            refine x_iconst (v := (5 : Int32)) C dX8_decline_88 (by decide) ?_
            refine x_dup2 C dX8_decline_89 rfl rfl ?_
            refine x_iald (j := 5) C tg_256 tl_256 (by decide) (by decide) dX8_decline_90 ?_
            refine x_iconst (v := (1 : Int32)) C dX8_decline_91 (by decide) ?_
            refine x_iadd C dX8_decline_92 ?_
            refine x_iast (j := 5) C tg_256 tl_256 (by decide) (by decide) dX8_decline_93 ?_
            refine x_gen hf (fun M41 hf => ?_)
            refine x_iload_n C dX8_decline_94 rfl rfl ?_
            exact x_iret C hr hf dX8_decline_95
          · have hf := iff_ q37 hf
            refine x_iload C dX8_decline_73 rfl ?_
            refine x_iconst (v := (1 : Int32)) C dX8_decline_75 (by decide) ?_
            refine x_isub C dX8_decline_76 ?_
            refine x_goto (tgt := 81) C dX8_decline_77 (by decide) ?_
            obtain ⟨r42, M43, e44, hf⟩ := bd_of hf
            refine x_callVv (n := 3) (Cn := RX8) (T := TX8) (N := 13) (As := [.int a1, .int (3 : Int32), .int (r34 - (1 : Int32))]) (rest := []) (maxL := 4) (ret := none) C (c_X8_puts  e44) gX8_decline_X8_puts rfl (by decide +kernel) ⟨Nat.le_of_ble_eq_true rfl, Nat.le_of_ble_eq_true rfl⟩ tg_255 (by decide) rfl rfl rfl rfl (Nat.le_of_ble_eq_true rfl) dX8_decline_81 ?_
            refine x_aload_n C dX8_decline_84 rfl rfl ?_
            refine x_getr (Cn := RX8) (T := TX8) (N := 13) C tg_255 (by decide) rfl nX8_decline_8 0 (by decide) rfl kX8_decline_7 rfl dX8_decline_85 256 rfl ?_
            refine x_iconst (v := (5 : Int32)) C dX8_decline_88 (by decide) ?_
            refine x_dup2 C dX8_decline_89 rfl rfl ?_
            refine x_iald (j := 5) C tg_256 tl_256 (by decide) (by decide) dX8_decline_90 ?_
            refine x_iconst (v := (1 : Int32)) C dX8_decline_91 (by decide) ?_
            refine x_iadd C dX8_decline_92 ?_
            refine x_iast (j := 5) C tg_256 tl_256 (by decide) (by decide) dX8_decline_93 ?_
            refine x_gen hf (fun M45 hf => ?_)
            refine x_iload_n C dX8_decline_94 rfl rfl ?_
            exact x_iret C hr hf dX8_decline_95

theorem kX8_drawn_7 : Cond.fieldLink RX8 7 "FlatLotteryModel" "s" "[I" ∈ wsX8_drawn := List.mem_of_getElem? (i := 1) rfl
theorem nX8_drawn_8 : ∀ w ∈ u_ws RX8 TX8 13, w ∈ wsX8_drawn := in_r [11, 12, 13, 14, 15, 16, 17, 18, 19, 20, 21, 22, 23] (by decide +kernel)
set_option maxHeartbeats 4000000 in
set_option maxRecDepth 100000 in
theorem cl_X8_drawn_4 {p : Program} {l : Launch} {e : Env} {s : State} {m : MethodId} {args : Array Value} {below : List Frame} {meth : Method} {c : Code} {D : va_G} {cs : Nat → ClassId} {ad : Nat → Nat} (C : Cx p s m args meth c RX8 cX8_drawn 3 wsX8_drawn D cs ad) (hr : meth.sig.returnType = some .int)  {r : Int32} {M' : Mem}  : ∀ (n : Nat) (a1 : Int32) (a2 : Int32) (M : Mem), l_X8_drawn_4 n a1 a2 M = some (r, M') → V p l e (rmk 2) s m args below meth c 3 D cs ad (QI below s args D cs ad r M') 4 [some (.ref (ad 255)), some (.int a1), some (.int a2)] [] M := by
  intro n
  induction n with
  | zero => intro a1 a2 M hf; cases hf
  | succ n ih =>
    intro a1 a2 M hf
    rw [l_X8_drawn_4_s] at hf
    refine x_iload_n C dX8_drawn_4 rfl rfl ?_
    refine x_aload_n C dX8_drawn_5 rfl rfl ?_
    refine x_getr (Cn := RX8) (T := TX8) (N := 13) C tg_255 (by decide) rfl nX8_drawn_8 0 (by decide) rfl kX8_drawn_7 rfl dX8_drawn_6 256 rfl ?_
    refine x_iconst (v := (1 : Int32)) C dX8_drawn_9 (by decide) ?_
    refine x_iald (j := 1) C tg_256 tl_256 (by decide) (by decide) dX8_drawn_10 ?_
    refine x_icmp_ge (tgt := 36) C dX8_drawn_11 (by decide) (fun q1 => ?_) (fun q1 => ?_)
    · have hf := ift q1 hf
      refine x_iload_n C dX8_drawn_36 rfl rfl ?_
      exact x_iret C hr hf dX8_drawn_37
    · have hf := iff_ q1 hf
      refine x_iload_n C dX8_drawn_14 rfl rfl ?_
      refine x_aload_n C dX8_drawn_15 rfl rfl ?_
      refine x_iload_n C dX8_drawn_16 rfl rfl ?_
      obtain ⟨r2, M3, e4, hf⟩ := bd_of hf
      refine x_callV (n := 1) (Cn := RX8) (T := TX8) (N := 13) (As := [.int a2]) (rest := [.int a1]) (maxL := 2) (ret := (some .boolean)) C (c_X8_isDrawn  e4) gX8_drawn_X8_isDrawn rfl (by decide +kernel) ⟨Nat.le_of_ble_eq_true rfl, Nat.le_of_ble_eq_true rfl⟩ tg_255 (by decide) rfl rfl rfl rfl (Nat.le_of_ble_eq_true rfl) dX8_drawn_17 ?_
      refine x_if_eq (tgt := 27) C dX8_drawn_20 (by decide) (fun q5 => ?_) (fun q5 => ?_)
      · have hf := ift q5 hf
        refine x_iconst (v := (0 : Int32)) C dX8_drawn_27 (by decide) ?_
        refine x_iadd C dX8_drawn_28 ?_
        refine x_istore_n (lv' := [some (.ref (ad 255)), some (.int (a1 + (0 : Int32))), some (.int a2)]) C dX8_drawn_29 rfl (by decide) rfl ?_
        refine x_iinc (d := (1 : Int32)) (v := (a2 + (1 : Int32))) (lv' := [some (.ref (ad 255)), some (.int (a1 + (0 : Int32))), some (.int (a2 + (1 : Int32)))]) C dX8_drawn_30 rfl (by decide) rfl (by decide) rfl ?_
        refine x_goto (tgt := 4) C dX8_drawn_33 (by decide) ?_
        exact x_weak (ih _ _ _ hf) [0, 1, 2] rfl
      · have hf := iff_ q5 hf
        refine x_iconst (v := (1 : Int32)) C dX8_drawn_23 (by decide) ?_
        refine x_goto (tgt := 28) C dX8_drawn_24 (by decide) ?_
        refine x_iadd C dX8_drawn_28 ?_
        refine x_istore_n (lv' := [some (.ref (ad 255)), some (.int (a1 + (1 : Int32))), some (.int a2)]) C dX8_drawn_29 rfl (by decide) rfl ?_
        refine x_iinc (d := (1 : Int32)) (v := (a2 + (1 : Int32))) (lv' := [some (.ref (ad 255)), some (.int (a1 + (1 : Int32))), some (.int (a2 + (1 : Int32)))]) C dX8_drawn_30 rfl (by decide) rfl (by decide) rfl ?_
        refine x_goto (tgt := 4) C dX8_drawn_33 (by decide) ?_
        exact x_weak (ih _ _ _ hf) [0, 1, 2] rfl

set_option maxHeartbeats 4000000 in
set_option maxRecDepth 100000 in
theorem c_X8_drawn  {M : Mem} {r : Int32} {M' : Mem}  (hf : f_X8_drawn  M = some (r, M')) : CnI yX8_drawn wsX8_drawn 2 (fun ad => [.ref (ad 255)]) M r M' := by
  unfold f_X8_drawn at hf
  refine x_metI (cc := cX8_drawn) (maxL := 3) RX8 rfl (by decide) rfl (fun ad => Nat.le_of_ble_eq_true rfl) (fun ad v hv => ?_) (fun p l e s m args below meth c D cs ad C hr => ?_)
  · simp only [List.mem_cons, List.not_mem_nil, or_false] at hv
    rcases hv with rfl <;> rfl
  · show V p l e (rmk 2) s m args below meth c 3 D cs ad (QI below s args D cs ad r M') 0 [some (.ref (ad 255)), none, none] [] M
    refine x_iconst (v := (0 : Int32)) C dX8_drawn_0 (by decide) ?_
    refine x_istore_n (lv' := [some (.ref (ad 255)), some (.int (0 : Int32)), none]) C dX8_drawn_1 rfl (by decide) rfl ?_
    refine x_iconst (v := (0 : Int32)) C dX8_drawn_2 (by decide) ?_
    refine x_istore_n (lv' := [some (.ref (ad 255)), some (.int (0 : Int32)), some (.int (0 : Int32))]) C dX8_drawn_3 rfl (by decide) rfl ?_
    exact x_weak (cl_X8_drawn_4 C hr  _ _ _ _ hf) [0, 1, 2] rfl

set_option maxHeartbeats 4000000 in
set_option maxRecDepth 100000 in
theorem cl_X8_firstOf_2 {p : Program} {l : Launch} {e : Env} {s : State} {m : MethodId} {args : Array Value} {below : List Frame} {meth : Method} {c : Code} {D : va_G} {cs : Nat → ClassId} {ad : Nat → Nat} (C : Cx p s m args meth c RX8 cX8_firstOf 5 wsX8_firstOf D cs ad) (hr : meth.sig.returnType = some .int) {a1 : Int32} {a2 : Int32} {r : Int32} {M' : Mem}  : ∀ (n : Nat) (a3 : Int32) (M : Mem), l_X8_firstOf_2 a1 a2 n a3 M = some (r, M') → V p l e (rmk 2) s m args below meth c 5 D cs ad (QI below s args D cs ad r M') 2 [some (.ref (ad 255)), some (.int a1), some (.int a2), some (.int a3), none] [] M := by
  intro n
  induction n with
  | zero => intro a3 M hf; cases hf
  | succ n ih =>
    intro a3 M hf
    rw [l_X8_firstOf_2_s] at hf
    refine x_iload_n C dX8_firstOf_2 rfl rfl ?_
    refine x_aload_n C dX8_firstOf_3 rfl rfl ?_
    refine x_iload_n C dX8_firstOf_4 rfl rfl ?_
    refine x_bipush (v := (7 : Int32)) C dX8_firstOf_5 (by decide) ?_
    obtain ⟨r1, M2, e3, hf⟩ := bd_of hf
    refine x_callV (n := 2) (Cn := RX8) (T := TX8) (N := 13) (As := [.int a1, .int (7 : Int32)]) (rest := [.int a3]) (maxL := 3) (ret := (some .int)) C (c_X8_of  e3) gX8_firstOf_X8_of rfl (by decide +kernel) ⟨Nat.le_of_ble_eq_true rfl, Nat.le_of_ble_eq_true rfl⟩ tg_255 (by decide) rfl rfl rfl rfl (Nat.le_of_ble_eq_true rfl) dX8_firstOf_7 ?_
    refine x_icmp_ge (tgt := 52) C dX8_firstOf_10 (by decide) (fun q4 => ?_) (fun q4 => ?_)
    · have hf := ift q4 hf
      refine x_bipush (v := (-5 : Int32)) C dX8_firstOf_52 (by decide) ?_
      exact x_iret C hr hf dX8_firstOf_54
    · have hf := iff_ q4 hf
      refine x_aload_n C dX8_firstOf_13 rfl rfl ?_
      refine x_iload_n C dX8_firstOf_14 rfl rfl ?_
      refine x_bipush (v := (8 : Int32)) C dX8_firstOf_15 (by decide) ?_
      refine x_iload_n C dX8_firstOf_17 rfl rfl ?_
      refine x_iadd C dX8_firstOf_18 ?_
      obtain ⟨r5, M6, e7, hf⟩ := bd_of hf
      refine x_callV (n := 2) (Cn := RX8) (T := TX8) (N := 13) (As := [.int a1, .int ((8 : Int32) + a3)]) (rest := []) (maxL := 3) (ret := (some .int)) C (c_X8_of  e7) gX8_firstOf_X8_of rfl (by decide +kernel) ⟨Nat.le_of_ble_eq_true rfl, Nat.le_of_ble_eq_true rfl⟩ tg_255 (by decide) rfl rfl rfl rfl (Nat.le_of_ble_eq_true rfl) dX8_firstOf_19 ?_
      refine x_istore (lv' := [some (.ref (ad 255)), some (.int a1), some (.int a2), some (.int a3), some (.int r5)]) C dX8_firstOf_22 (by decide) rfl ?_
      refine x_iload_n C dX8_firstOf_24 rfl rfl ?_
      refine x_iload C dX8_firstOf_25 rfl ?_
      refine x_ishr C dX8_firstOf_27 ?_
      refine x_iconst (v := (1 : Int32)) C dX8_firstOf_28 (by decide) ?_
      refine x_iand C dX8_firstOf_29 ?_
      refine x_if_ne (tgt := 46) C dX8_firstOf_30 (by decide) (fun q8 => ?_) (fun q8 => ?_)
      · have hf := ift q8 hf
        refine x_aload_n C dX8_firstOf_33 rfl rfl ?_
        refine x_iload_n C dX8_firstOf_34 rfl rfl ?_
        refine x_iload C dX8_firstOf_35 rfl ?_
        obtain ⟨r9, M10, e11, hf⟩ := bd_of hf
        refine x_callV (n := 2) (Cn := RX8) (T := TX8) (N := 13) (As := [.int a1, .int r5]) (rest := []) (maxL := 4) (ret := (some .boolean)) C (c_X8_isEligible  e11) gX8_firstOf_X8_isEligible rfl (by decide +kernel) ⟨Nat.le_of_ble_eq_true rfl, Nat.le_of_ble_eq_true rfl⟩ tg_255 (by decide) rfl rfl rfl rfl (Nat.le_of_ble_eq_true rfl) dX8_firstOf_37 ?_
        refine x_if_eq (tgt := 46) C dX8_firstOf_40 (by decide) (fun q12 => ?_) (fun q12 => ?_)
        · have hf := ift q12 hf
          refine x_iinc (d := (1 : Int32)) (v := (a3 + (1 : Int32))) (lv' := [some (.ref (ad 255)), some (.int a1), some (.int a2), some (.int (a3 + (1 : Int32))), some (.int r5)]) C dX8_firstOf_46 rfl (by decide) rfl (by decide) rfl ?_
          refine x_goto (tgt := 2) C dX8_firstOf_49 (by decide) ?_
          exact x_weak (ih _ _ hf) [0, 1, 2, 3] rfl
        · have hf := iff_ q12 hf
          refine x_iload C dX8_firstOf_43 rfl ?_
          exact x_iret C hr hf dX8_firstOf_45
      · have hf := iff_ q8 hf
        refine x_iinc (d := (1 : Int32)) (v := (a3 + (1 : Int32))) (lv' := [some (.ref (ad 255)), some (.int a1), some (.int a2), some (.int (a3 + (1 : Int32))), some (.int r5)]) C dX8_firstOf_46 rfl (by decide) rfl (by decide) rfl ?_
        refine x_goto (tgt := 2) C dX8_firstOf_49 (by decide) ?_
        exact x_weak (ih _ _ hf) [0, 1, 2, 3] rfl

set_option maxHeartbeats 4000000 in
set_option maxRecDepth 100000 in
theorem c_X8_firstOf {a1 : Int32} {a2 : Int32} {M : Mem} {r : Int32} {M' : Mem}  (hf : f_X8_firstOf a1 a2 M = some (r, M')) : CnI yX8_firstOf wsX8_firstOf 2 (fun ad => [.ref (ad 255), .int a1, .int a2]) M r M' := by
  unfold f_X8_firstOf at hf
  refine x_metI (cc := cX8_firstOf) (maxL := 5) RX8 rfl (by decide) rfl (fun ad => Nat.le_of_ble_eq_true rfl) (fun ad v hv => ?_) (fun p l e s m args below meth c D cs ad C hr => ?_)
  · simp only [List.mem_cons, List.not_mem_nil, or_false] at hv
    rcases hv with rfl | rfl | rfl <;> rfl
  · show V p l e (rmk 2) s m args below meth c 5 D cs ad (QI below s args D cs ad r M') 0 [some (.ref (ad 255)), some (.int a1), some (.int a2), none, none] [] M
    refine x_iconst (v := (0 : Int32)) C dX8_firstOf_0 (by decide) ?_
    refine x_istore_n (lv' := [some (.ref (ad 255)), some (.int a1), some (.int a2), some (.int (0 : Int32)), none]) C dX8_firstOf_1 rfl (by decide) rfl ?_
    exact x_weak (cl_X8_firstOf_2 C hr  _ _ _ hf) [0, 1, 2, 3] rfl

set_option maxHeartbeats 4000000 in
set_option maxRecDepth 100000 in
theorem cl_X8_goods_4 {p : Program} {l : Launch} {e : Env} {s : State} {m : MethodId} {args : Array Value} {below : List Frame} {meth : Method} {c : Code} {D : va_G} {cs : Nat → ClassId} {ad : Nat → Nat} (C : Cx p s m args meth c RX8 cX8_goods 5 wsX8_goods D cs ad) (hr : meth.sig.returnType = some .int) {a1 : Int32} {r : Int32} {M' : Mem}  : ∀ (n : Nat) (a2 : Int32) (a3 : Int32) (M : Mem), l_X8_goods_4 a1 n a2 a3 M = some (r, M') → V p l e (rmk 2) s m args below meth c 5 D cs ad (QI below s args D cs ad r M') 4 [some (.ref (ad 255)), some (.int a1), some (.int a2), some (.int a3), none] [] M := by
  intro n
  induction n with
  | zero => intro a2 a3 M hf; cases hf
  | succ n ih =>
    intro a2 a3 M hf
    rw [l_X8_goods_4_s] at hf
    refine x_iload_n C dX8_goods_4 rfl rfl ?_
    refine x_aload_n C dX8_goods_5 rfl rfl ?_
    refine x_iload_n C dX8_goods_6 rfl rfl ?_
    refine x_bipush (v := (7 : Int32)) C dX8_goods_7 (by decide) ?_
    obtain ⟨r1, M2, e3, hf⟩ := bd_of hf
    refine x_callV (n := 2) (Cn := RX8) (T := TX8) (N := 13) (As := [.int a1, .int (7 : Int32)]) (rest := [.int a3]) (maxL := 3) (ret := (some .int)) C (c_X8_of  e3) gX8_goods_X8_of rfl (by decide +kernel) ⟨Nat.le_of_ble_eq_true rfl, Nat.le_of_ble_eq_true rfl⟩ tg_255 (by decide) rfl rfl rfl rfl (Nat.le_of_ble_eq_true rfl) dX8_goods_9 ?_
    refine x_icmp_ge (tgt := 53) C dX8_goods_12 (by decide) (fun q4 => ?_) (fun q4 => ?_)
    · have hf := ift q4 hf
      refine x_iload_n C dX8_goods_53 rfl rfl ?_
      exact x_iret C hr hf dX8_goods_54
    · have hf := iff_ q4 hf
      refine x_aload_n C dX8_goods_15 rfl rfl ?_
      refine x_iload_n C dX8_goods_16 rfl rfl ?_
      refine x_bipush (v := (8 : Int32)) C dX8_goods_17 (by decide) ?_
      refine x_iload_n C dX8_goods_19 rfl rfl ?_
      refine x_iadd C dX8_goods_20 ?_
      obtain ⟨r5, M6, e7, hf⟩ := bd_of hf
      refine x_callV (n := 2) (Cn := RX8) (T := TX8) (N := 13) (As := [.int a1, .int ((8 : Int32) + a3)]) (rest := []) (maxL := 3) (ret := (some .int)) C (c_X8_of  e7) gX8_goods_X8_of rfl (by decide +kernel) ⟨Nat.le_of_ble_eq_true rfl, Nat.le_of_ble_eq_true rfl⟩ tg_255 (by decide) rfl rfl rfl rfl (Nat.le_of_ble_eq_true rfl) dX8_goods_21 ?_
      refine x_istore (lv' := [some (.ref (ad 255)), some (.int a1), some (.int a2), some (.int a3), some (.int r5)]) C dX8_goods_24 (by decide) rfl ?_
      refine x_iload_n C dX8_goods_26 rfl rfl ?_
      refine x_aload_n C dX8_goods_27 rfl rfl ?_
      refine x_iload_n C dX8_goods_28 rfl rfl ?_
      refine x_iload C dX8_goods_29 rfl ?_
      obtain ⟨r8, M9, e10, hf⟩ := bd_of hf
      refine x_callV (n := 2) (Cn := RX8) (T := TX8) (N := 13) (As := [.int a1, .int r5]) (rest := [.int a2]) (maxL := 4) (ret := (some .boolean)) C (c_X8_isEligible  e10) gX8_goods_X8_isEligible rfl (by decide +kernel) ⟨Nat.le_of_ble_eq_true rfl, Nat.le_of_ble_eq_true rfl⟩ tg_255 (by decide) rfl rfl rfl rfl (Nat.le_of_ble_eq_true rfl) dX8_goods_31 ?_
      refine x_if_eq (tgt := 44) C dX8_goods_34 (by decide) (fun q11 => ?_) (fun q11 => ?_)
      · have hf := ift q11 hf
        refine x_iconst (v := (0 : Int32)) C dX8_goods_44 (by decide) ?_
        refine x_ior C dX8_goods_45 ?_
        refine x_istore_n (lv' := [some (.ref (ad 255)), some (.int a1), some (.int (a2 ||| (0 : Int32))), some (.int a3), some (.int r5)]) C dX8_goods_46 rfl (by decide) rfl ?_
        refine x_iinc (d := (1 : Int32)) (v := (a3 + (1 : Int32))) (lv' := [some (.ref (ad 255)), some (.int a1), some (.int (a2 ||| (0 : Int32))), some (.int (a3 + (1 : Int32))), some (.int r5)]) C dX8_goods_47 rfl (by decide) rfl (by decide) rfl ?_
        refine x_goto (tgt := 4) C dX8_goods_50 (by decide) ?_
        exact x_weak (ih _ _ _ hf) [0, 1, 2, 3] rfl
      · have hf := iff_ q11 hf
        refine x_iconst (v := (1 : Int32)) C dX8_goods_37 (by decide) ?_
        refine x_iload C dX8_goods_38 rfl ?_
        refine x_ishl C dX8_goods_40 ?_
        refine x_goto (tgt := 45) C dX8_goods_41 (by decide) ?_
        refine x_ior C dX8_goods_45 ?_
        refine x_istore_n (lv' := [some (.ref (ad 255)), some (.int a1), some (.int (a2 ||| ((1 : Int32) <<< (r5 &&& (31 : Int32))))), some (.int a3), some (.int r5)]) C dX8_goods_46 rfl (by decide) rfl ?_
        refine x_iinc (d := (1 : Int32)) (v := (a3 + (1 : Int32))) (lv' := [some (.ref (ad 255)), some (.int a1), some (.int (a2 ||| ((1 : Int32) <<< (r5 &&& (31 : Int32))))), some (.int (a3 + (1 : Int32))), some (.int r5)]) C dX8_goods_47 rfl (by decide) rfl (by decide) rfl ?_
        refine x_goto (tgt := 4) C dX8_goods_50 (by decide) ?_
        exact x_weak (ih _ _ _ hf) [0, 1, 2, 3] rfl

set_option maxHeartbeats 4000000 in
set_option maxRecDepth 100000 in
theorem c_X8_goods {a1 : Int32} {M : Mem} {r : Int32} {M' : Mem}  (hf : f_X8_goods a1 M = some (r, M')) : CnI yX8_goods wsX8_goods 2 (fun ad => [.ref (ad 255), .int a1]) M r M' := by
  unfold f_X8_goods at hf
  refine x_metI (cc := cX8_goods) (maxL := 5) RX8 rfl (by decide) rfl (fun ad => Nat.le_of_ble_eq_true rfl) (fun ad v hv => ?_) (fun p l e s m args below meth c D cs ad C hr => ?_)
  · simp only [List.mem_cons, List.not_mem_nil, or_false] at hv
    rcases hv with rfl | rfl <;> rfl
  · show V p l e (rmk 2) s m args below meth c 5 D cs ad (QI below s args D cs ad r M') 0 [some (.ref (ad 255)), some (.int a1), none, none, none] [] M
    refine x_iconst (v := (0 : Int32)) C dX8_goods_0 (by decide) ?_
    refine x_istore_n (lv' := [some (.ref (ad 255)), some (.int a1), some (.int (0 : Int32)), none, none]) C dX8_goods_1 rfl (by decide) rfl ?_
    refine x_iconst (v := (0 : Int32)) C dX8_goods_2 (by decide) ?_
    refine x_istore_n (lv' := [some (.ref (ad 255)), some (.int a1), some (.int (0 : Int32)), some (.int (0 : Int32)), none]) C dX8_goods_3 rfl (by decide) rfl ?_
    exact x_weak (cl_X8_goods_4 C hr  _ _ _ _ hf) [0, 1, 2, 3] rfl

theorem kX8_households_7 : Cond.fieldLink RX8 7 "FlatLotteryModel" "s" "[I" ∈ wsX8_households := List.mem_of_getElem? (i := 1) rfl
theorem nX8_households_8 : ∀ w ∈ u_ws RX8 TX8 13, w ∈ wsX8_households := in_r [23, 24, 25, 26, 27, 28, 29, 30, 31, 32, 33, 34, 35] (by decide +kernel)
set_option maxHeartbeats 4000000 in
set_option maxRecDepth 100000 in
theorem cl_X8_households_5 {p : Program} {l : Launch} {e : Env} {s : State} {m : MethodId} {args : Array Value} {below : List Frame} {meth : Method} {c : Code} {D : va_G} {cs : Nat → ClassId} {ad : Nat → Nat} (C : Cx p s m args meth c RX8 cX8_households 5 wsX8_households D cs ad) (hr : meth.sig.returnType = some .int) {a1 : Int32} {a2 : Int32} {r : Int32} {M' : Mem}  : ∀ (n : Nat) (a3 : Int32) (a4 : Int32) (M : Mem), l_X8_households_5 a1 a2 n a3 a4 M = some (r, M') → V p l e (rmk 2) s m args below meth c 5 D cs ad (QI below s args D cs ad r M') 5 [some (.ref (ad 255)), some (.int a1), some (.int a2), some (.int a3), some (.int a4)] [] M := by
  intro n
  induction n with
  | zero => intro a3 a4 M hf; cases hf
  | succ n ih =>
    intro a3 a4 M hf
    rw [l_X8_households_5_s] at hf
    refine x_iload C dX8_households_5 rfl ?_
    refine x_aload_n C dX8_households_7 rfl rfl ?_
    refine x_getr (Cn := RX8) (T := TX8) (N := 13) C tg_255 (by decide) rfl nX8_households_8 0 (by decide) rfl kX8_households_7 rfl dX8_households_8 256 rfl ?_
    refine x_iconst (v := (1 : Int32)) C dX8_households_11 (by decide) ?_
    refine x_iald (j := 1) C tg_256 tl_256 (by decide) (by decide) dX8_households_12 ?_
    refine x_icmp_ge (tgt := 62) C dX8_households_13 (by decide) (fun q1 => ?_) (fun q1 => ?_)
    · have hf := ift q1 hf
      refine x_iload_n C dX8_households_62 rfl rfl ?_
      exact x_iret C hr hf dX8_households_63
    · have hf := iff_ q1 hf
      refine x_iload_n C dX8_households_16 rfl rfl ?_
      refine x_iload_n C dX8_households_17 rfl rfl ?_
      refine x_if_eq (tgt := 34) C dX8_households_18 (by decide) (fun q2 => ?_) (fun q2 => ?_)
      · have hf := ift q2 hf
        refine x_aload_n C dX8_households_34 rfl rfl ?_
        refine x_iload C dX8_households_35 rfl ?_
        refine x_iload_n C dX8_households_37 rfl rfl ?_
        obtain ⟨r3, M4, e5, hf⟩ := bd_of hf
        refine x_callV (n := 2) (Cn := RX8) (T := TX8) (N := 13) (As := [.int a4, .int a1]) (rest := [.int a3]) (maxL := 5) (ret := (some .int)) C (c_X8_placeOn  e5) gX8_households_X8_placeOn rfl (by decide +kernel) ⟨Nat.le_of_ble_eq_true rfl, Nat.le_of_ble_eq_true rfl⟩ tg_255 (by decide) rfl rfl rfl rfl (Nat.le_of_ble_eq_true rfl) dX8_households_38 ?_
        refine x_bipush (v := (-5 : Int32)) C dX8_households_41 (by decide) ?_
        refine x_icmp_eq (tgt := 53) C dX8_households_43 (by decide) (fun q6 => ?_) (fun q6 => ?_)
        · have hf := ift q6 hf
          refine x_iconst (v := (0 : Int32)) C dX8_households_53 (by decide) ?_
          refine x_ior C dX8_households_54 ?_
          refine x_istore_n (lv' := [some (.ref (ad 255)), some (.int a1), some (.int a2), some (.int (a3 ||| (0 : Int32))), some (.int a4)]) C dX8_households_55 rfl (by decide) rfl ?_
          refine x_iinc (d := (1 : Int32)) (v := (a4 + (1 : Int32))) (lv' := [some (.ref (ad 255)), some (.int a1), some (.int a2), some (.int (a3 ||| (0 : Int32))), some (.int (a4 + (1 : Int32)))]) C dX8_households_56 rfl (by decide) rfl (by decide) rfl ?_
          refine x_goto (tgt := 5) C dX8_households_59 (by decide) ?_
          exact x_weak (ih _ _ _ hf) [0, 1, 2, 3, 4] rfl
        · have hf := iff_ q6 hf
          refine x_iconst (v := (1 : Int32)) C dX8_households_46 (by decide) ?_
          refine x_iload C dX8_households_47 rfl ?_
          refine x_ishl C dX8_households_49 ?_
          refine x_goto (tgt := 54) C dX8_households_50 (by decide) ?_
          refine x_ior C dX8_households_54 ?_
          refine x_istore_n (lv' := [some (.ref (ad 255)), some (.int a1), some (.int a2), some (.int (a3 ||| ((1 : Int32) <<< (a4 &&& (31 : Int32))))), some (.int a4)]) C dX8_households_55 rfl (by decide) rfl ?_
          refine x_iinc (d := (1 : Int32)) (v := (a4 + (1 : Int32))) (lv' := [some (.ref (ad 255)), some (.int a1), some (.int a2), some (.int (a3 ||| ((1 : Int32) <<< (a4 &&& (31 : Int32))))), some (.int (a4 + (1 : Int32)))]) C dX8_households_56 rfl (by decide) rfl (by decide) rfl ?_
          refine x_goto (tgt := 5) C dX8_households_59 (by decide) ?_
          exact x_weak (ih _ _ _ hf) [0, 1, 2, 3, 4] rfl
      · have hf := iff_ q2 hf
        refine x_aload_n C dX8_households_21 rfl rfl ?_
        refine x_iload C dX8_households_22 rfl ?_
        refine x_iload_n C dX8_households_24 rfl rfl ?_
        obtain ⟨r7, M8, e9, hf⟩ := bd_of hf
        refine x_callV (n := 2) (Cn := RX8) (T := TX8) (N := 13) (As := [.int a4, .int a1]) (rest := [.int a3]) (maxL := 4) (ret := (some .boolean)) C (c_X8_isEligible  e9) gX8_households_X8_isEligible rfl (by decide +kernel) ⟨Nat.le_of_ble_eq_true rfl, Nat.le_of_ble_eq_true rfl⟩ tg_255 (by decide) rfl rfl rfl rfl (Nat.le_of_ble_eq_true rfl) dX8_households_25 ?_
        refine x_if_eq (tgt := 53) C dX8_households_28 (by decide) (fun q10 => ?_) (fun q10 => ?_)
        · have hf := ift q10 hf
          refine x_iconst (v := (0 : Int32)) C dX8_households_53 (by decide) ?_
          refine x_ior C dX8_households_54 ?_
          refine x_istore_n (lv' := [some (.ref (ad 255)), some (.int a1), some (.int a2), some (.int (a3 ||| (0 : Int32))), some (.int a4)]) C dX8_households_55 rfl (by decide) rfl ?_
          refine x_iinc (d := (1 : Int32)) (v := (a4 + (1 : Int32))) (lv' := [some (.ref (ad 255)), some (.int a1), some (.int a2), some (.int (a3 ||| (0 : Int32))), some (.int (a4 + (1 : Int32)))]) C dX8_households_56 rfl (by decide) rfl (by decide) rfl ?_
          refine x_goto (tgt := 5) C dX8_households_59 (by decide) ?_
          exact x_weak (ih _ _ _ hf) [0, 1, 2, 3, 4] rfl
        · have hf := iff_ q10 hf
          refine x_goto (tgt := 46) C dX8_households_31 (by decide) ?_
          refine x_iconst (v := (1 : Int32)) C dX8_households_46 (by decide) ?_
          refine x_iload C dX8_households_47 rfl ?_
          refine x_ishl C dX8_households_49 ?_
          refine x_goto (tgt := 54) C dX8_households_50 (by decide) ?_
          refine x_ior C dX8_households_54 ?_
          refine x_istore_n (lv' := [some (.ref (ad 255)), some (.int a1), some (.int a2), some (.int (a3 ||| ((1 : Int32) <<< (a4 &&& (31 : Int32))))), some (.int a4)]) C dX8_households_55 rfl (by decide) rfl ?_
          refine x_iinc (d := (1 : Int32)) (v := (a4 + (1 : Int32))) (lv' := [some (.ref (ad 255)), some (.int a1), some (.int a2), some (.int (a3 ||| ((1 : Int32) <<< (a4 &&& (31 : Int32))))), some (.int (a4 + (1 : Int32)))]) C dX8_households_56 rfl (by decide) rfl (by decide) rfl ?_
          refine x_goto (tgt := 5) C dX8_households_59 (by decide) ?_
          exact x_weak (ih _ _ _ hf) [0, 1, 2, 3, 4] rfl

set_option maxHeartbeats 4000000 in
set_option maxRecDepth 100000 in
theorem c_X8_households {a1 : Int32} {a2 : Int32} {M : Mem} {r : Int32} {M' : Mem}  (hf : f_X8_households a1 a2 M = some (r, M')) : CnI yX8_households wsX8_households 2 (fun ad => [.ref (ad 255), .int a1, .int a2]) M r M' := by
  unfold f_X8_households at hf
  refine x_metI (cc := cX8_households) (maxL := 5) RX8 rfl (by decide) rfl (fun ad => Nat.le_of_ble_eq_true rfl) (fun ad v hv => ?_) (fun p l e s m args below meth c D cs ad C hr => ?_)
  · simp only [List.mem_cons, List.not_mem_nil, or_false] at hv
    rcases hv with rfl | rfl | rfl <;> rfl
  · show V p l e (rmk 2) s m args below meth c 5 D cs ad (QI below s args D cs ad r M') 0 [some (.ref (ad 255)), some (.int a1), some (.int a2), none, none] [] M
    refine x_iconst (v := (0 : Int32)) C dX8_households_0 (by decide) ?_
    refine x_istore_n (lv' := [some (.ref (ad 255)), some (.int a1), some (.int a2), some (.int (0 : Int32)), none]) C dX8_households_1 rfl (by decide) rfl ?_
    refine x_iconst (v := (0 : Int32)) C dX8_households_2 (by decide) ?_
    refine x_istore (lv' := [some (.ref (ad 255)), some (.int a1), some (.int a2), some (.int (0 : Int32)), some (.int (0 : Int32))]) C dX8_households_3 (by decide) rfl ?_
    exact x_weak (cl_X8_households_5 C hr  _ _ _ _ hf) [0, 1, 2, 3, 4] rfl

set_option maxHeartbeats 4000000 in
set_option maxRecDepth 100000 in
theorem c_X8_isAhead {a1 : Int32} {a2 : Int32} {M : Mem} {r : Int32} {M' : Mem}  (hf : f_X8_isAhead a1 a2 M = some (r, M')) : CnI yX8_isAhead wsX8_isAhead 2 (fun ad => [.ref (ad 255), .int a1, .int a2]) M r M' := by
  unfold f_X8_isAhead at hf
  refine x_metI (cc := cX8_isAhead) (maxL := 4) RX8 rfl (by decide) rfl (fun ad => Nat.le_of_ble_eq_true rfl) (fun ad v hv => ?_) (fun p l e s m args below meth c D cs ad C hr => ?_)
  · simp only [List.mem_cons, List.not_mem_nil, or_false] at hv
    rcases hv with rfl | rfl | rfl <;> rfl
  · show V p l e (rmk 2) s m args below meth c 4 D cs ad (QI below s args D cs ad r M') 0 [some (.ref (ad 255)), some (.int a1), some (.int a2), none] [] M
    refine x_aload_n C dX8_isAhead_0 rfl rfl ?_
    refine x_iload_n C dX8_isAhead_1 rfl rfl ?_
    refine x_iconst (v := (3 : Int32)) C dX8_isAhead_2 (by decide) ?_
    obtain ⟨r1, M2, e3, hf⟩ := bd_of hf
    refine x_callV (n := 2) (Cn := RX8) (T := TX8) (N := 13) (As := [.int a1, .int (3 : Int32)]) (rest := []) (maxL := 3) (ret := (some .int)) C (c_X8_of  e3) gX8_isAhead_X8_of rfl (by decide +kernel) ⟨Nat.le_of_ble_eq_true rfl, Nat.le_of_ble_eq_true rfl⟩ tg_255 (by decide) rfl rfl rfl rfl (Nat.le_of_ble_eq_true rfl) dX8_isAhead_3 ?_
    refine x_aload_n C dX8_isAhead_6 rfl rfl ?_
    refine x_iload_n C dX8_isAhead_7 rfl rfl ?_
    refine x_iconst (v := (3 : Int32)) C dX8_isAhead_8 (by decide) ?_
    obtain ⟨r4, M5, e6, hf⟩ := bd_of hf
    refine x_callV (n := 2) (Cn := RX8) (T := TX8) (N := 13) (As := [.int a2, .int (3 : Int32)]) (rest := [.int r1]) (maxL := 3) (ret := (some .int)) C (c_X8_of  e6) gX8_isAhead_X8_of rfl (by decide +kernel) ⟨Nat.le_of_ble_eq_true rfl, Nat.le_of_ble_eq_true rfl⟩ tg_255 (by decide) rfl rfl rfl rfl (Nat.le_of_ble_eq_true rfl) dX8_isAhead_9 ?_
    refine x_isub C dX8_isAhead_12 ?_
    refine x_istore_n (lv' := [some (.ref (ad 255)), some (.int a1), some (.int a2), some (.int (r1 - r4))]) C dX8_isAhead_13 rfl (by decide) rfl ?_
    refine x_aload_n C dX8_isAhead_14 rfl rfl ?_
    refine x_iload_n C dX8_isAhead_15 rfl rfl ?_
    obtain ⟨r7, M8, e9, hf⟩ := bd_of hf
    refine x_callV (n := 1) (Cn := RX8) (T := TX8) (N := 13) (As := [.int a1]) (rest := []) (maxL := 2) (ret := (some .boolean)) C (c_X8_isDrawn  e9) gX8_isAhead_X8_isDrawn rfl (by decide +kernel) ⟨Nat.le_of_ble_eq_true rfl, Nat.le_of_ble_eq_true rfl⟩ tg_255 (by decide) rfl rfl rfl rfl (Nat.le_of_ble_eq_true rfl) dX8_isAhead_16 ?_
    refine x_if_eq (tgt := 57) C dX8_isAhead_19 (by decide) (fun q10 => ?_) (fun q10 => ?_)
    · have hf := ift q10 hf
      refine x_iconst (v := (0 : Int32)) C dX8_isAhead_57 (by decide) ?_
      exact x_zret C hr rfl hf dX8_isAhead_58
    · have hf := iff_ q10 hf
      refine x_aload_n C dX8_isAhead_22 rfl rfl ?_
      refine x_iload_n C dX8_isAhead_23 rfl rfl ?_
      obtain ⟨r11, M12, e13, hf⟩ := bd_of hf
      refine x_callV (n := 1) (Cn := RX8) (T := TX8) (N := 13) (As := [.int a2]) (rest := []) (maxL := 2) (ret := (some .boolean)) C (c_X8_isDrawn  e13) gX8_isAhead_X8_isDrawn rfl (by decide +kernel) ⟨Nat.le_of_ble_eq_true rfl, Nat.le_of_ble_eq_true rfl⟩ tg_255 (by decide) rfl rfl rfl rfl (Nat.le_of_ble_eq_true rfl) dX8_isAhead_24 ?_
      refine x_if_eq (tgt := 53) C dX8_isAhead_27 (by decide) (fun q14 => ?_) (fun q14 => ?_)
      · have hf := ift q14 hf
        refine x_iconst (v := (1 : Int32)) C dX8_isAhead_53 (by decide) ?_
        refine x_goto (tgt := 58) C dX8_isAhead_54 (by decide) ?_
        exact x_zret C hr rfl hf dX8_isAhead_58
      · have hf := iff_ q14 hf
        refine x_iload_n C dX8_isAhead_30 rfl rfl ?_
        refine x_if_gt (tgt := 53) C dX8_isAhead_31 (by decide) (fun q15 => ?_) (fun q15 => ?_)
        · have hf := ift q15 hf
          refine x_iconst (v := (1 : Int32)) C dX8_isAhead_53 (by decide) ?_
          refine x_goto (tgt := 58) C dX8_isAhead_54 (by decide) ?_
          exact x_zret C hr rfl hf dX8_isAhead_58
        · have hf := iff_ q15 hf
          refine x_iload_n C dX8_isAhead_34 rfl rfl ?_
          refine x_if_ne (tgt := 57) C dX8_isAhead_35 (by decide) (fun q16 => ?_) (fun q16 => ?_)
          · have hf := ift q16 hf
            refine x_aload_n C dX8_isAhead_38 rfl rfl ?_
            refine x_iload_n C dX8_isAhead_39 rfl rfl ?_
            refine x_iconst (v := (2 : Int32)) C dX8_isAhead_40 (by decide) ?_
            obtain ⟨r17, M18, e19, hf⟩ := bd_of hf
            refine x_callV (n := 2) (Cn := RX8) (T := TX8) (N := 13) (As := [.int a1, .int (2 : Int32)]) (rest := []) (maxL := 3) (ret := (some .int)) C (c_X8_of  e19) gX8_isAhead_X8_of rfl (by decide +kernel) ⟨Nat.le_of_ble_eq_true rfl, Nat.le_of_ble_eq_true rfl⟩ tg_255 (by decide) rfl rfl rfl rfl (Nat.le_of_ble_eq_true rfl) dX8_isAhead_41 ?_
            refine x_aload_n C dX8_isAhead_44 rfl rfl ?_
            refine x_iload_n C dX8_isAhead_45 rfl rfl ?_
            refine x_iconst (v := (2 : Int32)) C dX8_isAhead_46 (by decide) ?_
            obtain ⟨r20, M21, e22, hf⟩ := bd_of hf
            refine x_callV (n := 2) (Cn := RX8) (T := TX8) (N := 13) (As := [.int a2, .int (2 : Int32)]) (rest := [.int r17]) (maxL := 3) (ret := (some .int)) C (c_X8_of  e22) gX8_isAhead_X8_of rfl (by decide +kernel) ⟨Nat.le_of_ble_eq_true rfl, Nat.le_of_ble_eq_true rfl⟩ tg_255 (by decide) rfl rfl rfl rfl (Nat.le_of_ble_eq_true rfl) dX8_isAhead_47 ?_
            refine x_icmp_ge (tgt := 57) C dX8_isAhead_50 (by decide) (fun q23 => ?_) (fun q23 => ?_)
            · have hf := ift q23 hf
              refine x_iconst (v := (0 : Int32)) C dX8_isAhead_57 (by decide) ?_
              exact x_zret C hr rfl hf dX8_isAhead_58
            · have hf := iff_ q23 hf
              refine x_iconst (v := (1 : Int32)) C dX8_isAhead_53 (by decide) ?_
              refine x_goto (tgt := 58) C dX8_isAhead_54 (by decide) ?_
              exact x_zret C hr rfl hf dX8_isAhead_58
          · have hf := iff_ q16 hf
            refine x_iconst (v := (0 : Int32)) C dX8_isAhead_57 (by decide) ?_
            exact x_zret C hr rfl hf dX8_isAhead_58

theorem kX8_isAllThere_29 : Cond.fieldLink RX8 29 "FlatLotteryModel" "told" "[I" ∈ wsX8_isAllThere := List.mem_of_getElem? (i := 2) rfl
theorem kX8_isAllThere_154 : Cond.fieldLink RX8 154 "FlatLotteryModel" "tolds" "I" ∈ wsX8_isAllThere := List.mem_of_getElem? (i := 1) rfl
theorem nX8_isAllThere_8 : ∀ w ∈ u_ws RX8 TX8 13, w ∈ wsX8_isAllThere := in_r [16, 17, 18, 19, 20, 21, 22, 23, 24, 25, 26, 27, 28] (by decide +kernel)
set_option maxHeartbeats 4000000 in
set_option maxRecDepth 100000 in
theorem cl_X8_isAllThere_40 {p : Program} {l : Launch} {e : Env} {s : State} {m : MethodId} {args : Array Value} {below : List Frame} {meth : Method} {c : Code} {D : va_G} {cs : Nat → ClassId} {ad : Nat → Nat} (C : Cx p s m args meth c RX8 cX8_isAllThere 4 wsX8_isAllThere D cs ad) (hr : meth.sig.returnType = some .boolean) {a2 : Int32} {r : Int32} {M' : Mem}  {k : Int32 → Mem → Option (Int32 × Mem)} (hk : ∀ (b1 : Int32) (M : Mem), k b1 M = some (r, M') → V p l e (rmk 2) s m args below meth c 4 D cs ad (QI below s args D cs ad r M') 91 [some (.ref (ad 255)), some (.int b1), some (.int a2), none] [] M) : ∀ (n : Nat) (a1 : Int32) (a3 : Int32) (M : Mem), l_X8_isAllThere_40 a2 k n a1 a3 M = some (r, M') → V p l e (rmk 2) s m args below meth c 4 D cs ad (QI below s args D cs ad r M') 40 [some (.ref (ad 255)), some (.int a1), some (.int a2), some (.int a3)] [] M := by
  intro n
  induction n with
  | zero => intro a1 a3 M hf; cases hf
  | succ n ih =>
    intro a1 a3 M hf
    rw [l_X8_isAllThere_40_s] at hf
    refine x_iload_n C dX8_isAllThere_40 rfl rfl ?_
    refine x_aload_n C dX8_isAllThere_41 rfl rfl ?_
    refine x_getr (Cn := RX8) (T := TX8) (N := 13) C tg_255 (by decide) rfl nX8_isAllThere_8 10 (by decide) rfl kX8_isAllThere_29 rfl dX8_isAllThere_42 262 rfl ?_
    refine x_bipush (v := (8 : Int32)) C dX8_isAllThere_45 (by decide) ?_
    refine x_iload_n C dX8_isAllThere_47 rfl rfl ?_
    refine x_imul C dX8_isAllThere_48 ?_
    refine x_iconst (v := (1 : Int32)) C dX8_isAllThere_49 (by decide) ?_
    refine x_iadd C dX8_isAllThere_50 ?_
    obtain ⟨g4, hf⟩ := ck_of hf
    refine x_iald (j := ((((8 : Int32) * a2) + (1 : Int32))).toNatClampNeg) C tg_262 tl_262 g4 rfl dX8_isAllThere_51 ?_
    refine x_icmp_ge (tgt := 91) C dX8_isAllThere_52 (by decide) (fun q5 => ?_) (fun q5 => ?_)
    · have hf := ift q5 hf
      exact x_weak (hk _ _ hf) [0, 1, 2] rfl
    · have hf := iff_ q5 hf
      refine x_iload_n C dX8_isAllThere_55 rfl rfl ?_
      refine x_if_eq (tgt := 83) C dX8_isAllThere_56 (by decide) (fun q6 => ?_) (fun q6 => ?_)
      · have hf := ift q6 hf
        refine x_iconst (v := (0 : Int32)) C dX8_isAllThere_83 (by decide) ?_
        refine x_istore_n (lv' := [some (.ref (ad 255)), some (.int (0 : Int32)), some (.int a2), some (.int a3)]) C dX8_isAllThere_84 rfl (by decide) rfl ?_
        refine x_iinc (d := (1 : Int32)) (v := (a3 + (1 : Int32))) (lv' := [some (.ref (ad 255)), some (.int (0 : Int32)), some (.int a2), some (.int (a3 + (1 : Int32)))]) C dX8_isAllThere_85 rfl (by decide) rfl (by decide) rfl ?_
        refine x_goto (tgt := 40) C dX8_isAllThere_88 (by decide) ?_
        exact x_weak (ih _ _ _ hf) [0, 1, 2, 3] rfl
      · have hf := iff_ q6 hf
        refine x_aload_n C dX8_isAllThere_59 rfl rfl ?_
        refine x_aload_n C dX8_isAllThere_60 rfl rfl ?_
        refine x_getr (Cn := RX8) (T := TX8) (N := 13) C tg_255 (by decide) rfl nX8_isAllThere_8 10 (by decide) rfl kX8_isAllThere_29 rfl dX8_isAllThere_61 262 rfl ?_
        refine x_bipush (v := (8 : Int32)) C dX8_isAllThere_64 (by decide) ?_
        refine x_iload_n C dX8_isAllThere_66 rfl rfl ?_
        refine x_imul C dX8_isAllThere_67 ?_
        refine x_iconst (v := (2 : Int32)) C dX8_isAllThere_68 (by decide) ?_
        refine x_iadd C dX8_isAllThere_69 ?_
        refine x_iload_n C dX8_isAllThere_70 rfl rfl ?_
        refine x_iadd C dX8_isAllThere_71 ?_
        obtain ⟨g7, hf⟩ := ck_of hf
        refine x_iald (j := (((((8 : Int32) * a2) + (2 : Int32)) + a3)).toNatClampNeg) C tg_262 tl_262 g7 rfl dX8_isAllThere_72 ?_
        obtain ⟨r8, M9, e10, hf⟩ := bd_of hf
        refine x_callV (n := 1) (Cn := RX8) (T := TX8) (N := 13) (As := [.int (M 262 (((((8 : Int32) * a2) + (2 : Int32)) + a3)).toNatClampNeg)]) (rest := []) (maxL := 2) (ret := (some .boolean)) C (c_X8_isFlat  e10) gX8_isAllThere_X8_isFlat rfl (by decide +kernel) ⟨Nat.le_of_ble_eq_true rfl, Nat.le_of_ble_eq_true rfl⟩ tg_255 (by decide) rfl rfl rfl rfl (Nat.le_of_ble_eq_true rfl) dX8_isAllThere_73 ?_
        refine x_if_eq (tgt := 83) C dX8_isAllThere_76 (by decide) (fun q11 => ?_) (fun q11 => ?_)
        · have hf := ift q11 hf
          refine x_iconst (v := (0 : Int32)) C dX8_isAllThere_83 (by decide) ?_
          refine x_istore_n (lv' := [some (.ref (ad 255)), some (.int (0 : Int32)), some (.int a2), some (.int a3)]) C dX8_isAllThere_84 rfl (by decide) rfl ?_
          refine x_iinc (d := (1 : Int32)) (v := (a3 + (1 : Int32))) (lv' := [some (.ref (ad 255)), some (.int (0 : Int32)), some (.int a2), some (.int (a3 + (1 : Int32)))]) C dX8_isAllThere_85 rfl (by decide) rfl (by decide) rfl ?_
          refine x_goto (tgt := 40) C dX8_isAllThere_88 (by decide) ?_
          exact x_weak (ih _ _ _ hf) [0, 1, 2, 3] rfl
        · have hf := iff_ q11 hf
          refine x_iconst (v := (1 : Int32)) C dX8_isAllThere_79 (by decide) ?_
          refine x_goto (tgt := 84) C dX8_isAllThere_80 (by decide) ?_
          refine x_istore_n (lv' := [some (.ref (ad 255)), some (.int (1 : Int32)), some (.int a2), some (.int a3)]) C dX8_isAllThere_84 rfl (by decide) rfl ?_
          refine x_iinc (d := (1 : Int32)) (v := (a3 + (1 : Int32))) (lv' := [some (.ref (ad 255)), some (.int (1 : Int32)), some (.int a2), some (.int (a3 + (1 : Int32)))]) C dX8_isAllThere_85 rfl (by decide) rfl (by decide) rfl ?_
          refine x_goto (tgt := 40) C dX8_isAllThere_88 (by decide) ?_
          exact x_weak (ih _ _ _ hf) [0, 1, 2, 3] rfl

set_option maxHeartbeats 4000000 in
set_option maxRecDepth 100000 in
theorem cl_X8_isAllThere_4 {p : Program} {l : Launch} {e : Env} {s : State} {m : MethodId} {args : Array Value} {below : List Frame} {meth : Method} {c : Code} {D : va_G} {cs : Nat → ClassId} {ad : Nat → Nat} (C : Cx p s m args meth c RX8 cX8_isAllThere 4 wsX8_isAllThere D cs ad) (hr : meth.sig.returnType = some .boolean)  {r : Int32} {M' : Mem}  : ∀ (n : Nat) (a1 : Int32) (a2 : Int32) (M : Mem), l_X8_isAllThere_4 n a1 a2 M = some (r, M') → V p l e (rmk 2) s m args below meth c 4 D cs ad (QI below s args D cs ad r M') 4 [some (.ref (ad 255)), some (.int a1), some (.int a2), none] [] M := by
  intro n
  induction n with
  | zero => intro a1 a2 M hf; cases hf
  | succ n ih =>
    intro a1 a2 M hf
    rw [l_X8_isAllThere_4_s] at hf
    refine x_iload_n C dX8_isAllThere_4 rfl rfl ?_
    refine x_aload_n C dX8_isAllThere_5 rfl rfl ?_
    refine x_geti (Cn := RX8) (T := TX8) (N := 13) C tg_255 (by decide) rfl nX8_isAllThere_8 11 (by decide) rfl kX8_isAllThere_154 rfl dX8_isAllThere_6 ?_
    refine x_icmp_ge (tgt := 97) C dX8_isAllThere_9 (by decide) (fun q1 => ?_) (fun q1 => ?_)
    · have hf := ift q1 hf
      refine x_iload_n C dX8_isAllThere_97 rfl rfl ?_
      obtain ⟨g2, hf⟩ := ck_of hf
      exact x_zret C hr (isb_nar g2) hf dX8_isAllThere_98
    · have hf := iff_ q1 hf
      refine x_iload_n C dX8_isAllThere_12 rfl rfl ?_
      refine x_if_eq (tgt := 36) C dX8_isAllThere_13 (by decide) (fun q3 => ?_) (fun q3 => ?_)
      · have hf := ift q3 hf
        refine x_iconst (v := (0 : Int32)) C dX8_isAllThere_36 (by decide) ?_
        refine x_istore_n (lv' := [some (.ref (ad 255)), some (.int (0 : Int32)), some (.int a2), none]) C dX8_isAllThere_37 rfl (by decide) rfl ?_
        refine x_iconst (v := (0 : Int32)) C dX8_isAllThere_38 (by decide) ?_
        refine x_istore_n (lv' := [some (.ref (ad 255)), some (.int (0 : Int32)), some (.int a2), some (.int (0 : Int32))]) C dX8_isAllThere_39 rfl (by decide) rfl ?_
        refine x_weak (cl_X8_isAllThere_40 C hr  (fun b1_40 M12 hf => ?_) _ _ _ _ hf) [0, 1, 2, 3] rfl
        refine x_iinc (d := (1 : Int32)) (v := (a2 + (1 : Int32))) (lv' := [some (.ref (ad 255)), some (.int b1_40), some (.int (a2 + (1 : Int32))), none]) C dX8_isAllThere_91 rfl (by decide) rfl (by decide) rfl ?_
        refine x_goto (tgt := 4) C dX8_isAllThere_94 (by decide) ?_
        exact x_weak (ih _ _ _ hf) [0, 1, 2] rfl
      · have hf := iff_ q3 hf
        refine x_aload_n C dX8_isAllThere_16 rfl rfl ?_
        refine x_aload_n C dX8_isAllThere_17 rfl rfl ?_
        refine x_getr (Cn := RX8) (T := TX8) (N := 13) C tg_255 (by decide) rfl nX8_isAllThere_8 10 (by decide) rfl kX8_isAllThere_29 rfl dX8_isAllThere_18 262 rfl ?_
        refine x_bipush (v := (8 : Int32)) C dX8_isAllThere_21 (by decide) ?_
        refine x_iload_n C dX8_isAllThere_23 rfl rfl ?_
        refine x_imul C dX8_isAllThere_24 ?_
        obtain ⟨g13, hf⟩ := ck_of hf
        refine x_iald (j := (((8 : Int32) * a2)).toNatClampNeg) C tg_262 tl_262 g13 rfl dX8_isAllThere_25 ?_
        obtain ⟨r14, M15, e16, hf⟩ := bd_of hf
        refine x_callV (n := 1) (Cn := RX8) (T := TX8) (N := 13) (As := [.int (M 262 (((8 : Int32) * a2)).toNatClampNeg)]) (rest := []) (maxL := 2) (ret := (some .boolean)) C (c_X8_isHome  e16) gX8_isAllThere_X8_isHome rfl (by decide +kernel) ⟨Nat.le_of_ble_eq_true rfl, Nat.le_of_ble_eq_true rfl⟩ tg_255 (by decide) rfl rfl rfl rfl (Nat.le_of_ble_eq_true rfl) dX8_isAllThere_26 ?_
        refine x_if_eq (tgt := 36) C dX8_isAllThere_29 (by decide) (fun q17 => ?_) (fun q17 => ?_)
        · have hf := ift q17 hf
          refine x_iconst (v := (0 : Int32)) C dX8_isAllThere_36 (by decide) ?_
          refine x_istore_n (lv' := [some (.ref (ad 255)), some (.int (0 : Int32)), some (.int a2), none]) C dX8_isAllThere_37 rfl (by decide) rfl ?_
          refine x_iconst (v := (0 : Int32)) C dX8_isAllThere_38 (by decide) ?_
          refine x_istore_n (lv' := [some (.ref (ad 255)), some (.int (0 : Int32)), some (.int a2), some (.int (0 : Int32))]) C dX8_isAllThere_39 rfl (by decide) rfl ?_
          refine x_weak (cl_X8_isAllThere_40 C hr  (fun b1_40 M18 hf => ?_) _ _ _ _ hf) [0, 1, 2, 3] rfl
          refine x_iinc (d := (1 : Int32)) (v := (a2 + (1 : Int32))) (lv' := [some (.ref (ad 255)), some (.int b1_40), some (.int (a2 + (1 : Int32))), none]) C dX8_isAllThere_91 rfl (by decide) rfl (by decide) rfl ?_
          refine x_goto (tgt := 4) C dX8_isAllThere_94 (by decide) ?_
          exact x_weak (ih _ _ _ hf) [0, 1, 2] rfl
        · have hf := iff_ q17 hf
          refine x_iconst (v := (1 : Int32)) C dX8_isAllThere_32 (by decide) ?_
          refine x_goto (tgt := 37) C dX8_isAllThere_33 (by decide) ?_
          refine x_istore_n (lv' := [some (.ref (ad 255)), some (.int (1 : Int32)), some (.int a2), none]) C dX8_isAllThere_37 rfl (by decide) rfl ?_
          refine x_iconst (v := (0 : Int32)) C dX8_isAllThere_38 (by decide) ?_
          refine x_istore_n (lv' := [some (.ref (ad 255)), some (.int (1 : Int32)), some (.int a2), some (.int (0 : Int32))]) C dX8_isAllThere_39 rfl (by decide) rfl ?_
          refine x_weak (cl_X8_isAllThere_40 C hr  (fun b1_40 M19 hf => ?_) _ _ _ _ hf) [0, 1, 2, 3] rfl
          refine x_iinc (d := (1 : Int32)) (v := (a2 + (1 : Int32))) (lv' := [some (.ref (ad 255)), some (.int b1_40), some (.int (a2 + (1 : Int32))), none]) C dX8_isAllThere_91 rfl (by decide) rfl (by decide) rfl ?_
          refine x_goto (tgt := 4) C dX8_isAllThere_94 (by decide) ?_
          exact x_weak (ih _ _ _ hf) [0, 1, 2] rfl

set_option maxHeartbeats 4000000 in
set_option maxRecDepth 100000 in
theorem c_X8_isAllThere  {M : Mem} {r : Int32} {M' : Mem}  (hf : f_X8_isAllThere  M = some (r, M')) : CnI yX8_isAllThere wsX8_isAllThere 2 (fun ad => [.ref (ad 255)]) M r M' := by
  unfold f_X8_isAllThere at hf
  refine x_metI (cc := cX8_isAllThere) (maxL := 4) RX8 rfl (by decide) rfl (fun ad => Nat.le_of_ble_eq_true rfl) (fun ad v hv => ?_) (fun p l e s m args below meth c D cs ad C hr => ?_)
  · simp only [List.mem_cons, List.not_mem_nil, or_false] at hv
    rcases hv with rfl <;> rfl
  · show V p l e (rmk 2) s m args below meth c 4 D cs ad (QI below s args D cs ad r M') 0 [some (.ref (ad 255)), none, none, none] [] M
    refine x_iconst (v := (1 : Int32)) C dX8_isAllThere_0 (by decide) ?_
    refine x_istore_n (lv' := [some (.ref (ad 255)), some (.int (1 : Int32)), none, none]) C dX8_isAllThere_1 rfl (by decide) rfl ?_
    refine x_iconst (v := (0 : Int32)) C dX8_isAllThere_2 (by decide) ?_
    refine x_istore_n (lv' := [some (.ref (ad 255)), some (.int (1 : Int32)), some (.int (0 : Int32)), none]) C dX8_isAllThere_3 rfl (by decide) rfl ?_
    exact x_weak (cl_X8_isAllThere_4 C hr  _ _ _ _ hf) [0, 1, 2] rfl

theorem kX8_keep_7 : Cond.fieldLink RX8 7 "FlatLotteryModel" "s" "[I" ∈ wsX8_keep := List.mem_of_getElem? (i := 1) rfl
theorem kX8_keep_16 : Cond.fieldLink RX8 16 "FlatLotteryModel" "shot" "[I" ∈ wsX8_keep := List.mem_of_getElem? (i := 2) rfl
theorem kX8_keep_44 : Cond.fieldLink RX8 44 "FlatLotteryModel" "isShot" "Z" ∈ wsX8_keep := List.mem_of_getElem? (i := 3) rfl
theorem nX8_keep_8 : ∀ w ∈ u_ws RX8 TX8 13, w ∈ wsX8_keep := in_r [16, 17, 18, 19, 20, 21, 22, 23, 24, 25, 26, 27, 28] (by decide +kernel)
set_option maxHeartbeats 4000000 in
set_option maxRecDepth 100000 in
theorem c_X8_keep  {M : Mem} {r : Int32} {M' : Mem}  (hf : f_X8_keep  M = some (r, M')) : CnI yX8_keep wsX8_keep 2 (fun ad => [.ref (ad 255)]) M r M' := by
  unfold f_X8_keep at hf
  refine x_metI (cc := cX8_keep) (maxL := 1) RX8 rfl (by decide) rfl (fun ad => Nat.le_of_ble_eq_true rfl) (fun ad v hv => ?_) (fun p l e s m args below meth c D cs ad C hr => ?_)
  · simp only [List.mem_cons, List.not_mem_nil, or_false] at hv
    rcases hv with rfl <;> rfl
  · show V p l e (rmk 2) s m args below meth c 1 D cs ad (QI below s args D cs ad r M') 0 [some (.ref (ad 255))] [] M
    refine x_aload_n C dX8_keep_0 rfl rfl ?_
    refine x_getr (Cn := RX8) (T := TX8) (N := 13) C tg_255 (by decide) rfl nX8_keep_8 0 (by decide) rfl kX8_keep_7 rfl dX8_keep_1 256 rfl ?_
    refine x_iconst (v := (0 : Int32)) C dX8_keep_4 (by decide) ?_
    refine x_aload_n C dX8_keep_5 rfl rfl ?_
    refine x_getr (Cn := RX8) (T := TX8) (N := 13) C tg_255 (by decide) rfl nX8_keep_8 3 (by decide) rfl kX8_keep_16 rfl dX8_keep_6 258 rfl ?_
    refine x_iconst (v := (0 : Int32)) C dX8_keep_9 (by decide) ?_
    obtain ⟨r1, M2, e3, hf⟩ := bd_of hf
    refine x_callSv (n := 4) (As := [.ref (ad 256), .int (0 : Int32), .ref (ad 258), .int (0 : Int32)]) (rest := []) (maxL := 5) (ret := none) C (c_X8_lays tg_256 tg_258 e3) gX8_keep_X8_lays rfl (by decide +kernel) ⟨Nat.le_of_ble_eq_true rfl, Nat.le_of_ble_eq_true rfl⟩ rfl rfl rfl (Nat.le_of_ble_eq_true rfl) dX8_keep_10 ?_
    refine x_aload_n C dX8_keep_13 rfl rfl ?_
    refine x_iconst (v := (1 : Int32)) C dX8_keep_14 (by decide) ?_
    refine x_puti (ty := .boolean) (Cn := RX8) (T := TX8) (N := 13) C tg_255 (by decide) rfl nX8_keep_8 tyX8 tyX8_ok nmX8 4 (by decide) rfl kX8_keep_44 rfl rfl (by decide +kernel) rfl rfl dX8_keep_15 ?_
    refine x_gen hf (fun M4 hf => ?_)
    refine x_aload_n C dX8_keep_18 rfl rfl ?_
    obtain ⟨r5, M6, e7, hf⟩ := bd_of hf
    refine x_callV (n := 0) (Cn := RX8) (T := TX8) (N := 13) (As := []) (rest := []) (maxL := 3) (ret := (some .int)) C (c_X8_held  e7) gX8_keep_X8_held rfl (by decide +kernel) ⟨Nat.le_of_ble_eq_true rfl, Nat.le_of_ble_eq_true rfl⟩ tg_255 (by decide) rfl rfl rfl rfl (Nat.le_of_ble_eq_true rfl) dX8_keep_19 ?_
    exact x_iret C hr hf dX8_keep_22

set_option maxHeartbeats 4000000 in
set_option maxRecDepth 100000 in
theorem c_X8_moveOut {a1 : Int32} {M : Mem} {r : Int32} {M' : Mem}  (hf : f_X8_moveOut a1 M = some (r, M')) : CnI yX8_moveOut wsX8_moveOut 2 (fun ad => [.ref (ad 255), .int a1]) M r M' := by
  unfold f_X8_moveOut at hf
  refine x_metI (cc := cX8_moveOut) (maxL := 3) RX8 rfl (by decide) rfl (fun ad => Nat.le_of_ble_eq_true rfl) (fun ad v hv => ?_) (fun p l e s m args below meth c D cs ad C hr => ?_)
  · simp only [List.mem_cons, List.not_mem_nil, or_false] at hv
    rcases hv with rfl | rfl <;> rfl
  · show V p l e (rmk 2) s m args below meth c 3 D cs ad (QI below s args D cs ad r M') 0 [some (.ref (ad 255)), some (.int a1), none] [] M
    refine x_aload_n C dX8_moveOut_0 rfl rfl ?_
    refine x_iload_n C dX8_moveOut_1 rfl rfl ?_
    obtain ⟨r1, M2, e3, hf⟩ := bd_of hf
    refine x_callV (n := 1) (Cn := RX8) (T := TX8) (N := 13) (As := [.int a1]) (rest := []) (maxL := 2) (ret := (some .boolean)) C (c_X8_isHome  e3) gX8_moveOut_X8_isHome rfl (by decide +kernel) ⟨Nat.le_of_ble_eq_true rfl, Nat.le_of_ble_eq_true rfl⟩ tg_255 (by decide) rfl rfl rfl rfl (Nat.le_of_ble_eq_true rfl) dX8_moveOut_2 ?_
    refine x_if_ne (tgt := 10) C dX8_moveOut_5 (by decide) (fun q4 => ?_) (fun q4 => ?_)
    · have hf := ift q4 hf
      refine x_iconst (v := (-1 : Int32)) C dX8_moveOut_8 (by decide) ?_
      exact x_iret C hr hf dX8_moveOut_9
    · have hf := iff_ q4 hf
      refine x_aload_n C dX8_moveOut_10 rfl rfl ?_
      refine x_iload_n C dX8_moveOut_11 rfl rfl ?_
      refine x_iconst (v := (4 : Int32)) C dX8_moveOut_12 (by decide) ?_
      obtain ⟨r5, M6, e7, hf⟩ := bd_of hf
      refine x_callV (n := 2) (Cn := RX8) (T := TX8) (N := 13) (As := [.int a1, .int (4 : Int32)]) (rest := []) (maxL := 3) (ret := (some .int)) C (c_X8_of  e7) gX8_moveOut_X8_of rfl (by decide +kernel) ⟨Nat.le_of_ble_eq_true rfl, Nat.le_of_ble_eq_true rfl⟩ tg_255 (by decide) rfl rfl rfl rfl (Nat.le_of_ble_eq_true rfl) dX8_moveOut_13 ?_
      refine x_istore_n (lv' := [some (.ref (ad 255)), some (.int a1), some (.int r5)]) C dX8_moveOut_16 rfl (by decide) rfl ?_
      refine x_iload_n C dX8_moveOut_17 rfl rfl ?_
      refine x_bipush (v := (-5 : Int32)) C dX8_moveOut_18 (by decide) ?_
      refine x_icmp_ne (tgt := 26) C dX8_moveOut_20 (by decide) (fun q8 => ?_) (fun q8 => ?_)
      · have hf := ift q8 hf
        refine x_bipush (v := (-5 : Int32)) C dX8_moveOut_23 (by decide) ?_
        exact x_iret C hr hf dX8_moveOut_25
      · have hf := iff_ q8 hf
        refine x_aload_n C dX8_moveOut_26 rfl rfl ?_
        obtain ⟨r9, M10, e11, hf⟩ := bd_of hf
        refine x_callVv (n := 0) (Cn := RX8) (T := TX8) (N := 13) (As := []) (rest := []) (maxL := 2) (ret := none) C (c_X8_records  e11) gX8_moveOut_X8_records rfl (by decide +kernel) ⟨Nat.le_of_ble_eq_true rfl, Nat.le_of_ble_eq_true rfl⟩ tg_255 (by decide) rfl rfl rfl rfl (Nat.le_of_ble_eq_true rfl) dX8_moveOut_27 ?_
        refine x_aload_n C dX8_moveOut_30 rfl rfl ?_
        refine x_iload_n C dX8_moveOut_31 rfl rfl ?_
        refine x_iconst (v := (4 : Int32)) C dX8_moveOut_32 (by decide) ?_
        refine x_bipush (v := (-5 : Int32)) C dX8_moveOut_33 (by decide) ?_
        obtain ⟨r12, M13, e14, hf⟩ := bd_of hf
        refine x_callVv (n := 3) (Cn := RX8) (T := TX8) (N := 13) (As := [.int a1, .int (4 : Int32), .int (-5 : Int32)]) (rest := []) (maxL := 4) (ret := none) C (c_X8_puts  e14) gX8_moveOut_X8_puts rfl (by decide +kernel) ⟨Nat.le_of_ble_eq_true rfl, Nat.le_of_ble_eq_true rfl⟩ tg_255 (by decide) rfl rfl rfl rfl (Nat.le_of_ble_eq_true rfl) dX8_moveOut_35 ?_
        refine x_iload_n C dX8_moveOut_38 rfl rfl ?_
        exact x_iret C hr hf dX8_moveOut_39

theorem kX8_number_19 : Cond.fieldLink RX8 19 "FlatLotteryModel" "text" "[C" ∈ wsX8_number := List.mem_of_getElem? (i := 1) rfl
theorem kX8_number_147 : Cond.fieldLink RX8 147 "FlatLotteryModel" "spot" "I" ∈ wsX8_number := List.mem_of_getElem? (i := 2) rfl
theorem nX8_number_8 : ∀ w ∈ u_ws RX8 TX8 13, w ∈ wsX8_number := in_r [12, 13, 14, 15, 16, 17, 18, 19, 20, 21, 22, 23, 24] (by decide +kernel)
set_option maxHeartbeats 4000000 in
set_option maxRecDepth 100000 in
theorem c_X8_number  {M : Mem} {r : Int32} {M' : Mem}  (hf : f_X8_number  M = some (r, M')) : CnI yX8_number wsX8_number 2 (fun ad => [.ref (ad 255)]) M r M' := by
  unfold f_X8_number at hf
  refine x_metI (cc := cX8_number) (maxL := 2) RX8 rfl (by decide) rfl (fun ad => Nat.le_of_ble_eq_true rfl) (fun ad v hv => ?_) (fun p l e s m args below meth c D cs ad C hr => ?_)
  · simp only [List.mem_cons, List.not_mem_nil, or_false] at hv
    rcases hv with rfl <;> rfl
  · show V p l e (rmk 2) s m args below meth c 2 D cs ad (QI below s args D cs ad r M') 0 [some (.ref (ad 255)), none] [] M
    refine x_aload_n C dX8_number_0 rfl rfl ?_
    refine x_bipush (v := (48 : Int32)) C dX8_number_1 (by decide) ?_
    refine x_bipush (v := (57 : Int32)) C dX8_number_3 (by decide) ?_
    obtain ⟨r1, M2, e3, hf⟩ := bd_of hf
    refine x_callV (n := 2) (Cn := RX8) (T := TX8) (N := 13) (As := [.int (48 : Int32), .int (57 : Int32)]) (rest := []) (maxL := 3) (ret := (some .boolean)) C (c_X8_sees  e3) gX8_number_X8_sees rfl (by decide +kernel) ⟨Nat.le_of_ble_eq_true rfl, Nat.le_of_ble_eq_true rfl⟩ tg_255 (by decide) rfl rfl rfl rfl (Nat.le_of_ble_eq_true rfl) dX8_number_5 ?_
    refine x_if_ne (tgt := 14) C dX8_number_8 (by decide) (fun q4 => ?_) (fun q4 => ?_)
    · have hf := ift q4 hf
      refine x_bipush (v := (-5 : Int32)) C dX8_number_11 (by decide) ?_
      exact x_iret C hr hf dX8_number_13
    · have hf := iff_ q4 hf
      refine x_aload_n C dX8_number_14 rfl rfl ?_
      refine x_getr (Cn := RX8) (T := TX8) (N := 13) C tg_255 (by decide) rfl nX8_number_8 5 (by decide) rfl kX8_number_19 rfl dX8_number_15 259 rfl ?_
      refine x_aload_n C dX8_number_18 rfl rfl ?_
      refine x_geti (Cn := RX8) (T := TX8) (N := 13) C tg_255 (by decide) rfl nX8_number_8 9 (by decide) rfl kX8_number_147 rfl dX8_number_19 ?_
      obtain ⟨g5, hf⟩ := ck_of hf
      refine x_cald (j := ((M2 255 9)).toNatClampNeg) C tg_259 tl_259 g5 rfl dX8_number_22 ?_
      refine x_bipush (v := (48 : Int32)) C dX8_number_23 (by decide) ?_
      refine x_isub C dX8_number_25 ?_
      refine x_istore_n (lv' := [some (.ref (ad 255)), some (.int ((M2 259 ((M2 255 9)).toNatClampNeg) - (48 : Int32)))]) C dX8_number_26 rfl (by decide) rfl ?_
      refine x_aload_n C dX8_number_27 rfl rfl ?_
      refine x_dup C dX8_number_28 rfl ?_
      refine x_geti (Cn := RX8) (T := TX8) (N := 13) C tg_255 (by decide) rfl nX8_number_8 9 (by decide) rfl kX8_number_147 rfl dX8_number_29 ?_
      refine x_iconst (v := (1 : Int32)) C dX8_number_32 (by decide) ?_
      refine x_iadd C dX8_number_33 ?_
      refine x_puti (ty := .int) (Cn := RX8) (T := TX8) (N := 13) C tg_255 (by decide) rfl nX8_number_8 tyX8 tyX8_ok nmX8 9 (by decide) rfl kX8_number_147 rfl rfl (by decide +kernel) rfl rfl dX8_number_34 ?_
      refine x_gen hf (fun M6 hf => ?_)
      refine x_iload_n C dX8_number_37 rfl rfl ?_
      refine x_iconst (v := (1 : Int32)) C dX8_number_38 (by decide) ?_
      refine x_icmp_ne (tgt := 79) C dX8_number_39 (by decide) (fun q7 => ?_) (fun q7 => ?_)
      · have hf := ift q7 hf
        refine x_aload_n C dX8_number_42 rfl rfl ?_
        refine x_bipush (v := (48 : Int32)) C dX8_number_43 (by decide) ?_
        refine x_bipush (v := (49 : Int32)) C dX8_number_45 (by decide) ?_
        obtain ⟨r8, M9, e10, hf⟩ := bd_of hf
        refine x_callV (n := 2) (Cn := RX8) (T := TX8) (N := 13) (As := [.int (48 : Int32), .int (49 : Int32)]) (rest := []) (maxL := 3) (ret := (some .boolean)) C (c_X8_sees  e10) gX8_number_X8_sees rfl (by decide +kernel) ⟨Nat.le_of_ble_eq_true rfl, Nat.le_of_ble_eq_true rfl⟩ tg_255 (by decide) rfl rfl rfl rfl (Nat.le_of_ble_eq_true rfl) dX8_number_47 ?_
        refine x_if_eq (tgt := 79) C dX8_number_50 (by decide) (fun q11 => ?_) (fun q11 => ?_)
        · have hf := ift q11 hf
          refine x_iload_n C dX8_number_79 rfl rfl ?_
          exact x_iret C hr hf dX8_number_80
        · have hf := iff_ q11 hf
          refine x_bipush (v := (10 : Int32)) C dX8_number_53 (by decide) ?_
          refine x_aload_n C dX8_number_55 rfl rfl ?_
          refine x_getr (Cn := RX8) (T := TX8) (N := 13) C tg_255 (by decide) rfl nX8_number_8 5 (by decide) rfl kX8_number_19 rfl dX8_number_56 259 rfl ?_
          refine x_aload_n C dX8_number_59 rfl rfl ?_
          refine x_geti (Cn := RX8) (T := TX8) (N := 13) C tg_255 (by decide) rfl nX8_number_8 9 (by decide) rfl kX8_number_147 rfl dX8_number_60 ?_
          obtain ⟨g12, hf⟩ := ck_of hf
          refine x_cald (j := ((M9 255 9)).toNatClampNeg) C tg_259 tl_259 g12 rfl dX8_number_63 ?_
          refine x_iadd C dX8_number_64 ?_
          refine x_bipush (v := (48 : Int32)) C dX8_number_65 (by decide) ?_
          refine x_isub C dX8_number_67 ?_
          refine x_istore_n (lv' := [some (.ref (ad 255)), some (.int (((10 : Int32) + (M9 259 ((M9 255 9)).toNatClampNeg)) - (48 : Int32)))]) C dX8_number_68 rfl (by decide) rfl ?_
          refine x_aload_n C dX8_number_69 rfl rfl ?_
          refine x_dup C dX8_number_70 rfl ?_
          refine x_geti (Cn := RX8) (T := TX8) (N := 13) C tg_255 (by decide) rfl nX8_number_8 9 (by decide) rfl kX8_number_147 rfl dX8_number_71 ?_
          refine x_iconst (v := (1 : Int32)) C dX8_number_74 (by decide) ?_
          refine x_iadd C dX8_number_75 ?_
          refine x_puti (ty := .int) (Cn := RX8) (T := TX8) (N := 13) C tg_255 (by decide) rfl nX8_number_8 tyX8 tyX8_ok nmX8 9 (by decide) rfl kX8_number_147 rfl rfl (by decide +kernel) rfl rfl dX8_number_76 ?_
          refine x_gen hf (fun M13 hf => ?_)
          refine x_iload_n C dX8_number_79 rfl rfl ?_
          exact x_iret C hr hf dX8_number_80
      · have hf := iff_ q7 hf
        refine x_iload_n C dX8_number_79 rfl rfl ?_
        exact x_iret C hr hf dX8_number_80

theorem kX8_restore_7 : Cond.fieldLink RX8 7 "FlatLotteryModel" "s" "[I" ∈ wsX8_restore := List.mem_of_getElem? (i := 3) rfl
theorem kX8_restore_16 : Cond.fieldLink RX8 16 "FlatLotteryModel" "shot" "[I" ∈ wsX8_restore := List.mem_of_getElem? (i := 2) rfl
theorem kX8_restore_44 : Cond.fieldLink RX8 44 "FlatLotteryModel" "isShot" "Z" ∈ wsX8_restore := List.mem_of_getElem? (i := 1) rfl
theorem nX8_restore_8 : ∀ w ∈ u_ws RX8 TX8 13, w ∈ wsX8_restore := in_r [22, 23, 24, 25, 26, 27, 28, 29, 30, 31, 32, 33, 34] (by decide +kernel)
set_option maxHeartbeats 4000000 in
set_option maxRecDepth 100000 in
theorem c_X8_restore  {M : Mem} {r : Int32} {M' : Mem}  (hf : f_X8_restore  M = some (r, M')) : CnI yX8_restore wsX8_restore 2 (fun ad => [.ref (ad 255)]) M r M' := by
  unfold f_X8_restore at hf
  refine x_metI (cc := cX8_restore) (maxL := 1) RX8 rfl (by decide) rfl (fun ad => Nat.le_of_ble_eq_true rfl) (fun ad v hv => ?_) (fun p l e s m args below meth c D cs ad C hr => ?_)
  · simp only [List.mem_cons, List.not_mem_nil, or_false] at hv
    rcases hv with rfl <;> rfl
  · show V p l e (rmk 2) s m args below meth c 1 D cs ad (QI below s args D cs ad r M') 0 [some (.ref (ad 255))] [] M
    refine x_aload_n C dX8_restore_0 rfl rfl ?_
    refine x_geti (Cn := RX8) (T := TX8) (N := 13) C tg_255 (by decide) rfl nX8_restore_8 4 (by decide) rfl kX8_restore_44 rfl dX8_restore_1 ?_
    refine x_if_ne (tgt := 10) C dX8_restore_4 (by decide) (fun q1 => ?_) (fun q1 => ?_)
    · have hf := ift q1 hf
      refine x_bipush (v := (-5 : Int32)) C dX8_restore_7 (by decide) ?_
      exact x_iret C hr hf dX8_restore_9
    · have hf := iff_ q1 hf
      refine x_aload_n C dX8_restore_10 rfl rfl ?_
      obtain ⟨r2, M3, e4, hf⟩ := bd_of hf
      refine x_callVv (n := 0) (Cn := RX8) (T := TX8) (N := 13) (As := []) (rest := []) (maxL := 2) (ret := none) C (c_X8_records  e4) gX8_restore_X8_records rfl (by decide +kernel) ⟨Nat.le_of_ble_eq_true rfl, Nat.le_of_ble_eq_true rfl⟩ tg_255 (by decide) rfl rfl rfl rfl (Nat.le_of_ble_eq_true rfl) dX8_restore_11 ?_
      refine x_aload_n C dX8_restore_14 rfl rfl ?_
      refine x_getr (Cn := RX8) (T := TX8) (N := 13) C tg_255 (by decide) rfl nX8_restore_8 3 (by decide) rfl kX8_restore_16 rfl dX8_restore_15 258 rfl ?_
      refine x_iconst (v := (0 : Int32)) C dX8_restore_18 (by decide) ?_
      refine x_aload_n C dX8_restore_19 rfl rfl ?_
      refine x_getr (Cn := RX8) (T := TX8) (N := 13) C tg_255 (by decide) rfl nX8_restore_8 0 (by decide) rfl kX8_restore_7 rfl dX8_restore_20 256 rfl ?_
      refine x_iconst (v := (0 : Int32)) C dX8_restore_23 (by decide) ?_
      obtain ⟨r5, M6, e7, hf⟩ := bd_of hf
      refine x_callSv (n := 4) (As := [.ref (ad 258), .int (0 : Int32), .ref (ad 256), .int (0 : Int32)]) (rest := []) (maxL := 5) (ret := none) C (c_X8_lays tg_258 tg_256 e7) gX8_restore_X8_lays rfl (by decide +kernel) ⟨Nat.le_of_ble_eq_true rfl, Nat.le_of_ble_eq_true rfl⟩ rfl rfl rfl (Nat.le_of_ble_eq_true rfl) dX8_restore_24 ?_
      refine x_aload_n C dX8_restore_27 rfl rfl ?_
      obtain ⟨r8, M9, e10, hf⟩ := bd_of hf
      refine x_callV (n := 0) (Cn := RX8) (T := TX8) (N := 13) (As := []) (rest := []) (maxL := 3) (ret := (some .int)) C (c_X8_held  e10) gX8_restore_X8_held rfl (by decide +kernel) ⟨Nat.le_of_ble_eq_true rfl, Nat.le_of_ble_eq_true rfl⟩ tg_255 (by decide) rfl rfl rfl rfl (Nat.le_of_ble_eq_true rfl) dX8_restore_28 ?_
      exact x_iret C hr hf dX8_restore_31

theorem kX8_takes_147 : Cond.fieldLink RX8 147 "FlatLotteryModel" "spot" "I" ∈ wsX8_takes := List.mem_of_getElem? (i := 1) rfl
theorem nX8_takes_8 : ∀ w ∈ u_ws RX8 TX8 13, w ∈ wsX8_takes := in_r [12, 13, 14, 15, 16, 17, 18, 19, 20, 21, 22, 23, 24] (by decide +kernel)
set_option maxHeartbeats 4000000 in
set_option maxRecDepth 100000 in
theorem c_X8_takes {a1 : Int32} {M : Mem} {r : Int32} {M' : Mem}  (hf : f_X8_takes a1 M = some (r, M')) : CnI yX8_takes wsX8_takes 2 (fun ad => [.ref (ad 255), .int a1]) M r M' := by
  unfold f_X8_takes at hf
  refine x_metI (cc := cX8_takes) (maxL := 3) RX8 rfl (by decide) rfl (fun ad => Nat.le_of_ble_eq_true rfl) (fun ad v hv => ?_) (fun p l e s m args below meth c D cs ad C hr => ?_)
  · simp only [List.mem_cons, List.not_mem_nil, or_false] at hv
    rcases hv with rfl | rfl <;> rfl
  · show V p l e (rmk 2) s m args below meth c 3 D cs ad (QI below s args D cs ad r M') 0 [some (.ref (ad 255)), some (.int a1), none] [] M
    refine x_aload_n C dX8_takes_0 rfl rfl ?_
    refine x_iload_n C dX8_takes_1 rfl rfl ?_
    refine x_iload_n C dX8_takes_2 rfl rfl ?_
    obtain ⟨r1, M2, e3, hf⟩ := bd_of hf
    refine x_callV (n := 2) (Cn := RX8) (T := TX8) (N := 13) (As := [.int a1, .int a1]) (rest := []) (maxL := 3) (ret := (some .boolean)) C (c_X8_sees  e3) gX8_takes_X8_sees rfl (by decide +kernel) ⟨Nat.le_of_ble_eq_true rfl, Nat.le_of_ble_eq_true rfl⟩ tg_255 (by decide) rfl rfl rfl rfl (Nat.le_of_ble_eq_true rfl) dX8_takes_3 ?_
    refine x_istore_n (lv' := [some (.ref (ad 255)), some (.int a1), some (.int r1)]) C dX8_takes_6 rfl (by decide) rfl ?_
    refine x_aload_n C dX8_takes_7 rfl rfl ?_
    refine x_dup C dX8_takes_8 rfl ?_
    refine x_geti (Cn := RX8) (T := TX8) (N := 13) C tg_255 (by decide) rfl nX8_takes_8 9 (by decide) rfl kX8_takes_147 rfl dX8_takes_9 ?_
    refine x_iload_n C dX8_takes_12 rfl rfl ?_
    refine x_if_eq (tgt := 20) C dX8_takes_13 (by decide) (fun q4 => ?_) (fun q4 => ?_)
    · have hf := ift q4 hf
      refine x_iconst (v := (0 : Int32)) C dX8_takes_20 (by decide) ?_
      refine x_iadd C dX8_takes_21 ?_
      refine x_puti (ty := .int) (Cn := RX8) (T := TX8) (N := 13) C tg_255 (by decide) rfl nX8_takes_8 tyX8 tyX8_ok nmX8 9 (by decide) rfl kX8_takes_147 rfl rfl (by decide +kernel) rfl rfl dX8_takes_22 ?_
      refine x_gen hf (fun M5 hf => ?_)
      refine x_iload_n C dX8_takes_25 rfl rfl ?_
      obtain ⟨g6, hf⟩ := ck_of hf
      exact x_zret C hr (isb_nar g6) hf dX8_takes_26
    · have hf := iff_ q4 hf
      refine x_iconst (v := (1 : Int32)) C dX8_takes_16 (by decide) ?_
      refine x_goto (tgt := 21) C dX8_takes_17 (by decide) ?_
      refine x_iadd C dX8_takes_21 ?_
      refine x_puti (ty := .int) (Cn := RX8) (T := TX8) (N := 13) C tg_255 (by decide) rfl nX8_takes_8 tyX8 tyX8_ok nmX8 9 (by decide) rfl kX8_takes_147 rfl rfl (by decide +kernel) rfl rfl dX8_takes_22 ?_
      refine x_gen hf (fun M7 hf => ?_)
      refine x_iload_n C dX8_takes_25 rfl rfl ?_
      obtain ⟨g8, hf⟩ := ck_of hf
      exact x_zret C hr (isb_nar g8) hf dX8_takes_26

set_option maxHeartbeats 4000000 in
set_option maxRecDepth 100000 in
theorem c_X8_unwish {a1 : Int32} {a2 : Int32} {M : Mem} {r : Int32} {M' : Mem}  (hf : f_X8_unwish a1 a2 M = some (r, M')) : CnI yX8_unwish wsX8_unwish 2 (fun ad => [.ref (ad 255), .int a1, .int a2]) M r M' := by
  unfold f_X8_unwish at hf
  refine x_metI (cc := cX8_unwish) (maxL := 4) RX8 rfl (by decide) rfl (fun ad => Nat.le_of_ble_eq_true rfl) (fun ad v hv => ?_) (fun p l e s m args below meth c D cs ad C hr => ?_)
  · simp only [List.mem_cons, List.not_mem_nil, or_false] at hv
    rcases hv with rfl | rfl | rfl <;> rfl
  · show V p l e (rmk 2) s m args below meth c 4 D cs ad (QI below s args D cs ad r M') 0 [some (.ref (ad 255)), some (.int a1), some (.int a2), none] [] M
    refine x_aload_n C dX8_unwish_0 rfl rfl ?_
    refine x_iload_n C dX8_unwish_1 rfl rfl ?_
    obtain ⟨r1, M2, e3, hf⟩ := bd_of hf
    refine x_callV (n := 1) (Cn := RX8) (T := TX8) (N := 13) (As := [.int a1]) (rest := []) (maxL := 2) (ret := (some .boolean)) C (c_X8_isHome  e3) gX8_unwish_X8_isHome rfl (by decide +kernel) ⟨Nat.le_of_ble_eq_true rfl, Nat.le_of_ble_eq_true rfl⟩ tg_255 (by decide) rfl rfl rfl rfl (Nat.le_of_ble_eq_true rfl) dX8_unwish_2 ?_
    refine x_if_eq (tgt := 16) C dX8_unwish_5 (by decide) (fun q4 => ?_) (fun q4 => ?_)
    · have hf := ift q4 hf
      refine x_iconst (v := (-1 : Int32)) C dX8_unwish_16 (by decide) ?_
      exact x_iret C hr hf dX8_unwish_17
    · have hf := iff_ q4 hf
      refine x_aload_n C dX8_unwish_8 rfl rfl ?_
      refine x_iload_n C dX8_unwish_9 rfl rfl ?_
      obtain ⟨r5, M6, e7, hf⟩ := bd_of hf
      refine x_callV (n := 1) (Cn := RX8) (T := TX8) (N := 13) (As := [.int a2]) (rest := []) (maxL := 2) (ret := (some .boolean)) C (c_X8_isFlat  e7) gX8_unwish_X8_isFlat rfl (by decide +kernel) ⟨Nat.le_of_ble_eq_true rfl, Nat.le_of_ble_eq_true rfl⟩ tg_255 (by decide) rfl rfl rfl rfl (Nat.le_of_ble_eq_true rfl) dX8_unwish_10 ?_
      refine x_if_ne (tgt := 18) C dX8_unwish_13 (by decide) (fun q8 => ?_) (fun q8 => ?_)
      · have hf := ift q8 hf
        refine x_iconst (v := (-1 : Int32)) C dX8_unwish_16 (by decide) ?_
        exact x_iret C hr hf dX8_unwish_17
      · have hf := iff_ q8 hf
        refine x_aload_n C dX8_unwish_18 rfl rfl ?_
        refine x_iload_n C dX8_unwish_19 rfl rfl ?_
        refine x_iload_n C dX8_unwish_20 rfl rfl ?_
        obtain ⟨r9, M10, e11, hf⟩ := bd_of hf
        refine x_callV (n := 2) (Cn := RX8) (T := TX8) (N := 13) (As := [.int a1, .int a2]) (rest := []) (maxL := 5) (ret := (some .int)) C (c_X8_placeOn  e11) gX8_unwish_X8_placeOn rfl (by decide +kernel) ⟨Nat.le_of_ble_eq_true rfl, Nat.le_of_ble_eq_true rfl⟩ tg_255 (by decide) rfl rfl rfl rfl (Nat.le_of_ble_eq_true rfl) dX8_unwish_21 ?_
        refine x_istore_n (lv' := [some (.ref (ad 255)), some (.int a1), some (.int a2), some (.int r9)]) C dX8_unwish_24 rfl (by decide) rfl ?_
        refine x_iload_n C dX8_unwish_25 rfl rfl ?_
        refine x_bipush (v := (-5 : Int32)) C dX8_unwish_26 (by decide) ?_
        refine x_icmp_ne (tgt := 34) C dX8_unwish_28 (by decide) (fun q12 => ?_) (fun q12 => ?_)
        · have hf := ift q12 hf
          refine x_bipush (v := (-5 : Int32)) C dX8_unwish_31 (by decide) ?_
          exact x_iret C hr hf dX8_unwish_33
        · have hf := iff_ q12 hf
          refine x_aload_n C dX8_unwish_34 rfl rfl ?_
          obtain ⟨r13, M14, e15, hf⟩ := bd_of hf
          refine x_callVv (n := 0) (Cn := RX8) (T := TX8) (N := 13) (As := []) (rest := []) (maxL := 2) (ret := none) C (c_X8_records  e15) gX8_unwish_X8_records rfl (by decide +kernel) ⟨Nat.le_of_ble_eq_true rfl, Nat.le_of_ble_eq_true rfl⟩ tg_255 (by decide) rfl rfl rfl rfl (Nat.le_of_ble_eq_true rfl) dX8_unwish_35 ?_
          refine x_aload_n C dX8_unwish_38 rfl rfl ?_
          refine x_iload_n C dX8_unwish_39 rfl rfl ?_
          refine x_iload_n C dX8_unwish_40 rfl rfl ?_
          obtain ⟨r16, M17, e18, hf⟩ := bd_of hf
          refine x_callVv (n := 2) (Cn := RX8) (T := TX8) (N := 13) (As := [.int a1, .int r9]) (rest := []) (maxL := 5) (ret := none) C (c_X8_takesOff  e18) gX8_unwish_X8_takesOff rfl (by decide +kernel) ⟨Nat.le_of_ble_eq_true rfl, Nat.le_of_ble_eq_true rfl⟩ tg_255 (by decide) rfl rfl rfl rfl (Nat.le_of_ble_eq_true rfl) dX8_unwish_41 ?_
          refine x_iload_n C dX8_unwish_44 rfl rfl ?_
          exact x_iret C hr hf dX8_unwish_45

set_option maxHeartbeats 4000000 in
set_option maxRecDepth 100000 in
theorem c_X8_wish {a1 : Int32} {a2 : Int32} {M : Mem} {r : Int32} {M' : Mem}  (hf : f_X8_wish a1 a2 M = some (r, M')) : CnI yX8_wish wsX8_wish 2 (fun ad => [.ref (ad 255), .int a1, .int a2]) M r M' := by
  unfold f_X8_wish at hf
  refine x_metI (cc := cX8_wish) (maxL := 4) RX8 rfl (by decide) rfl (fun ad => Nat.le_of_ble_eq_true rfl) (fun ad v hv => ?_) (fun p l e s m args below meth c D cs ad C hr => ?_)
  · simp only [List.mem_cons, List.not_mem_nil, or_false] at hv
    rcases hv with rfl | rfl | rfl <;> rfl
  · show V p l e (rmk 2) s m args below meth c 4 D cs ad (QI below s args D cs ad r M') 0 [some (.ref (ad 255)), some (.int a1), some (.int a2), none] [] M
    refine x_aload_n C dX8_wish_0 rfl rfl ?_
    refine x_iload_n C dX8_wish_1 rfl rfl ?_
    obtain ⟨r1, M2, e3, hf⟩ := bd_of hf
    refine x_callV (n := 1) (Cn := RX8) (T := TX8) (N := 13) (As := [.int a1]) (rest := []) (maxL := 2) (ret := (some .boolean)) C (c_X8_isHome  e3) gX8_wish_X8_isHome rfl (by decide +kernel) ⟨Nat.le_of_ble_eq_true rfl, Nat.le_of_ble_eq_true rfl⟩ tg_255 (by decide) rfl rfl rfl rfl (Nat.le_of_ble_eq_true rfl) dX8_wish_2 ?_
    refine x_if_eq (tgt := 16) C dX8_wish_5 (by decide) (fun q4 => ?_) (fun q4 => ?_)
    · have hf := ift q4 hf
      refine x_iconst (v := (-1 : Int32)) C dX8_wish_16 (by decide) ?_
      exact x_iret C hr hf dX8_wish_17
    · have hf := iff_ q4 hf
      refine x_aload_n C dX8_wish_8 rfl rfl ?_
      refine x_iload_n C dX8_wish_9 rfl rfl ?_
      obtain ⟨r5, M6, e7, hf⟩ := bd_of hf
      refine x_callV (n := 1) (Cn := RX8) (T := TX8) (N := 13) (As := [.int a2]) (rest := []) (maxL := 2) (ret := (some .boolean)) C (c_X8_isFlat  e7) gX8_wish_X8_isFlat rfl (by decide +kernel) ⟨Nat.le_of_ble_eq_true rfl, Nat.le_of_ble_eq_true rfl⟩ tg_255 (by decide) rfl rfl rfl rfl (Nat.le_of_ble_eq_true rfl) dX8_wish_10 ?_
      refine x_if_ne (tgt := 18) C dX8_wish_13 (by decide) (fun q8 => ?_) (fun q8 => ?_)
      · have hf := ift q8 hf
        refine x_iconst (v := (-1 : Int32)) C dX8_wish_16 (by decide) ?_
        exact x_iret C hr hf dX8_wish_17
      · have hf := iff_ q8 hf
        refine x_aload_n C dX8_wish_18 rfl rfl ?_
        refine x_iload_n C dX8_wish_19 rfl rfl ?_
        refine x_bipush (v := (7 : Int32)) C dX8_wish_20 (by decide) ?_
        obtain ⟨r9, M10, e11, hf⟩ := bd_of hf
        refine x_callV (n := 2) (Cn := RX8) (T := TX8) (N := 13) (As := [.int a1, .int (7 : Int32)]) (rest := []) (maxL := 3) (ret := (some .int)) C (c_X8_of  e11) gX8_wish_X8_of rfl (by decide +kernel) ⟨Nat.le_of_ble_eq_true rfl, Nat.le_of_ble_eq_true rfl⟩ tg_255 (by decide) rfl rfl rfl rfl (Nat.le_of_ble_eq_true rfl) dX8_wish_22 ?_
        refine x_istore_n (lv' := [some (.ref (ad 255)), some (.int a1), some (.int a2), some (.int r9)]) C dX8_wish_25 rfl (by decide) rfl ?_
        refine x_iload_n C dX8_wish_26 rfl rfl ?_
        refine x_bipush (v := (6 : Int32)) C dX8_wish_27 (by decide) ?_
        refine x_icmp_ne (tgt := 35) C dX8_wish_29 (by decide) (fun q12 => ?_) (fun q12 => ?_)
        · have hf := ift q12 hf
          refine x_bipush (v := (-3 : Int32)) C dX8_wish_32 (by decide) ?_
          exact x_iret C hr hf dX8_wish_34
        · have hf := iff_ q12 hf
          refine x_aload_n C dX8_wish_35 rfl rfl ?_
          refine x_iload_n C dX8_wish_36 rfl rfl ?_
          refine x_iload_n C dX8_wish_37 rfl rfl ?_
          obtain ⟨r13, M14, e15, hf⟩ := bd_of hf
          refine x_callV (n := 2) (Cn := RX8) (T := TX8) (N := 13) (As := [.int a1, .int a2]) (rest := []) (maxL := 5) (ret := (some .int)) C (c_X8_placeOn  e15) gX8_wish_X8_placeOn rfl (by decide +kernel) ⟨Nat.le_of_ble_eq_true rfl, Nat.le_of_ble_eq_true rfl⟩ tg_255 (by decide) rfl rfl rfl rfl (Nat.le_of_ble_eq_true rfl) dX8_wish_38 ?_
          refine x_bipush (v := (-5 : Int32)) C dX8_wish_41 (by decide) ?_
          refine x_icmp_eq (tgt := 49) C dX8_wish_43 (by decide) (fun q16 => ?_) (fun q16 => ?_)
          · have hf := ift q16 hf
            refine x_aload_n C dX8_wish_49 rfl rfl ?_
            obtain ⟨r17, M18, e19, hf⟩ := bd_of hf
            refine x_callVv (n := 0) (Cn := RX8) (T := TX8) (N := 13) (As := []) (rest := []) (maxL := 2) (ret := none) C (c_X8_records  e19) gX8_wish_X8_records rfl (by decide +kernel) ⟨Nat.le_of_ble_eq_true rfl, Nat.le_of_ble_eq_true rfl⟩ tg_255 (by decide) rfl rfl rfl rfl (Nat.le_of_ble_eq_true rfl) dX8_wish_50 ?_
            refine x_aload_n C dX8_wish_53 rfl rfl ?_
            refine x_iload_n C dX8_wish_54 rfl rfl ?_
            refine x_bipush (v := (8 : Int32)) C dX8_wish_55 (by decide) ?_
            refine x_iload_n C dX8_wish_57 rfl rfl ?_
            refine x_iadd C dX8_wish_58 ?_
            refine x_iload_n C dX8_wish_59 rfl rfl ?_
            obtain ⟨r20, M21, e22, hf⟩ := bd_of hf
            refine x_callVv (n := 3) (Cn := RX8) (T := TX8) (N := 13) (As := [.int a1, .int ((8 : Int32) + r9), .int a2]) (rest := []) (maxL := 4) (ret := none) C (c_X8_puts  e22) gX8_wish_X8_puts rfl (by decide +kernel) ⟨Nat.le_of_ble_eq_true rfl, Nat.le_of_ble_eq_true rfl⟩ tg_255 (by decide) rfl rfl rfl rfl (Nat.le_of_ble_eq_true rfl) dX8_wish_60 ?_
            refine x_aload_n C dX8_wish_63 rfl rfl ?_
            refine x_iload_n C dX8_wish_64 rfl rfl ?_
            refine x_bipush (v := (7 : Int32)) C dX8_wish_65 (by decide) ?_
            refine x_iload_n C dX8_wish_67 rfl rfl ?_
            refine x_iconst (v := (1 : Int32)) C dX8_wish_68 (by decide) ?_
            refine x_iadd C dX8_wish_69 ?_
            obtain ⟨r23, M24, e25, hf⟩ := bd_of hf
            refine x_callVv (n := 3) (Cn := RX8) (T := TX8) (N := 13) (As := [.int a1, .int (7 : Int32), .int (r9 + (1 : Int32))]) (rest := []) (maxL := 4) (ret := none) C (c_X8_puts  e25) gX8_wish_X8_puts rfl (by decide +kernel) ⟨Nat.le_of_ble_eq_true rfl, Nat.le_of_ble_eq_true rfl⟩ tg_255 (by decide) rfl rfl rfl rfl (Nat.le_of_ble_eq_true rfl) dX8_wish_70 ?_
            refine x_iload_n C dX8_wish_73 rfl rfl ?_
            refine x_iconst (v := (1 : Int32)) C dX8_wish_74 (by decide) ?_
            refine x_iadd C dX8_wish_75 ?_
            exact x_iret C hr hf dX8_wish_76
          · have hf := iff_ q16 hf
            refine x_bipush (v := (-4 : Int32)) C dX8_wish_46 (by decide) ?_
            exact x_iret C hr hf dX8_wish_48

