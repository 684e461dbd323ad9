theorem kX8_readsList_29 : Cond.fieldLink RX8 29 "FlatLotteryModel" "told" "[I" ∈ wsX8_readsList := List.mem_of_getElem? (i := 2) rfl
theorem kX8_readsList_154 : Cond.fieldLink RX8 154 "FlatLotteryModel" "tolds" "I" ∈ wsX8_readsList := List.mem_of_getElem? (i := 1) rfl
theorem nX8_readsList_8 : ∀ w ∈ u_ws RX8 TX8 13, w ∈ wsX8_readsList := in_r [22, 23, 24, 25, 26, 27, 28, 29, 30, 31, 32, 33, 34] (by decide +kernel)
set_option maxHeartbeats 4000000 in
set_option maxRecDepth 100000 in
theorem cl_X8_readsList_51 {p : Program} {l : Launch} {e : Env} {s : State} {m : MethodId} {args : Array Value} {below : List Frame} {meth : Method} {c : Code} {D : va_G} {cs : Nat → ClassId} {ad : Nat → Nat} (C : Cx p s m args meth c RX8 cX8_readsList 4 wsX8_readsList D cs ad) (hr : meth.sig.returnType = some .boolean) {a1 : Int32} {r : Int32} {M' : Mem}  : ∀ (n : Nat) (a2 : Int32) (M : Mem), l_X8_readsList_51 a1 n a2 M = some (r, M') → V p l e (rmk 3) s m args below meth c 4 D cs ad (QI below s args D cs ad r M') 51 [some (.ref (ad 255)), some (.int a1), some (.int a2), none] [] M := by
  intro n
  induction n with
  | zero => intro a2 M hf; cases hf
  | succ n ih =>
    intro a2 M hf
    rw [l_X8_readsList_51_s] at hf
    refine x_iload_n C dX8_readsList_51 rfl rfl ?_
    refine x_if_eq (tgt := 129) C dX8_readsList_52 (by decide) (fun q14 => ?_) (fun q14 => ?_)
    · have hf := ift q14 hf
      refine x_iconst (v := (1 : Int32)) C dX8_readsList_129 (by decide) ?_
      exact x_zret C hr rfl hf dX8_readsList_130
    · have hf := iff_ q14 hf
      refine x_aload_n C dX8_readsList_55 rfl rfl ?_
      obtain ⟨r15, M16, e17, hf⟩ := bd_of hf
      refine x_callV (n := 0) (Cn := RX8) (T := TX8) (N := 13) (As := []) (rest := []) (maxL := 2) (ret := (some .int)) C (c_X8_number  e17) gX8_readsList_X8_number rfl (by decide +kernel) ⟨Nat.le_of_ble_eq_true rfl, Nat.le_of_ble_eq_true rfl⟩ tg_255 (by decide) rfl rfl rfl rfl (Nat.le_of_ble_eq_true rfl) dX8_readsList_56 ?_
      refine x_istore_n (lv' := [some (.ref (ad 255)), some (.int a1), some (.int a2), some (.int r15)]) C dX8_readsList_59 rfl (by decide) rfl ?_
      refine x_iload_n C dX8_readsList_60 rfl rfl ?_
      refine x_bipush (v := (-5 : Int32)) C dX8_readsList_61 (by decide) ?_
      refine x_icmp_ne (tgt := 68) C dX8_readsList_63 (by decide) (fun q18 => ?_) (fun q18 => ?_)
      · have hf := ift q18 hf
        refine x_iconst (v := (0 : Int32)) C dX8_readsList_66 (by decide) ?_
        exact x_zret C hr rfl hf dX8_readsList_67
      · have hf := iff_ q18 hf
        refine x_aload_n C dX8_readsList_68 rfl rfl ?_
        refine x_getr (Cn := RX8) (T := TX8) (N := 13) C tg_255 (by decide) rfl nX8_readsList_8 10 (by decide) rfl kX8_readsList_29 rfl dX8_readsList_69 262 rfl ?_
        refine x_iload_n C dX8_readsList_72 rfl rfl ?_
        refine x_iconst (v := (2 : Int32)) C dX8_readsList_73 (by decide) ?_
        refine x_iadd C dX8_readsList_74 ?_
        refine x_aload_n C dX8_readsList_75 rfl rfl ?_
        refine x_getr (Cn := RX8) (T := TX8) (N := 13) C tg_255 (by decide) rfl nX8_readsList_8 10 (by decide) rfl kX8_readsList_29 rfl dX8_readsList_76 262 rfl ?_
        refine x_iload_n C dX8_readsList_79 rfl rfl ?_
        refine x_iconst (v := (1 : Int32)) C dX8_readsList_80 (by decide) ?_
        refine x_iadd C dX8_readsList_81 ?_
        obtain ⟨g19, hf⟩ := ck_of hf
        refine x_iald (j := ((a1 + (1 : Int32))).toNatClampNeg) C tg_262 tl_262 g19 rfl dX8_readsList_82 ?_
        refine x_iadd C dX8_readsList_83 ?_
        refine x_iload_n C dX8_readsList_84 rfl rfl ?_
        obtain ⟨g20, hf⟩ := ck_of hf
        refine x_iast (j := (((a1 + (2 : Int32)) + (M16 262 ((a1 + (1 : Int32))).toNatClampNeg))).toNatClampNeg) C tg_262 tl_262 g20 rfl dX8_readsList_85 ?_
        refine x_gen hf (fun M21 hf => ?_)
        refine x_aload_n C dX8_readsList_86 rfl rfl ?_
        refine x_getr (Cn := RX8) (T := TX8) (N := 13) C tg_255 (by decide) rfl nX8_readsList_8 10 (by decide) rfl kX8_readsList_29 rfl dX8_readsList_87 262 rfl ?_
        refine x_iload_n C dX8_readsList_90 rfl rfl ?_
        refine x_iconst (v := (1 : Int32)) C dX8_readsList_91 (by decide) ?_
        refine x_iadd C dX8_readsList_92 ?_
        refine x_dup2 C dX8_readsList_93 rfl rfl ?_
        obtain ⟨g22, hf⟩ := ck_of hf
        refine x_iald (j := ((a1 + (1 : Int32))).toNatClampNeg) C tg_262 tl_262 g22 rfl dX8_readsList_94 ?_
        refine x_iconst (v := (1 : Int32)) C dX8_readsList_95 (by decide) ?_
        refine x_iadd C dX8_readsList_96 ?_
        obtain ⟨g23, hf⟩ := ck_of hf
        refine x_iast (j := ((a1 + (1 : Int32))).toNatClampNeg) C tg_262 tl_262 g23 rfl dX8_readsList_97 ?_
        refine x_gen hf (fun M24 hf => ?_)
        refine x_aload_n C dX8_readsList_98 rfl rfl ?_
        refine x_getr (Cn := RX8) (T := TX8) (N := 13) C tg_255 (by decide) rfl nX8_readsList_8 10 (by decide) rfl kX8_readsList_29 rfl dX8_readsList_99 262 rfl ?_
        refine x_iload_n C dX8_readsList_102 rfl rfl ?_
        refine x_iconst (v := (1 : Int32)) C dX8_readsList_103 (by decide) ?_
        refine x_iadd C dX8_readsList_104 ?_
        obtain ⟨g25, hf⟩ := ck_of hf
        refine x_iald (j := ((a1 + (1 : Int32))).toNatClampNeg) C tg_262 tl_262 g25 rfl dX8_readsList_105 ?_
        refine x_bipush (v := (6 : Int32)) C dX8_readsList_106 (by decide) ?_
        refine x_icmp_ge (tgt := 124) C dX8_readsList_108 (by decide) (fun q26 => ?_) (fun q26 => ?_)
        · have hf := ift q26 hf
          refine x_iconst (v := (0 : Int32)) C dX8_readsList_124 (by decide) ?_
          refine x_istore_n (lv' := [some (.ref (ad 255)), some (.int a1), some (.int (0 : Int32)), some (.int r15)]) C dX8_readsList_125 rfl (by decide) rfl ?_
          refine x_goto (tgt := 51) C dX8_readsList_126 (by decide) ?_
          exact x_weak (ih _ _ hf) [0, 1, 2] rfl
        · have hf := iff_ q26 hf
          refine x_aload_n C dX8_readsList_111 rfl rfl ?_
          refine x_bipush (v := (44 : Int32)) C dX8_readsList_112 (by decide) ?_
          obtain ⟨r27, M28, e29, hf⟩ := bd_of hf
          refine x_callV (n := 1) (Cn := RX8) (T := TX8) (N := 13) (As := [.int (44 : Int32)]) (rest := []) (maxL := 3) (ret := (some .boolean)) C (c_X8_takes  e29) gX8_readsList_X8_takes rfl (by decide +kernel) ⟨Nat.le_of_ble_eq_true rfl, Nat.le_of_ble_eq_true rfl⟩ tg_255 (by decide) rfl rfl rfl rfl (Nat.le_of_ble_eq_true rfl) dX8_readsList_114 ?_
          refine x_if_eq (tgt := 124) C dX8_readsList_117 (by decide) (fun q30 => ?_) (fun q30 => ?_)
          · have hf := ift q30 hf
            refine x_iconst (v := (0 : Int32)) C dX8_readsList_124 (by decide) ?_
            refine x_istore_n (lv' := [some (.ref (ad 255)), some (.int a1), some (.int (0 : Int32)), some (.int r15)]) C dX8_readsList_125 rfl (by decide) rfl ?_
            refine x_goto (tgt := 51) C dX8_readsList_126 (by decide) ?_
            exact x_weak (ih _ _ hf) [0, 1, 2] rfl
          · have hf := iff_ q30 hf
            refine x_iconst (v := (1 : Int32)) C dX8_readsList_120 (by decide) ?_
            refine x_goto (tgt := 125) C dX8_readsList_121 (by decide) ?_
            refine x_istore_n (lv' := [some (.ref (ad 255)), some (.int a1), some (.int (1 : Int32)), some (.int r15)]) C dX8_readsList_125 rfl (by decide) rfl ?_
            refine x_goto (tgt := 51) C dX8_readsList_126 (by decide) ?_
            exact x_weak (ih _ _ hf) [0, 1, 2] rfl

set_option maxHeartbeats 4000000 in
set_option maxRecDepth 100000 in
theorem c_X8_readsList  {M : Mem} {r : Int32} {M' : Mem}  (hf : f_X8_readsList  M = some (r, M')) : CnI yX8_readsList wsX8_readsList 3 (fun ad => [.ref (ad 255)]) M r M' := by
  unfold f_X8_readsList at hf
  refine x_metI (cc := cX8_readsList) (maxL := 4) RX8 rfl (by decide) rfl (fun ad => Nat.le_of_ble_eq_true rfl) (fun ad v hv => ?_) (fun p l e s m args below meth c D cs ad C hr => ?_)
  · simp only [List.mem_cons, List.not_mem_nil, or_false] at hv
    rcases hv with rfl <;> rfl
  · show V p l e (rmk 3) s m args below meth c 4 D cs ad (QI below s args D cs ad r M') 0 [some (.ref (ad 255)), none, none, none] [] M
    refine x_bipush (v := (8 : Int32)) C dX8_readsList_0 (by decide) ?_
    refine x_aload_n C dX8_readsList_2 rfl rfl ?_
    refine x_geti (Cn := RX8) (T := TX8) (N := 13) C tg_255 (by decide) rfl nX8_readsList_8 11 (by decide) rfl kX8_readsList_154 rfl dX8_readsList_3 ?_
    refine x_imul C dX8_readsList_6 ?_
    refine x_istore_n (lv' := [some (.ref (ad 255)), some (.int ((8 : Int32) * (M 255 11))), none, none]) C dX8_readsList_7 rfl (by decide) rfl ?_
    refine x_aload_n C dX8_readsList_8 rfl rfl ?_
    refine x_getr (Cn := RX8) (T := TX8) (N := 13) C tg_255 (by decide) rfl nX8_readsList_8 10 (by decide) rfl kX8_readsList_29 rfl dX8_readsList_9 262 rfl ?_
    refine x_iload_n C dX8_readsList_12 rfl rfl ?_
    refine x_aload_n C dX8_readsList_13 rfl rfl ?_
    obtain ⟨r1, M2, e3, hf⟩ := bd_of hf
    refine x_callV (n := 0) (Cn := RX8) (T := TX8) (N := 13) (As := []) (rest := [.int ((8 : Int32) * (M 255 11)), .ref (ad 262)]) (maxL := 2) (ret := (some .int)) C (c_X8_number  e3) gX8_readsList_X8_number rfl (by decide +kernel) ⟨Nat.le_of_ble_eq_true rfl, Nat.le_of_ble_eq_true rfl⟩ tg_255 (by decide) rfl rfl rfl rfl (Nat.le_of_ble_eq_true rfl) dX8_readsList_14 ?_
    obtain ⟨g4, hf⟩ := ck_of hf
    refine x_iast (j := (((8 : Int32) * (M 255 11))).toNatClampNeg) C tg_262 tl_262 g4 rfl dX8_readsList_17 ?_
    refine x_gen hf (fun M5 hf => ?_)
    refine x_aload_n C dX8_readsList_18 rfl rfl ?_
    refine x_getr (Cn := RX8) (T := TX8) (N := 13) C tg_255 (by decide) rfl nX8_readsList_8 10 (by decide) rfl kX8_readsList_29 rfl dX8_readsList_19 262 rfl ?_
    refine x_iload_n C dX8_readsList_22 rfl rfl ?_
    refine x_iconst (v := (1 : Int32)) C dX8_readsList_23 (by decide) ?_
    refine x_iadd C dX8_readsList_24 ?_
    refine x_iconst (v := (0 : Int32)) C dX8_readsList_25 (by decide) ?_
    obtain ⟨g6, hf⟩ := ck_of hf
    refine x_iast (j := ((((8 : Int32) * (M 255 11)) + (1 : Int32))).toNatClampNeg) C tg_262 tl_262 g6 rfl dX8_readsList_26 ?_
    refine x_gen hf (fun M7 hf => ?_)
    refine x_aload_n C dX8_readsList_27 rfl rfl ?_
    refine x_getr (Cn := RX8) (T := TX8) (N := 13) C tg_255 (by decide) rfl nX8_readsList_8 10 (by decide) rfl kX8_readsList_29 rfl dX8_readsList_28 262 rfl ?_
    refine x_iload_n C dX8_readsList_31 rfl rfl ?_
    obtain ⟨g8, hf⟩ := ck_of hf
    refine x_iald (j := (((8 : Int32) * (M 255 11))).toNatClampNeg) C tg_262 tl_262 g8 rfl dX8_readsList_32 ?_
    refine x_bipush (v := (-5 : Int32)) C dX8_readsList_33 (by decide) ?_
    refine x_icmp_eq (tgt := 47) C dX8_readsList_35 (by decide) (fun q9 => ?_) (fun q9 => ?_)
    · have hf := ift q9 hf
      refine x_iconst (v := (0 : Int32)) C dX8_readsList_47 (by decide) ?_
      exact x_zret C hr rfl hf dX8_readsList_48
    · have hf := iff_ q9 hf
      refine x_aload_n C dX8_readsList_38 rfl rfl ?_
      refine x_bipush (v := (58 : Int32)) C dX8_readsList_39 (by decide) ?_
      obtain ⟨r10, M11, e12, hf⟩ := bd_of hf
      refine x_callV (n := 1) (Cn := RX8) (T := TX8) (N := 13) (As := [.int (58 : Int32)]) (rest := []) (maxL := 3) (ret := (some .boolean)) C (c_X8_takes  e12) gX8_readsList_X8_takes rfl (by decide +kernel) ⟨Nat.le_of_ble_eq_true rfl, Nat.le_of_ble_eq_true rfl⟩ tg_255 (by decide) rfl rfl rfl rfl (Nat.le_of_ble_eq_true rfl) dX8_readsList_41 ?_
      refine x_if_ne (tgt := 49) C dX8_readsList_44 (by decide) (fun q13 => ?_) (fun q13 => ?_)
      · have hf := ift q13 hf
        refine x_iconst (v := (0 : Int32)) C dX8_readsList_47 (by decide) ?_
        exact x_zret C hr rfl hf dX8_readsList_48
      · have hf := iff_ q13 hf
        refine x_iconst (v := (1 : Int32)) C dX8_readsList_49 (by decide) ?_
        refine x_istore_n (lv' := [some (.ref (ad 255)), some (.int ((8 : Int32) * (M 255 11))), some (.int (1 : Int32)), none]) C dX8_readsList_50 rfl (by decide) rfl ?_
        exact x_weak (cl_X8_readsList_51 C hr  _ _ _ hf) [0, 1, 2] rfl

theorem kX3_findFault_29 : Cond.fieldLink RX3 29 "FlatLottery$ListText" "at" "I" ∈ wsX3_findFault := List.mem_of_getElem? (i := 1) rfl
theorem kX3_findFault_32 : Cond.fieldLink RX3 32 "FlatLottery$ListText" "listCount" "I" ∈ wsX3_findFault := List.mem_of_getElem? (i := 2) rfl
theorem nX3_findFault_3 : ∀ w ∈ u_ws RX3 TX3 7, w ∈ wsX3_findFault := in_r [25, 26, 27, 28, 29, 30, 31] (by decide +kernel)
set_option maxHeartbeats 4000000 in
set_option maxRecDepth 100000 in
theorem cl_X3_findFault_10 {p : Program} {l : Launch} {e : Env} {s : State} {m : MethodId} {args : Array Value} {below : List Frame} {meth : Method} {c : Code} {D : va_G} {cs : Nat → ClassId} {ad : Nat → Nat} (C : Cx p s m args meth c RX3 cX3_findFault 1 wsX3_findFault D cs ad) (hr : meth.sig.returnType = some .int)  {r : Int32} {M' : Mem}  : ∀ (n : Nat) (M : Mem), l_X3_findFault_10 n M = some (r, M') → V p l e (rmk 4) s m args below meth c 1 D cs ad (QI below s args D cs ad r M') 10 [some (.ref (ad 243))] [] M := by
  intro n
  induction n with
  | zero => intro M hf; cases hf
  | succ n ih =>
    intro M hf
    rw [l_X3_findFault_10_s] at hf
    refine x_aload_n C dX3_findFault_10 rfl rfl ?_
    refine x_geti (Cn := RX3) (T := TX3) (N := 7) C tg_243 (by decide) rfl nX3_findFault_3 2 (by decide) rfl kX3_findFault_32 rfl dX3_findFault_11 ?_
    refine x_bipush (v := (16 : Int32)) C dX3_findFault_14 (by decide) ?_
    refine x_icmp_ge (tgt := 79) C dX3_findFault_16 (by decide) (fun q3 => ?_) (fun q3 => ?_)
    · have hf := ift q3 hf
      refine x_aload_n C dX3_findFault_79 rfl rfl ?_
      refine x_geti (Cn := RX3) (T := TX3) (N := 7) C tg_243 (by decide) rfl nX3_findFault_3 6 (by decide) rfl kX3_findFault_29 rfl dX3_findFault_80 ?_
      exact x_iret C hr hf dX3_findFault_83
    · have hf := iff_ q3 hf
      refine x_aload_n C dX3_findFault_19 rfl rfl ?_
      obtain ⟨r4, M5, e6, hf⟩ := bd_of hf
      refine x_callV (n := 0) (Cn := RX3) (T := TX3) (N := 7) (As := []) (rest := []) (maxL := 4) (ret := (some .boolean)) C (c_X3_readList  e6) gX3_findFault_X3_readList rfl (by decide +kernel) ⟨Nat.le_of_ble_eq_true rfl, Nat.le_of_ble_eq_true rfl⟩ tg_243 (by decide) rfl rfl rfl rfl (Nat.le_of_ble_eq_true rfl) dX3_findFault_20 ?_
      refine x_if_ne (tgt := 31) C dX3_findFault_23 (by decide) (fun q7 => ?_) (fun q7 => ?_)
      · have hf := ift q7 hf
        refine x_aload_n C dX3_findFault_26 rfl rfl ?_
        refine x_geti (Cn := RX3) (T := TX3) (N := 7) C tg_243 (by decide) rfl nX3_findFault_3 6 (by decide) rfl kX3_findFault_29 rfl dX3_findFault_27 ?_
        exact x_iret C hr hf dX3_findFault_30
      · have hf := iff_ q7 hf
        refine x_aload_n C dX3_findFault_31 rfl rfl ?_
        refine x_dup C dX3_findFault_32 rfl ?_
        refine x_geti (Cn := RX3) (T := TX3) (N := 7) C tg_243 (by decide) rfl nX3_findFault_3 2 (by decide) rfl kX3_findFault_32 rfl dX3_findFault_33 ?_
        refine x_iconst (v := (1 : Int32)) C dX3_findFault_36 (by decide) ?_
        refine x_iadd C dX3_findFault_37 ?_
        refine x_puti (ty := .int) (Cn := RX3) (T := TX3) (N := 7) C tg_243 (by decide) rfl nX3_findFault_3 tyX3 tyX3_ok nmX3 2 (by decide) rfl kX3_findFault_32 rfl rfl (by decide +kernel) rfl rfl dX3_findFault_38 ?_
        refine x_gen hf (fun M8 hf => ?_)
        refine x_aload_n C dX3_findFault_41 rfl rfl ?_
        obtain ⟨r9, M10, e11, hf⟩ := bd_of hf
        refine x_callV (n := 0) (Cn := RX3) (T := TX3) (N := 7) (As := []) (rest := []) (maxL := 1) (ret := (some .int)) C (c_X3_atHand  e11) gX3_findFault_X3_atHand rfl (by decide +kernel) ⟨Nat.le_of_ble_eq_true rfl, Nat.le_of_ble_eq_true rfl⟩ tg_243 (by decide) rfl rfl rfl rfl (Nat.le_of_ble_eq_true rfl) dX3_findFault_42 ?_
        refine x_iconst (v := (-1 : Int32)) C dX3_findFault_45 (by decide) ?_
        refine x_icmp_ne (tgt := 52) C dX3_findFault_46 (by decide) (fun q12 => ?_) (fun q12 => ?_)
        · have hf := ift q12 hf
          refine x_bipush (v := (-5 : Int32)) C dX3_findFault_49 (by decide) ?_
          exact x_iret C hr hf dX3_findFault_51
        · have hf := iff_ q12 hf
          refine x_aload_n C dX3_findFault_52 rfl rfl ?_
          obtain ⟨r13, M14, e15, hf⟩ := bd_of hf
          refine x_callV (n := 0) (Cn := RX3) (T := TX3) (N := 7) (As := []) (rest := []) (maxL := 1) (ret := (some .int)) C (c_X3_atHand  e15) gX3_findFault_X3_atHand rfl (by decide +kernel) ⟨Nat.le_of_ble_eq_true rfl, Nat.le_of_ble_eq_true rfl⟩ tg_243 (by decide) rfl rfl rfl rfl (Nat.le_of_ble_eq_true rfl) dX3_findFault_53 ?_
          refine x_bipush (v := (59 : Int32)) C dX3_findFault_56 (by decide) ?_
          refine x_icmp_eq (tgt := 66) C dX3_findFault_58 (by decide) (fun q16 => ?_) (fun q16 => ?_)
          · have hf := ift q16 hf
            refine x_aload_n C dX3_findFault_66 rfl rfl ?_
            refine x_dup C dX3_findFault_67 rfl ?_
            refine x_geti (Cn := RX3) (T := TX3) (N := 7) C tg_243 (by decide) rfl nX3_findFault_3 6 (by decide) rfl kX3_findFault_29 rfl dX3_findFault_68 ?_
            refine x_iconst (v := (1 : Int32)) C dX3_findFault_71 (by decide) ?_
            refine x_iadd C dX3_findFault_72 ?_
            refine x_puti (ty := .int) (Cn := RX3) (T := TX3) (N := 7) C tg_243 (by decide) rfl nX3_findFault_3 tyX3 tyX3_ok nmX3 6 (by decide) rfl kX3_findFault_29 rfl rfl (by decide +kernel) rfl rfl dX3_findFault_73 ?_
            refine x_gen hf (fun M17 hf => ?_)
            refine x_goto (tgt := 10) C dX3_findFault_76 (by decide) ?_
            exact x_weak (ih _ hf) [0] rfl
          · have hf := iff_ q16 hf
            refine x_aload_n C dX3_findFault_61 rfl rfl ?_
            refine x_geti (Cn := RX3) (T := TX3) (N := 7) C tg_243 (by decide) rfl nX3_findFault_3 6 (by decide) rfl kX3_findFault_29 rfl dX3_findFault_62 ?_
            exact x_iret C hr hf dX3_findFault_65

set_option maxHeartbeats 4000000 in
set_option maxRecDepth 100000 in
theorem c_X3_findFault  {M : Mem} {r : Int32} {M' : Mem}  (hf : f_X3_findFault  M = some (r, M')) : CnI yX3_findFault wsX3_findFault 4 (fun ad => [.ref (ad 243)]) M r M' := by
  unfold f_X3_findFault at hf
  refine x_metI (cc := cX3_findFault) (maxL := 1) RX3 rfl (by decide) rfl (fun ad => Nat.le_of_ble_eq_true rfl) (fun ad v hv => ?_) (fun p l e s m args below meth c D cs ad C hr => ?_)
  · simp only [List.mem_cons, List.not_mem_nil, or_false] at hv
    rcases hv with rfl <;> rfl
  · show V p l e (rmk 4) s m args below meth c 1 D cs ad (QI below s args D cs ad r M') 0 [some (.ref (ad 243))] [] M
    refine x_aload_n C dX3_findFault_0 rfl rfl ?_
    refine x_iconst (v := (0 : Int32)) C dX3_findFault_1 (by decide) ?_
    refine x_puti (ty := .int) (Cn := RX3) (T := TX3) (N := 7) C tg_243 (by decide) rfl nX3_findFault_3 tyX3 tyX3_ok nmX3 6 (by decide) rfl kX3_findFault_29 rfl rfl (by decide +kernel) rfl rfl dX3_findFault_2 ?_
    refine x_gen hf (fun M1 hf => ?_)
    refine x_aload_n C dX3_findFault_5 rfl rfl ?_
    refine x_iconst (v := (0 : Int32)) C dX3_findFault_6 (by decide) ?_
    refine x_puti (ty := .int) (Cn := RX3) (T := TX3) (N := 7) C tg_243 (by decide) rfl nX3_findFault_3 tyX3 tyX3_ok nmX3 2 (by decide) rfl kX3_findFault_32 rfl rfl (by decide +kernel) rfl rfl dX3_findFault_7 ?_
    refine x_gen hf (fun M2 hf => ?_)
    exact x_weak (cl_X3_findFault_10 C hr  _ _ hf) [0] rfl

set_option maxHeartbeats 4000000 in
set_option maxRecDepth 100000 in
theorem cl_X5_swapAll_4 {p : Program} {l : Launch} {e : Env} {s : State} {m : MethodId} {args : Array Value} {below : List Frame} {meth : Method} {c : Code} {D : va_G} {cs : Nat → ClassId} {ad : Nat → Nat} (C : Cx p s m args meth c RX5 cX5_swapAll 5 wsX5_swapAll D cs ad) (hr : meth.sig.returnType = some .int) {a1 : Nat} {r : Int32} {M' : Mem} (t1 : tg a1 = 6) : ∀ (n : Nat) (a2 : Int32) (a3 : Int32) (M : Mem), l_X5_swapAll_4 a1 n a2 a3 M = some (r, M') → V p l e (rmk 4) s m args below meth c 5 D cs ad (QI below s args D cs ad r M') 4 [some (.ref (ad 248)), some (.ref (ad a1)), some (.int a2), some (.int a3), none] [] M := by
  intro n
  induction n with
  | zero => intro a2 a3 M hf; cases hf
  | succ n ih =>
    intro a2 a3 M hf
    rw [l_X5_swapAll_4_s] at hf
    refine x_iload_n C dX5_swapAll_4 rfl rfl ?_
    refine x_sipush (v := (1000 : Int32)) C dX5_swapAll_5 (by decide) ?_
    refine x_icmp_ge (tgt := 47) C dX5_swapAll_8 (by decide) (fun q1 => ?_) (fun q1 => ?_)
    · have hf := ift q1 hf
      refine x_iload_n C dX5_swapAll_47 rfl rfl ?_
      exact x_iret C hr hf dX5_swapAll_48
    · have hf := iff_ q1 hf
      refine x_aload_n C dX5_swapAll_11 rfl rfl ?_
      refine x_aload_n C dX5_swapAll_12 rfl rfl ?_
      obtain ⟨r2, M3, e4, hf⟩ := bd_of hf
      refine x_callVv (n := 1) (Cn := RX5) (T := TX5) (N := 2) (As := [.ref (ad a1)]) (rest := []) (maxL := 3) (ret := none) C (c_X5_lookAt t1 e4) gX5_swapAll_X5_lookAt rfl (by decide +kernel) ⟨Nat.le_of_ble_eq_true rfl, Nat.le_of_ble_eq_true rfl⟩ tg_248 (by decide) rfl rfl rfl rfl (Nat.le_of_ble_eq_true rfl) dX5_swapAll_13 ?_
      refine x_aload_n C dX5_swapAll_16 rfl rfl ?_
      obtain ⟨r5, M6, e7, hf⟩ := bd_of hf
      refine x_callV (n := 0) (Cn := RX5) (T := TX5) (N := 2) (As := []) (rest := []) (maxL := 2) (ret := (some .int)) C (c_X5_lowestHousehold  e7) gX5_swapAll_X5_lowestHousehold rfl (by decide +kernel) ⟨Nat.le_of_ble_eq_true rfl, Nat.le_of_ble_eq_true rfl⟩ tg_248 (by decide) rfl rfl rfl rfl (Nat.le_of_ble_eq_true rfl) dX5_swapAll_17 ?_
      refine x_istore (lv' := [some (.ref (ad 248)), some (.ref (ad a1)), some (.int a2), some (.int a3), some (.int r5)]) C dX5_swapAll_20 (by decide) rfl ?_
      refine x_iload C dX5_swapAll_22 rfl ?_
      refine x_bipush (v := (-5 : Int32)) C dX5_swapAll_24 (by decide) ?_
      refine x_icmp_ne (tgt := 31) C dX5_swapAll_26 (by decide) (fun q8 => ?_) (fun q8 => ?_)
      · have hf := ift q8 hf
        refine x_iload_n C dX5_swapAll_29 rfl rfl ?_
        exact x_iret C hr hf dX5_swapAll_30
      · have hf := iff_ q8 hf
        refine x_iload_n C dX5_swapAll_31 rfl rfl ?_
        refine x_aload_n C dX5_swapAll_32 rfl rfl ?_
        refine x_iload C dX5_swapAll_33 rfl ?_
        refine x_aload_n C dX5_swapAll_35 rfl rfl ?_
        obtain ⟨r9, M10, e11, hf⟩ := bd_of hf
        refine x_callV (n := 2) (Cn := RX5) (T := TX5) (N := 2) (As := [.int r5, .ref (ad a1)]) (rest := [.int a2]) (maxL := 7) (ret := (some .int)) C (c_X5_swapRingOf t1 e11) gX5_swapAll_X5_swapRingOf rfl (by decide +kernel) ⟨Nat.le_of_ble_eq_true rfl, Nat.le_of_ble_eq_true rfl⟩ tg_248 (by decide) rfl rfl rfl rfl (Nat.le_of_ble_eq_true rfl) dX5_swapAll_36 ?_
        refine x_iadd C dX5_swapAll_39 ?_
        refine x_istore_n (lv' := [some (.ref (ad 248)), some (.ref (ad a1)), some (.int (a2 + r9)), some (.int a3), some (.int r5)]) C dX5_swapAll_40 rfl (by decide) rfl ?_
        refine x_iinc (d := (1 : Int32)) (v := (a3 + (1 : Int32))) (lv' := [some (.ref (ad 248)), some (.ref (ad a1)), some (.int (a2 + r9)), some (.int (a3 + (1 : Int32))), some (.int r5)]) C dX5_swapAll_41 rfl (by decide) rfl (by decide) rfl ?_
        refine x_goto (tgt := 4) C dX5_swapAll_44 (by decide) ?_
        exact x_weak (ih _ _ _ hf) [0, 1, 2, 3] rfl

set_option maxHeartbeats 4000000 in
set_option maxRecDepth 100000 in
theorem c_X5_swapAll {a1 : Nat} {M : Mem} {r : Int32} {M' : Mem} (t1 : tg a1 = 6) (hf : f_X5_swapAll a1 M = some (r, M')) : CnI yX5_swapAll wsX5_swapAll 4 (fun ad => [.ref (ad 248), .ref (ad a1)]) M r M' := by
  unfold f_X5_swapAll at hf
  refine x_metI (cc := cX5_swapAll) (maxL := 5) RX5 rfl (by decide) rfl (fun ad => Nat.le_of_ble_eq_true rfl) (fun ad v hv => ?_) (fun p l e s m args below meth c D cs ad C hr => ?_)
  · simp only [List.mem_cons, List.not_mem_nil, or_false] at hv
    rcases hv with rfl | rfl <;> rfl
  · show V p l e (rmk 4) s m args below meth c 5 D cs ad (QI below s args D cs ad r M') 0 [some (.ref (ad 248)), some (.ref (ad a1)), none, none, none] [] M
    refine x_iconst (v := (0 : Int32)) C dX5_swapAll_0 (by decide) ?_
    refine x_istore_n (lv' := [some (.ref (ad 248)), some (.ref (ad a1)), some (.int (0 : Int32)), none, none]) C dX5_swapAll_1 rfl (by decide) rfl ?_
    refine x_iconst (v := (0 : Int32)) C dX5_swapAll_2 (by decide) ?_
    refine x_istore_n (lv' := [some (.ref (ad 248)), some (.ref (ad a1)), some (.int (0 : Int32)), some (.int (0 : Int32)), none]) C dX5_swapAll_3 rfl (by decide) rfl ?_
    exact x_weak (cl_X5_swapAll_4 C hr t1 _ _ _ _ hf) [0, 1, 2, 3] rfl

set_option maxHeartbeats 4000000 in
set_option maxRecDepth 100000 in
theorem c_X6_reasonHolds {a0 : Nat} {a1 : Nat} {a2 : Int32} {M : Mem} {r : Int32} {M' : Mem} (t0 : tg a0 = 6) (t1 : tg a1 = 2) (hf : f_X6_reasonHolds a0 a1 a2 M = some (r, M')) : CnI yX6_reasonHolds wsX6_reasonHolds 4 (fun ad => [.ref (ad a0), .ref (ad a1), .int a2]) M r M' := by
  unfold f_X6_reasonHolds at hf
  refine x_metI (cc := cX6_reasonHolds) (maxL := 3) RX6 rfl (by decide) rfl (fun ad => Nat.le_of_ble_eq_true rfl) (fun ad v hv => ?_) (fun p l e s m args below meth c D cs ad C hr => ?_)
  · simp only [List.mem_cons, List.not_mem_nil, or_false] at hv
    rcases hv with rfl | rfl | rfl <;> rfl
  · show V p l e (rmk 4) s m args below meth c 3 D cs ad (QI below s args D cs ad r M') 0 [some (.ref (ad a0)), some (.ref (ad a1)), some (.int a2)] [] M
    refine x_iload_n C dX6_reasonHolds_0 rfl rfl ?_
    by_cases q1 : a2 = (0 : Int32)
    · have hf := ift q1 hf
      refine x_lookup (off := 27) (tgt := 28) C dX6_reasonHolds_1 (by decide) (by rw [q1]; rfl) (by decide) ?_
      refine x_aload_n C dX6_reasonHolds_28 rfl rfl ?_
      refine x_aload_n C dX6_reasonHolds_29 rfl rfl ?_
      obtain ⟨r2, M3, e4, hf⟩ := bd_of hf
      refine x_callV (n := 1) (Cn := RX6) (T := TX6) (N := 8) (As := [.ref (ad a1)]) (rest := []) (maxL := 2) (ret := (some .boolean)) C (c_X6_isPassedOver t0 t1 e4) gX6_reasonHolds_X6_isPassedOver rfl (by decide +kernel) ⟨Nat.le_of_ble_eq_true rfl, Nat.le_of_ble_eq_true rfl⟩ t0 (by decide) rfl rfl rfl rfl (Nat.le_of_ble_eq_true rfl) dX6_reasonHolds_30 ?_
      obtain ⟨g5, hf⟩ := ck_of hf
      exact x_zret C hr (isb_nar g5) hf dX6_reasonHolds_33
    · have hf := iff_ q1 hf
      by_cases q6 : a2 = (1 : Int32)
      · have hf := ift q6 hf
        refine x_lookup (off := 33) (tgt := 34) C dX6_reasonHolds_1 (by decide) (by show Op.lookupswitch.offset [(0, 27), (1, 33)] _ _ = _; rw [lv_osw q1 (a := 0) (by decide)]; rw [q6]; rfl) (by decide) ?_
        refine x_aload_n C dX6_reasonHolds_34 rfl rfl ?_
        refine x_aload_n C dX6_reasonHolds_35 rfl rfl ?_
        obtain ⟨r7, M8, e9, hf⟩ := bd_of hf
        refine x_callV (n := 1) (Cn := RX6) (T := TX6) (N := 8) (As := [.ref (ad a1)]) (rest := []) (maxL := 2) (ret := (some .boolean)) C (c_X6_isCrowded t0 t1 e9) gX6_reasonHolds_X6_isCrowded rfl (by decide +kernel) ⟨Nat.le_of_ble_eq_true rfl, Nat.le_of_ble_eq_true rfl⟩ t0 (by decide) rfl rfl rfl rfl (Nat.le_of_ble_eq_true rfl) dX6_reasonHolds_36 ?_
        obtain ⟨g10, hf⟩ := ck_of hf
        exact x_zret C hr (isb_nar g10) hf dX6_reasonHolds_39
      · have hf := iff_ q6 hf
        refine x_lookup (off := 39) (tgt := 40) C dX6_reasonHolds_1 (by decide) (by rw [show Op.lookupswitch.offset _ _ _ = _ from lv_osw q1 (a := 0) (by decide), show Op.lookupswitch.offset _ _ _ = _ from lv_osw q6 (a := 1) (by decide)]; rfl) (by decide) ?_
        refine x_aload_n C dX6_reasonHolds_40 rfl rfl ?_
        refine x_aload_n C dX6_reasonHolds_41 rfl rfl ?_
        obtain ⟨r11, M12, e13, hf⟩ := bd_of hf
        refine x_callV (n := 1) (Cn := RX6) (T := TX6) (N := 8) (As := [.ref (ad a1)]) (rest := []) (maxL := 3) (ret := (some .boolean)) C (c_X6_isWronged t0 t1 e13) gX6_reasonHolds_X6_isWronged rfl (by decide +kernel) ⟨Nat.le_of_ble_eq_true rfl, Nat.le_of_ble_eq_true rfl⟩ t0 (by decide) rfl rfl rfl rfl (Nat.le_of_ble_eq_true rfl) dX6_reasonHolds_42 ?_
        obtain ⟨g14, hf⟩ := ck_of hf
        exact x_zret C hr (isb_nar g14) hf dX6_reasonHolds_45

theorem kX7_count_10 : Cond.fieldLink RX7 10 "FlatLottery" "state" "LFlatLottery$State;" ∈ wsX7_count := List.mem_of_getElem? (i := 1) rfl
theorem kX7_count_26 : Cond.fieldLink RX7 26 "FlatLottery" "history" "LFlatLottery$History;" ∈ wsX7_count := List.mem_of_getElem? (i := 8) rfl
theorem kX7_count_33 : Cond.fieldLink RX7 33 "FlatLottery" "text" "LFlatLottery$ListText;" ∈ wsX7_count := List.mem_of_getElem? (i := 10) rfl
theorem kX7_count_40 : Cond.fieldLink RX7 40 "FlatLottery" "rings" "LFlatLottery$Rings;" ∈ wsX7_count := List.mem_of_getElem? (i := 5) rfl
theorem kX7_count_55 : Cond.fieldLink RX7 55 "FlatLottery$State" "flatCount" "I" ∈ wsX7_count := List.mem_of_getElem? (i := 2) rfl
theorem kX7_count_75 : Cond.fieldLink RX7 75 "FlatLottery$State" "householdCount" "I" ∈ wsX7_count := List.mem_of_getElem? (i := 3) rfl
theorem kX7_count_142 : Cond.fieldLink RX7 142 "FlatLottery$State" "rounds" "I" ∈ wsX7_count := List.mem_of_getElem? (i := 4) rfl
theorem kX7_count_160 : Cond.fieldLink RX7 160 "FlatLottery$State" "declined" "I" ∈ wsX7_count := List.mem_of_getElem? (i := 7) rfl
theorem kX7_count_170 : Cond.fieldLink RX7 170 "FlatLottery$State" "refused" "I" ∈ wsX7_count := List.mem_of_getElem? (i := 6) rfl
theorem kX7_count_187 : Cond.fieldLink RX7 187 "FlatLottery$ListText" "length" "I" ∈ wsX7_count := List.mem_of_getElem? (i := 11) rfl
theorem kX7_count_190 : Cond.fieldLink RX7 190 "FlatLottery$History" "size" "I" ∈ wsX7_count := List.mem_of_getElem? (i := 9) rfl
theorem nX7_count_1 : ∀ w ∈ u_ws RX1 TX1 2, w ∈ wsX7_count := in_r [120, 121] (by decide +kernel)
theorem nX7_count_3 : ∀ w ∈ u_ws RX3 TX3 7, w ∈ wsX7_count := in_r [122, 123, 124, 125, 126, 127, 128] (by decide +kernel)
theorem nX7_count_6 : ∀ w ∈ u_ws RX6 TX6 8, w ∈ wsX7_count := in_r [112, 113, 114, 115, 116, 117, 118, 119] (by decide +kernel)
theorem nX7_count_7 : ∀ w ∈ u_ws RX7 TX7 7, w ∈ wsX7_count := in_r [105, 106, 107, 108, 109, 110, 111] (by decide +kernel)
set_option maxHeartbeats 4000000 in
set_option maxRecDepth 100000 in
theorem c_X7_count {a1 : Int32} {M : Mem} {r : Int32} {M' : Mem}  (hf : f_X7_count a1 M = some (r, M')) : CnI yX7_count wsX7_count 4 (fun ad => [.ref (ad 0), .int a1]) M r M' := by
  unfold f_X7_count at hf
  refine x_metI (cc := cX7_count) (maxL := 2) RX7 rfl (by decide) rfl (fun ad => Nat.le_of_ble_eq_true rfl) (fun ad v hv => ?_) (fun p l e s m args below meth c D cs ad C hr => ?_)
  · simp only [List.mem_cons, List.not_mem_nil, or_false] at hv
    rcases hv with rfl | rfl <;> rfl
  · show V p l e (rmk 4) s m args below meth c 2 D cs ad (QI below s args D cs ad r M') 0 [some (.ref (ad 0)), some (.int a1)] [] M
    refine x_iload_n C dX7_count_0 rfl rfl ?_
    by_cases q1 : a1 = (0 : Int32)
    · have hf := ift q1 hf
      refine x_tabIn (tgt := 68) (off := 67) C dX7_count_1 (0 : Int32) q1 (by decide) (by decide) (by decide) (by decide) ?_
      refine x_aload_n C dX7_count_68 rfl rfl ?_
      refine x_getr (Cn := RX7) (T := TX7) (N := 7) C tg_0 (by decide) rfl nX7_count_7 0 (by decide) rfl kX7_count_10 rfl dX7_count_69 1 rfl ?_
      refine x_geti (Cn := RX6) (T := TX6) (N := 8) C tg_1 (by decide) rfl nX7_count_6 2 (by decide) rfl kX7_count_55 rfl dX7_count_72 ?_
      exact x_iret C hr hf dX7_count_75
    · have hf := iff_ q1 hf
      by_cases q2 : a1 = (1 : Int32)
      · have hf := ift q2 hf
        refine x_tabIn (tgt := 76) (off := 75) C dX7_count_1 (1 : Int32) q2 (by decide) (by decide) (by decide) (by decide) ?_
        refine x_aload_n C dX7_count_76 rfl rfl ?_
        refine x_getr (Cn := RX7) (T := TX7) (N := 7) C tg_0 (by decide) rfl nX7_count_7 0 (by decide) rfl kX7_count_10 rfl dX7_count_77 1 rfl ?_
        refine x_geti (Cn := RX6) (T := TX6) (N := 8) C tg_1 (by decide) rfl nX7_count_6 3 (by decide) rfl kX7_count_75 rfl dX7_count_80 ?_
        exact x_iret C hr hf dX7_count_83
      · have hf := iff_ q2 hf
        by_cases q3 : a1 = (2 : Int32)
        · have hf := ift q3 hf
          refine x_tabIn (tgt := 84) (off := 83) C dX7_count_1 (2 : Int32) q3 (by decide) (by decide) (by decide) (by decide) ?_
          refine x_aload_n C dX7_count_84 rfl rfl ?_
          refine x_getr (Cn := RX7) (T := TX7) (N := 7) C tg_0 (by decide) rfl nX7_count_7 0 (by decide) rfl kX7_count_10 rfl dX7_count_85 1 rfl ?_
          obtain ⟨r4, M5, e6, hf⟩ := bd_of hf
          refine x_callV (n := 0) (Cn := RX6) (T := TX6) (N := 8) (As := []) (rest := []) (maxL := 3) (ret := (some .int)) C (c_X6_countHeld tg_1 e6) gX7_count_X6_countHeld rfl (by decide +kernel) ⟨Nat.le_of_ble_eq_true rfl, Nat.le_of_ble_eq_true rfl⟩ tg_1 (by decide) rfl rfl rfl rfl (Nat.le_of_ble_eq_true rfl) dX7_count_88 ?_
          exact x_iret C hr hf dX7_count_91
        · have hf := iff_ q3 hf
          by_cases q7 : a1 = (3 : Int32)
          · have hf := ift q7 hf
            refine x_tabIn (tgt := 92) (off := 91) C dX7_count_1 (3 : Int32) q7 (by decide) (by decide) (by decide) (by decide) ?_
            refine x_aload_n C dX7_count_92 rfl rfl ?_
            refine x_getr (Cn := RX7) (T := TX7) (N := 7) C tg_0 (by decide) rfl nX7_count_7 0 (by decide) rfl kX7_count_10 rfl dX7_count_93 1 rfl ?_
            refine x_geti (Cn := RX6) (T := TX6) (N := 8) C tg_1 (by decide) rfl nX7_count_6 4 (by decide) rfl kX7_count_142 rfl dX7_count_96 ?_
            exact x_iret C hr hf dX7_count_99
          · have hf := iff_ q7 hf
            by_cases q8 : a1 = (4 : Int32)
            · have hf := ift q8 hf
              refine x_tabIn (tgt := 100) (off := 99) C dX7_count_1 (4 : Int32) q8 (by decide) (by decide) (by decide) (by decide) ?_
              refine x_aload_n C dX7_count_100 rfl rfl ?_
              refine x_getr (Cn := RX7) (T := TX7) (N := 7) C tg_0 (by decide) rfl nX7_count_7 0 (by decide) rfl kX7_count_10 rfl dX7_count_101 1 rfl ?_
              obtain ⟨r9, M10, e11, hf⟩ := bd_of hf
              refine x_callV (n := 0) (Cn := RX6) (T := TX6) (N := 8) (As := []) (rest := []) (maxL := 3) (ret := (some .int)) C (c_X6_countNumbered tg_1 e11) gX7_count_X6_countNumbered rfl (by decide +kernel) ⟨Nat.le_of_ble_eq_true rfl, Nat.le_of_ble_eq_true rfl⟩ tg_1 (by decide) rfl rfl rfl rfl (Nat.le_of_ble_eq_true rfl) dX7_count_104 ?_
              exact x_iret C hr hf dX7_count_107
            · have hf := iff_ q8 hf
              by_cases q12 : a1 = (5 : Int32)
              · have hf := ift q12 hf
                refine x_tabIn (tgt := 108) (off := 107) C dX7_count_1 (5 : Int32) q12 (by decide) (by decide) (by decide) (by decide) ?_
                refine x_aload_n C dX7_count_108 rfl rfl ?_
                refine x_getr (Cn := RX7) (T := TX7) (N := 7) C tg_0 (by decide) rfl nX7_count_7 0 (by decide) rfl kX7_count_10 rfl dX7_count_109 1 rfl ?_
                refine x_iconst (v := (1 : Int32)) C dX7_count_112 (by decide) ?_
                obtain ⟨r13, M14, e15, hf⟩ := bd_of hf
                refine x_callV (n := 1) (Cn := RX6) (T := TX6) (N := 8) (As := [.int (1 : Int32)]) (rest := []) (maxL := 5) (ret := (some .int)) C (c_X6_countEnvy tg_1 e15) gX7_count_X6_countEnvy rfl (by decide +kernel) ⟨Nat.le_of_ble_eq_true rfl, Nat.le_of_ble_eq_true rfl⟩ tg_1 (by decide) rfl rfl rfl rfl (Nat.le_of_ble_eq_true rfl) dX7_count_113 ?_
                exact x_iret C hr hf dX7_count_116
              · have hf := iff_ q12 hf
                by_cases q16 : a1 = (6 : Int32)
                · have hf := ift q16 hf
                  refine x_tabIn (tgt := 117) (off := 116) C dX7_count_1 (6 : Int32) q16 (by decide) (by decide) (by decide) (by decide) ?_
                  refine x_aload_n C dX7_count_117 rfl rfl ?_
                  refine x_getr (Cn := RX7) (T := TX7) (N := 7) C tg_0 (by decide) rfl nX7_count_7 0 (by decide) rfl kX7_count_10 rfl dX7_count_118 1 rfl ?_
                  refine x_iconst (v := (2 : Int32)) C dX7_count_121 (by decide) ?_
                  obtain ⟨r17, M18, e19, hf⟩ := bd_of hf
                  refine x_callV (n := 1) (Cn := RX6) (T := TX6) (N := 8) (As := [.int (2 : Int32)]) (rest := []) (maxL := 5) (ret := (some .int)) C (c_X6_countEnvy tg_1 e19) gX7_count_X6_countEnvy rfl (by decide +kernel) ⟨Nat.le_of_ble_eq_true rfl, Nat.le_of_ble_eq_true rfl⟩ tg_1 (by decide) rfl rfl rfl rfl (Nat.le_of_ble_eq_true rfl) dX7_count_122 ?_
                  exact x_iret C hr hf dX7_count_125
                · have hf := iff_ q16 hf
                  by_cases q20 : a1 = (7 : Int32)
                  · have hf := ift q20 hf
                    refine x_tabIn (tgt := 126) (off := 125) C dX7_count_1 (7 : Int32) q20 (by decide) (by decide) (by decide) (by decide) ?_
                    refine x_aload_n C dX7_count_126 rfl rfl ?_
                    refine x_getr (Cn := RX7) (T := TX7) (N := 7) C tg_0 (by decide) rfl nX7_count_7 5 (by decide) rfl kX7_count_40 rfl dX7_count_127 248 rfl ?_
                    refine x_aload_n C dX7_count_130 rfl rfl ?_
                    refine x_getr (Cn := RX7) (T := TX7) (N := 7) C tg_0 (by decide) rfl nX7_count_7 0 (by decide) rfl kX7_count_10 rfl dX7_count_131 1 rfl ?_
                    obtain ⟨r21, M22, e23, hf⟩ := bd_of hf
                    refine x_callVv (n := 1) (Cn := RX5) (T := TX5) (N := 2) (As := [.ref (ad 1)]) (rest := []) (maxL := 3) (ret := none) C (c_X5_lookAt tg_1 e23) gX7_count_X5_lookAt rfl (by decide +kernel) ⟨Nat.le_of_ble_eq_true rfl, Nat.le_of_ble_eq_true rfl⟩ tg_248 (by decide) rfl rfl rfl rfl (Nat.le_of_ble_eq_true rfl) dX7_count_134 ?_
                    refine x_aload_n C dX7_count_137 rfl rfl ?_
                    refine x_getr (Cn := RX7) (T := TX7) (N := 7) C tg_0 (by decide) rfl nX7_count_7 5 (by decide) rfl kX7_count_40 rfl dX7_count_138 248 rfl ?_
                    obtain ⟨r24, M25, e26, hf⟩ := bd_of hf
                    refine x_callV (n := 0) (Cn := RX5) (T := TX5) (N := 2) (As := []) (rest := []) (maxL := 3) (ret := (some .int)) C (c_X5_countHouseholds  e26) gX7_count_X5_countHouseholds rfl (by decide +kernel) ⟨Nat.le_of_ble_eq_true rfl, Nat.le_of_ble_eq_true rfl⟩ tg_248 (by decide) rfl rfl rfl rfl (Nat.le_of_ble_eq_true rfl) dX7_count_141 ?_
                    exact x_iret C hr hf dX7_count_144
                  · have hf := iff_ q20 hf
                    by_cases q27 : a1 = (8 : Int32)
                    · have hf := ift q27 hf
                      refine x_tabIn (tgt := 145) (off := 144) C dX7_count_1 (8 : Int32) q27 (by decide) (by decide) (by decide) (by decide) ?_
                      refine x_aload_n C dX7_count_145 rfl rfl ?_
                      refine x_getr (Cn := RX7) (T := TX7) (N := 7) C tg_0 (by decide) rfl nX7_count_7 0 (by decide) rfl kX7_count_10 rfl dX7_count_146 1 rfl ?_
                      obtain ⟨r28, M29, e30, hf⟩ := bd_of hf
                      refine x_callV (n := 0) (Cn := RX6) (T := TX6) (N := 8) (As := []) (rest := []) (maxL := 3) (ret := (some .int)) C (c_X6_countAppeals tg_1 e30) gX7_count_X6_countAppeals rfl (by decide +kernel) ⟨Nat.le_of_ble_eq_true rfl, Nat.le_of_ble_eq_true rfl⟩ tg_1 (by decide) rfl rfl rfl rfl (Nat.le_of_ble_eq_true rfl) dX7_count_149 ?_
                      exact x_iret C hr hf dX7_count_152
                    · have hf := iff_ q27 hf
                      by_cases q31 : a1 = (9 : Int32)
                      · have hf := ift q31 hf
                        refine x_tabIn (tgt := 153) (off := 152) C dX7_count_1 (9 : Int32) q31 (by decide) (by decide) (by decide) (by decide) ?_
                        refine x_aload_n C dX7_count_153 rfl rfl ?_
                        refine x_getr (Cn := RX7) (T := TX7) (N := 7) C tg_0 (by decide) rfl nX7_count_7 0 (by decide) rfl kX7_count_10 rfl dX7_count_154 1 rfl ?_
                        refine x_geti (Cn := RX6) (T := TX6) (N := 8) C tg_1 (by decide) rfl nX7_count_6 5 (by decide) rfl kX7_count_170 rfl dX7_count_157 ?_
                        exact x_iret C hr hf dX7_count_160
                      · have hf := iff_ q31 hf
                        by_cases q32 : a1 = (10 : Int32)
                        · have hf := ift q32 hf
                          refine x_tabIn (tgt := 161) (off := 160) C dX7_count_1 (10 : Int32) q32 (by decide) (by decide) (by decide) (by decide) ?_
                          refine x_aload_n C dX7_count_161 rfl rfl ?_
                          refine x_getr (Cn := RX7) (T := TX7) (N := 7) C tg_0 (by decide) rfl nX7_count_7 0 (by decide) rfl kX7_count_10 rfl dX7_count_162 1 rfl ?_
                          refine x_geti (Cn := RX6) (T := TX6) (N := 8) C tg_1 (by decide) rfl nX7_count_6 6 (by decide) rfl kX7_count_160 rfl dX7_count_165 ?_
                          exact x_iret C hr hf dX7_count_168
                        · have hf := iff_ q32 hf
                          by_cases q33 : a1 = (11 : Int32)
                          · have hf := ift q33 hf
                            refine x_tabIn (tgt := 169) (off := 168) C dX7_count_1 (11 : Int32) q33 (by decide) (by decide) (by decide) (by decide) ?_
                            refine x_aload_n C dX7_count_169 rfl rfl ?_
                            refine x_getr (Cn := RX7) (T := TX7) (N := 7) C tg_0 (by decide) rfl nX7_count_7 3 (by decide) rfl kX7_count_26 rfl dX7_count_170 81 rfl ?_
                            refine x_geti (Cn := RX1) (T := TX1) (N := 2) C tg_81 (by decide) rfl nX7_count_1 1 (by decide) rfl kX7_count_190 rfl dX7_count_173 ?_
                            exact x_iret C hr hf dX7_count_176
                          · have hf := iff_ q33 hf
                            by_cases q34 : a1 = (12 : Int32)
                            · have hf := ift q34 hf
                              refine x_tabIn (tgt := 177) (off := 176) C dX7_count_1 (12 : Int32) q34 (by decide) (by decide) (by decide) (by decide) ?_
                              refine x_aload_n C dX7_count_177 rfl rfl ?_
                              refine x_getr (Cn := RX7) (T := TX7) (N := 7) C tg_0 (by decide) rfl nX7_count_7 4 (by decide) rfl kX7_count_33 rfl dX7_count_178 243 rfl ?_
                              refine x_geti (Cn := RX3) (T := TX3) (N := 7) C tg_243 (by decide) rfl nX7_count_3 1 (by decide) rfl kX7_count_187 rfl dX7_count_181 ?_
                              exact x_iret C hr hf dX7_count_184
                            · have hf := iff_ q34 hf
                              have zq1 := lv_neT q1 (a := 0) (by decide)
                              have zq2 := lv_neT q2 (a := 1) (by decide)
                              have zq3 := lv_neT q3 (a := 2) (by decide)
                              have zq7 := lv_neT q7 (a := 3) (by decide)
                              have zq8 := lv_neT q8 (a := 4) (by decide)
                              have zq12 := lv_neT q12 (a := 5) (by decide)
                              have zq16 := lv_neT q16 (a := 6) (by decide)
                              have zq20 := lv_neT q20 (a := 7) (by decide)
                              have zq27 := lv_neT q27 (a := 8) (by decide)
                              have zq31 := lv_neT q31 (a := 9) (by decide)
                              have zq32 := lv_neT q32 (a := 10) (by decide)
                              have zq33 := lv_neT q33 (a := 11) (by decide)
                              have zq34 := lv_neT q34 (a := 12) (by decide)
                              refine x_tabOut (tgt := 185) C dX7_count_1 (by omega) (by decide) ?_
                              refine x_bipush (v := (-2 : Int32)) C dX7_count_185 (by decide) ?_
                              exact x_iret C hr hf dX7_count_187

theorem kX7_most_10 : Cond.fieldLink RX7 10 "FlatLottery" "state" "LFlatLottery$State;" ∈ wsX7_most := List.mem_of_getElem? (i := 2) rfl
theorem kX7_most_47 : Cond.fieldLink RX7 47 "FlatLottery" "matching" "LFlatLottery$Matching;" ∈ wsX7_most := List.mem_of_getElem? (i := 1) rfl
theorem nX7_most_7 : ∀ w ∈ u_ws RX7 TX7 7, w ∈ wsX7_most := in_r [44, 45, 46, 47, 48, 49, 50] (by decide +kernel)
set_option maxHeartbeats 4000000 in
set_option maxRecDepth 100000 in
theorem c_X7_most  {M : Mem} {r : Int32} {M' : Mem}  (hf : f_X7_most  M = some (r, M')) : CnI yX7_most wsX7_most 4 (fun ad => [.ref (ad 0)]) M r M' := by
  unfold f_X7_most at hf
  refine x_metI (cc := cX7_most) (maxL := 1) RX7 rfl (by decide) rfl (fun ad => Nat.le_of_ble_eq_true rfl) (fun ad v hv => ?_) (fun p l e s m args below meth c D cs ad C hr => ?_)
  · simp only [List.mem_cons, List.not_mem_nil, or_false] at hv
    rcases hv with rfl <;> rfl
  · show V p l e (rmk 4) s m args below meth c 1 D cs ad (QI below s args D cs ad r M') 0 [some (.ref (ad 0))] [] M
    refine x_aload_n C dX7_most_0 rfl rfl ?_
    refine x_getr (Cn := RX7) (T := TX7) (N := 7) C tg_0 (by decide) rfl nX7_most_7 6 (by decide) rfl kX7_most_47 rfl dX7_most_1 250 rfl ?_
    refine x_aload_n C dX7_most_4 rfl rfl ?_
    refine x_getr (Cn := RX7) (T := TX7) (N := 7) C tg_0 (by decide) rfl nX7_most_7 0 (by decide) rfl kX7_most_10 rfl dX7_most_5 1 rfl ?_
    obtain ⟨r1, M2, e3, hf⟩ := bd_of hf
    refine x_callV (n := 1) (Cn := RX4) (T := TX4) (N := 4) (As := [.ref (ad 1)]) (rest := []) (maxL := 4) (ret := (some .int)) C (c_X4_greatest tg_1 e3) gX7_most_X4_greatest rfl (by decide +kernel) ⟨Nat.le_of_ble_eq_true rfl, Nat.le_of_ble_eq_true rfl⟩ tg_250 (by decide) rfl rfl rfl rfl (Nat.le_of_ble_eq_true rfl) dX7_most_8 ?_
    exact x_iret C hr hf dX7_most_11

theorem kX7_round_10 : Cond.fieldLink RX7 10 "FlatLottery" "state" "LFlatLottery$State;" ∈ wsX7_round := List.mem_of_getElem? (i := 1) rfl
theorem kX7_round_26 : Cond.fieldLink RX7 26 "FlatLottery" "history" "LFlatLottery$History;" ∈ wsX7_round := List.mem_of_getElem? (i := 2) rfl
theorem kX7_round_142 : Cond.fieldLink RX7 142 "FlatLottery$State" "rounds" "I" ∈ wsX7_round := List.mem_of_getElem? (i := 3) rfl
theorem nX7_round_6 : ∀ w ∈ u_ws RX6 TX6 8, w ∈ wsX7_round := in_r [103, 104, 105, 106, 107, 108, 109, 110] (by decide +kernel)
theorem nX7_round_7 : ∀ w ∈ u_ws RX7 TX7 7, w ∈ wsX7_round := in_r [96, 97, 98, 99, 100, 101, 102] (by decide +kernel)
set_option maxHeartbeats 4000000 in
set_option maxRecDepth 100000 in
theorem c_X7_round  {M : Mem} {r : Int32} {M' : Mem}  (hf : f_X7_round  M = some (r, M')) : CnI yX7_round wsX7_round 4 (fun ad => [.ref (ad 0)]) M r M' := by
  unfold f_X7_round at hf
  refine x_metI (cc := cX7_round) (maxL := 1) RX7 rfl (by decide) rfl (fun ad => Nat.le_of_ble_eq_true rfl) (fun ad v hv => ?_) (fun p l e s m args below meth c D cs ad C hr => ?_)
  · simp only [List.mem_cons, List.not_mem_nil, or_false] at hv
    rcases hv with rfl <;> rfl
  · show V p l e (rmk 4) s m args below meth c 1 D cs ad (QI below s args D cs ad r M') 0 [some (.ref (ad 0))] [] M
    refine x_aload_n C dX7_round_0 rfl rfl ?_
    refine x_getr (Cn := RX7) (T := TX7) (N := 7) C tg_0 (by decide) rfl nX7_round_7 0 (by decide) rfl kX7_round_10 rfl dX7_round_1 1 rfl ?_
    obtain ⟨r1, M2, e3, hf⟩ := bd_of hf
    refine x_callV (n := 0) (Cn := RX6) (T := TX6) (N := 8) (As := []) (rest := []) (maxL := 3) (ret := (some .int)) C (c_X6_countNumbered tg_1 e3) gX7_round_X6_countNumbered rfl (by decide +kernel) ⟨Nat.le_of_ble_eq_true rfl, Nat.le_of_ble_eq_true rfl⟩ tg_1 (by decide) rfl rfl rfl rfl (Nat.le_of_ble_eq_true rfl) dX7_round_4 ?_
    refine x_if_ne (tgt := 13) C dX7_round_7 (by decide) (fun q4 => ?_) (fun q4 => ?_)
    · have hf := ift q4 hf
      refine x_bipush (v := (-4 : Int32)) C dX7_round_10 (by decide) ?_
      exact x_iret C hr hf dX7_round_12
    · have hf := iff_ q4 hf
      refine x_aload_n C dX7_round_13 rfl rfl ?_
      refine x_getr (Cn := RX7) (T := TX7) (N := 7) C tg_0 (by decide) rfl nX7_round_7 3 (by decide) rfl kX7_round_26 rfl dX7_round_14 81 rfl ?_
      refine x_aload_n C dX7_round_17 rfl rfl ?_
      refine x_getr (Cn := RX7) (T := TX7) (N := 7) C tg_0 (by decide) rfl nX7_round_7 0 (by decide) rfl kX7_round_10 rfl dX7_round_18 1 rfl ?_
      obtain ⟨r5, M6, e7, hf⟩ := bd_of hf
      refine x_callVv (n := 1) (Cn := RX1) (T := TX1) (N := 2) (As := [.ref (ad 1)]) (rest := []) (maxL := 2) (ret := none) C (c_X1_record tg_1 e7) gX7_round_X1_record rfl (by decide +kernel) ⟨Nat.le_of_ble_eq_true rfl, Nat.le_of_ble_eq_true rfl⟩ tg_81 (by decide) rfl rfl rfl rfl (Nat.le_of_ble_eq_true rfl) dX7_round_21 ?_
      refine x_aload_n C dX7_round_24 rfl rfl ?_
      refine x_getr (Cn := RX7) (T := TX7) (N := 7) C tg_0 (by decide) rfl nX7_round_7 0 (by decide) rfl kX7_round_10 rfl dX7_round_25 1 rfl ?_
      refine x_dup C dX7_round_28 rfl ?_
      refine x_geti (Cn := RX6) (T := TX6) (N := 8) C tg_1 (by decide) rfl nX7_round_6 4 (by decide) rfl kX7_round_142 rfl dX7_round_29 ?_
      refine x_iconst (v := (1 : Int32)) C dX7_round_32 (by decide) ?_
      refine x_iadd C dX7_round_33 ?_
      refine x_puti (ty := .int) (Cn := RX6) (T := TX6) (N := 8) C tg_1 (by decide) rfl nX7_round_6 tyX6 tyX6_ok nmX6 4 (by decide) rfl kX7_round_142 rfl rfl (by decide +kernel) rfl rfl dX7_round_34 ?_
      refine x_gen hf (fun M8 hf => ?_)
      refine x_aload_n C dX7_round_37 rfl rfl ?_
      refine x_getr (Cn := RX7) (T := TX7) (N := 7) C tg_0 (by decide) rfl nX7_round_7 0 (by decide) rfl kX7_round_10 rfl dX7_round_38 1 rfl ?_
      obtain ⟨r9, M10, e11, hf⟩ := bd_of hf
      refine x_callV (n := 0) (Cn := RX6) (T := TX6) (N := 8) (As := []) (rest := []) (maxL := 7) (ret := (some .int)) C (c_X6_giveFlatsInOrder tg_1 e11) gX7_round_X6_giveFlatsInOrder rfl (by decide +kernel) ⟨Nat.le_of_ble_eq_true rfl, Nat.le_of_ble_eq_true rfl⟩ tg_1 (by decide) rfl rfl rfl rfl (Nat.le_of_ble_eq_true rfl) dX7_round_41 ?_
      exact x_iret C hr hf dX7_round_44

theorem kX7_wouldGet_10 : Cond.fieldLink RX7 10 "FlatLottery" "state" "LFlatLottery$State;" ∈ wsX7_wouldGet := List.mem_of_getElem? (i := 1) rfl
theorem nX7_wouldGet_7 : ∀ w ∈ u_ws RX7 TX7 7, w ∈ wsX7_wouldGet := in_r [54, 55, 56, 57, 58, 59, 60] (by decide +kernel)
set_option maxHeartbeats 4000000 in
set_option maxRecDepth 100000 in
theorem c_X7_wouldGet {a1 : Int32} {a2 : Int32} {M : Mem} {r : Int32} {M' : Mem}  (hf : f_X7_wouldGet a1 a2 M = some (r, M')) : CnI yX7_wouldGet wsX7_wouldGet 4 (fun ad => [.ref (ad 0), .int a1, .int a2]) M r M' := by
  unfold f_X7_wouldGet at hf
  refine x_metI (cc := cX7_wouldGet) (maxL := 3) RX7 rfl (by decide) rfl (fun ad => Nat.le_of_ble_eq_true rfl) (fun ad v hv => ?_) (fun p l e s m args below meth c D cs ad C hr => ?_)
  · simp only [List.mem_cons, List.not_mem_nil, or_false] at hv
    rcases hv with rfl | rfl | rfl <;> rfl
  · show V p l e (rmk 4) s m args below meth c 3 D cs ad (QI below s args D cs ad r M') 0 [some (.ref (ad 0)), some (.int a1), some (.int a2)] [] M
    refine x_aload_n C dX7_wouldGet_0 rfl rfl ?_
    refine x_getr (Cn := RX7) (T := TX7) (N := 7) C tg_0 (by decide) rfl nX7_wouldGet_7 0 (by decide) rfl kX7_wouldGet_10 rfl dX7_wouldGet_1 1 rfl ?_
    refine x_iload_n C dX7_wouldGet_4 rfl rfl ?_
    obtain ⟨r1, M2, e3, hf⟩ := bd_of hf
    refine x_callV (n := 1) (Cn := RX6) (T := TX6) (N := 8) (As := [.int a1]) (rest := []) (maxL := 2) (ret := (some .boolean)) C (c_X6_hasHousehold tg_1 e3) gX7_wouldGet_X6_hasHousehold rfl (by decide +kernel) ⟨Nat.le_of_ble_eq_true rfl, Nat.le_of_ble_eq_true rfl⟩ tg_1 (by decide) rfl rfl rfl rfl (Nat.le_of_ble_eq_true rfl) dX7_wouldGet_5 ?_
    refine x_if_ne (tgt := 13) C dX7_wouldGet_8 (by decide) (fun q4 => ?_) (fun q4 => ?_)
    · have hf := ift q4 hf
      refine x_iconst (v := (-1 : Int32)) C dX7_wouldGet_11 (by decide) ?_
      exact x_iret C hr hf dX7_wouldGet_12
    · have hf := iff_ q4 hf
      refine x_iload_n C dX7_wouldGet_13 rfl rfl ?_
      refine x_bipush (v := (-5 : Int32)) C dX7_wouldGet_14 (by decide) ?_
      refine x_icmp_eq (tgt := 32) C dX7_wouldGet_16 (by decide) (fun q5 => ?_) (fun q5 => ?_)
      · have hf := ift q5 hf
        refine x_aload_n C dX7_wouldGet_32 rfl rfl ?_
        refine x_getr (Cn := RX7) (T := TX7) (N := 7) C tg_0 (by decide) rfl nX7_wouldGet_7 0 (by decide) rfl kX7_wouldGet_10 rfl dX7_wouldGet_33 1 rfl ?_
        refine x_iload_n C dX7_wouldGet_36 rfl rfl ?_
        refine x_iload_n C dX7_wouldGet_37 rfl rfl ?_
        obtain ⟨r6, M7, e8, hf⟩ := bd_of hf
        refine x_callV (n := 2) (Cn := RX6) (T := TX6) (N := 8) (As := [.int a1, .int a2]) (rest := []) (maxL := 8) (ret := (some .int)) C (c_X6_flatIfAllWereFree tg_1 e8) gX7_wouldGet_X6_flatIfAllWereFree rfl (by decide +kernel) ⟨Nat.le_of_ble_eq_true rfl, Nat.le_of_ble_eq_true rfl⟩ tg_1 (by decide) rfl rfl rfl rfl (Nat.le_of_ble_eq_true rfl) dX7_wouldGet_38 ?_
        exact x_iret C hr hf dX7_wouldGet_41
      · have hf := iff_ q5 hf
        refine x_aload_n C dX7_wouldGet_19 rfl rfl ?_
        refine x_getr (Cn := RX7) (T := TX7) (N := 7) C tg_0 (by decide) rfl nX7_wouldGet_7 0 (by decide) rfl kX7_wouldGet_10 rfl dX7_wouldGet_20 1 rfl ?_
        refine x_iload_n C dX7_wouldGet_23 rfl rfl ?_
        obtain ⟨r9, M10, e11, hf⟩ := bd_of hf
        refine x_callV (n := 1) (Cn := RX6) (T := TX6) (N := 8) (As := [.int a2]) (rest := []) (maxL := 2) (ret := (some .boolean)) C (c_X6_hasHousehold tg_1 e11) gX7_wouldGet_X6_hasHousehold rfl (by decide +kernel) ⟨Nat.le_of_ble_eq_true rfl, Nat.le_of_ble_eq_true rfl⟩ tg_1 (by decide) rfl rfl rfl rfl (Nat.le_of_ble_eq_true rfl) dX7_wouldGet_24 ?_
        refine x_if_ne (tgt := 32) C dX7_wouldGet_27 (by decide) (fun q12 => ?_) (fun q12 => ?_)
        · have hf := ift q12 hf
          refine x_iconst (v := (-1 : Int32)) C dX7_wouldGet_30 (by decide) ?_
          exact x_iret C hr hf dX7_wouldGet_31
        · have hf := iff_ q12 hf
          refine x_aload_n C dX7_wouldGet_32 rfl rfl ?_
          refine x_getr (Cn := RX7) (T := TX7) (N := 7) C tg_0 (by decide) rfl nX7_wouldGet_7 0 (by decide) rfl kX7_wouldGet_10 rfl dX7_wouldGet_33 1 rfl ?_
          refine x_iload_n C dX7_wouldGet_36 rfl rfl ?_
          refine x_iload_n C dX7_wouldGet_37 rfl rfl ?_
          obtain ⟨r13, M14, e15, hf⟩ := bd_of hf
          refine x_callV (n := 2) (Cn := RX6) (T := TX6) (N := 8) (As := [.int a1, .int a2]) (rest := []) (maxL := 8) (ret := (some .int)) C (c_X6_flatIfAllWereFree tg_1 e15) gX7_wouldGet_X6_flatIfAllWereFree rfl (by decide +kernel) ⟨Nat.le_of_ble_eq_true rfl, Nat.le_of_ble_eq_true rfl⟩ tg_1 (by decide) rfl rfl rfl rfl (Nat.le_of_ble_eq_true rfl) dX7_wouldGet_38 ?_
          exact x_iret C hr hf dX7_wouldGet_41

theorem kX8_at_7 : Cond.fieldLink RX8 7 "FlatLotteryModel" "s" "[I" ∈ wsX8_at := List.mem_of_getElem? (i := 1) rfl
theorem nX8_at_8 : ∀ w ∈ u_ws RX8 TX8 13, w ∈ wsX8_at := in_r [19, 20, 21, 22, 23, 24, 25, 26, 27, 28, 29, 30, 31] (by decide +kernel)
set_option maxHeartbeats 4000000 in
set_option maxRecDepth 100000 in
theorem cl_X8_at_5 {p : Program} {l : Launch} {e : Env} {s : State} {m : MethodId} {args : Array Value} {below : List Frame} {meth : Method} {c : Code} {D : va_G} {cs : Nat → ClassId} {ad : Nat → Nat} (C : Cx p s m args meth c RX8 cX8_at 4 wsX8_at D cs ad) (hr : meth.sig.returnType = some .int) {a1 : Int32} {r : Int32} {M' : Mem}  : ∀ (n : Nat) (a2 : Int32) (a3 : Int32) (M : Mem), l_X8_at_5 a1 n a2 a3 M = some (r, M') → V p l e (rmk 4) s m args below meth c 4 D cs ad (QI below s args D cs ad r M') 5 [some (.ref (ad 255)), some (.int a1), some (.int a2), some (.int a3)] [] M := by
  intro n
  induction n with
  | zero => intro a2 a3 M hf; cases hf
  | succ n ih =>
    intro a2 a3 M hf
    rw [l_X8_at_5_s] at hf
    refine x_iload_n C dX8_at_5 rfl rfl ?_
    refine x_aload_n C dX8_at_6 rfl rfl ?_
    refine x_getr (Cn := RX8) (T := TX8) (N := 13) C tg_255 (by decide) rfl nX8_at_8 0 (by decide) rfl kX8_at_7 rfl dX8_at_7 256 rfl ?_
    refine x_iconst (v := (1 : Int32)) C dX8_at_10 (by decide) ?_
    refine x_iald (j := 1) C tg_256 tl_256 (by decide) (by decide) dX8_at_11 ?_
    refine x_icmp_ge (tgt := 44) C dX8_at_12 (by decide) (fun q1 => ?_) (fun q1 => ?_)
    · have hf := ift q1 hf
      refine x_iload_n C dX8_at_44 rfl rfl ?_
      exact x_iret C hr hf dX8_at_45
    · have hf := iff_ q1 hf
      refine x_aload_n C dX8_at_15 rfl rfl ?_
      refine x_iload_n C dX8_at_16 rfl rfl ?_
      obtain ⟨r2, M3, e4, hf⟩ := bd_of hf
      refine x_callV (n := 1) (Cn := RX8) (T := TX8) (N := 13) (As := [.int a3]) (rest := []) (maxL := 2) (ret := (some .boolean)) C (c_X8_isDrawn  e4) gX8_at_X8_isDrawn rfl (by decide +kernel) ⟨Nat.le_of_ble_eq_true rfl, Nat.le_of_ble_eq_true rfl⟩ tg_255 (by decide) rfl rfl rfl rfl (Nat.le_of_ble_eq_true rfl) dX8_at_17 ?_
      refine x_if_eq (tgt := 36) C dX8_at_20 (by decide) (fun q5 => ?_) (fun q5 => ?_)
      · have hf := ift q5 hf
        refine x_iload_n C dX8_at_36 rfl rfl ?_
        refine x_istore_n (lv' := [some (.ref (ad 255)), some (.int a1), some (.int a2), some (.int a3)]) C dX8_at_37 rfl (by decide) rfl ?_
        refine x_iinc (d := (1 : Int32)) (v := (a3 + (1 : Int32))) (lv' := [some (.ref (ad 255)), some (.int a1), some (.int a2), some (.int (a3 + (1 : Int32)))]) C dX8_at_38 rfl (by decide) rfl (by decide) rfl ?_
        refine x_goto (tgt := 5) C dX8_at_41 (by decide) ?_
        exact x_weak (ih _ _ _ hf) [0, 1, 2, 3] rfl
      · have hf := iff_ q5 hf
        refine x_aload_n C dX8_at_23 rfl rfl ?_
        refine x_iload_n C dX8_at_24 rfl rfl ?_
        obtain ⟨r6, M7, e8, hf⟩ := bd_of hf
        refine x_callV (n := 1) (Cn := RX8) (T := TX8) (N := 13) (As := [.int a3]) (rest := []) (maxL := 4) (ret := (some .int)) C (c_X8_placeOf  e8) gX8_at_X8_placeOf rfl (by decide +kernel) ⟨Nat.le_of_ble_eq_true rfl, Nat.le_of_ble_eq_true rfl⟩ tg_255 (by decide) rfl rfl rfl rfl (Nat.le_of_ble_eq_true rfl) dX8_at_25 ?_
        refine x_iload_n C dX8_at_28 rfl rfl ?_
        refine x_icmp_ne (tgt := 36) C dX8_at_29 (by decide) (fun q9 => ?_) (fun q9 => ?_)
        · have hf := ift q9 hf
          refine x_iload_n C dX8_at_32 rfl rfl ?_
          refine x_goto (tgt := 37) C dX8_at_33 (by decide) ?_
          refine x_istore_n (lv' := [some (.ref (ad 255)), some (.int a1), some (.int a3), some (.int a3)]) C dX8_at_37 rfl (by decide) rfl ?_
          refine x_iinc (d := (1 : Int32)) (v := (a3 + (1 : Int32))) (lv' := [some (.ref (ad 255)), some (.int a1), some (.int a3), some (.int (a3 + (1 : Int32)))]) C dX8_at_38 rfl (by decide) rfl (by decide) rfl ?_
          refine x_goto (tgt := 5) C dX8_at_41 (by decide) ?_
          exact x_weak (ih _ _ _ hf) [0, 1, 2, 3] rfl
        · have hf := iff_ q9 hf
          refine x_iload_n C dX8_at_36 rfl rfl ?_
          refine x_istore_n (lv' := [some (.ref (ad 255)), some (.int a1), some (.int a2), some (.int a3)]) C dX8_at_37 rfl (by decide) rfl ?_
          refine x_iinc (d := (1 : Int32)) (v := (a3 + (1 : Int32))) (lv' := [some (.ref (ad 255)), some (.int a1), some (.int a2), some (.int (a3 + (1 : Int32)))]) C dX8_at_38 rfl (by decide) rfl (by decide) rfl ?_
          refine x_goto (tgt := 5) C dX8_at_41 (by decide) ?_
          exact x_weak (ih _ _ _ hf) [0, 1, 2, 3] rfl

set_option maxHeartbeats 4000000 in
set_option maxRecDepth 100000 in
theorem c_X8_at {a1 : Int32} {M : Mem} {r : Int32} {M' : Mem}  (hf : f_X8_at a1 M = some (r, M')) : CnI yX8_at wsX8_at 4 (fun ad => [.ref (ad 255), .int a1]) M r M' := by
  unfold f_X8_at at hf
  refine x_metI (cc := cX8_at) (maxL := 4) RX8 rfl (by decide) rfl (fun ad => Nat.le_of_ble_eq_true rfl) (fun ad v hv => ?_) (fun p l e s m args below meth c D cs ad C hr => ?_)
  · simp only [List.mem_cons, List.not_mem_nil, or_false] at hv
    rcases hv with rfl | rfl <;> rfl
  · show V p l e (rmk 4) s m args below meth c 4 D cs ad (QI below s args D cs ad r M') 0 [some (.ref (ad 255)), some (.int a1), none, none] [] M
    refine x_bipush (v := (-5 : Int32)) C dX8_at_0 (by decide) ?_
    refine x_istore_n (lv' := [some (.ref (ad 255)), some (.int a1), some (.int (-5 : Int32)), none]) C dX8_at_2 rfl (by decide) rfl ?_
    refine x_iconst (v := (0 : Int32)) C dX8_at_3 (by decide) ?_
    refine x_istore_n (lv' := [some (.ref (ad 255)), some (.int a1), some (.int (-5 : Int32)), some (.int (0 : Int32))]) C dX8_at_4 rfl (by decide) rfl ?_
    exact x_weak (cl_X8_at_5 C hr  _ _ _ _ hf) [0, 1, 2, 3] rfl

set_option maxHeartbeats 4000000 in
set_option maxRecDepth 100000 in
theorem c_X8_envy {a1 : Int32} {a2 : Int32} {M : Mem} {r : Int32} {M' : Mem}  (hf : f_X8_envy a1 a2 M = some (r, M')) : CnI yX8_envy wsX8_envy 4 (fun ad => [.ref (ad 255), .int a1, .int a2]) M r M' := by
  unfold f_X8_envy at hf
  refine x_metI (cc := cX8_envy) (maxL := 3) RX8 rfl (by decide) rfl (fun ad => Nat.le_of_ble_eq_true rfl) (fun ad v hv => ?_) (fun p l e s m args below meth c D cs ad C hr => ?_)
  · simp only [List.mem_cons, List.not_mem_nil, or_false] at hv
    rcases hv with rfl | rfl | rfl <;> rfl
  · show V p l e (rmk 4) s m args below meth c 3 D cs ad (QI below s args D cs ad r M') 0 [some (.ref (ad 255)), some (.int a1), some (.int a2)] [] M
    refine x_aload_n C dX8_envy_0 rfl rfl ?_
    refine x_iload_n C dX8_envy_1 rfl rfl ?_
    refine x_iload_n C dX8_envy_2 rfl rfl ?_
    obtain ⟨r1, M2, e3, hf⟩ := bd_of hf
    refine x_callV (n := 2) (Cn := RX8) (T := TX8) (N := 13) (As := [.int a1, .int a2]) (rest := []) (maxL := 4) (ret := (some .boolean)) C (c_X8_doesEnvy  e3) gX8_envy_X8_doesEnvy rfl (by decide +kernel) ⟨Nat.le_of_ble_eq_true rfl, Nat.le_of_ble_eq_true rfl⟩ tg_255 (by decide) rfl rfl rfl rfl (Nat.le_of_ble_eq_true rfl) dX8_envy_3 ?_
    refine x_if_ne (tgt := 13) C dX8_envy_6 (by decide) (fun q4 => ?_) (fun q4 => ?_)
    · have hf := ift q4 hf
      refine x_iconst (v := (0 : Int32)) C dX8_envy_9 (by decide) ?_
      refine x_goto (tgt := 27) C dX8_envy_10 (by decide) ?_
      exact x_iret C hr hf dX8_envy_27
    · have hf := iff_ q4 hf
      refine x_aload_n C dX8_envy_13 rfl rfl ?_
      refine x_iload_n C dX8_envy_14 rfl rfl ?_
      refine x_iload_n C dX8_envy_15 rfl rfl ?_
      obtain ⟨r5, M6, e7, hf⟩ := bd_of hf
      refine x_callV (n := 2) (Cn := RX8) (T := TX8) (N := 13) (As := [.int a1, .int a2]) (rest := []) (maxL := 4) (ret := (some .boolean)) C (c_X8_isAhead  e7) gX8_envy_X8_isAhead rfl (by decide +kernel) ⟨Nat.le_of_ble_eq_true rfl, Nat.le_of_ble_eq_true rfl⟩ tg_255 (by decide) rfl rfl rfl rfl (Nat.le_of_ble_eq_true rfl) dX8_envy_16 ?_
      refine x_if_eq (tgt := 26) C dX8_envy_19 (by decide) (fun q8 => ?_) (fun q8 => ?_)
      · have hf := ift q8 hf
        refine x_iconst (v := (1 : Int32)) C dX8_envy_26 (by decide) ?_
        exact x_iret C hr hf dX8_envy_27
      · have hf := iff_ q8 hf
        refine x_iconst (v := (2 : Int32)) C dX8_envy_22 (by decide) ?_
        refine x_goto (tgt := 27) C dX8_envy_23 (by decide) ?_
        exact x_iret C hr hf dX8_envy_27

set_option maxHeartbeats 4000000 in
set_option maxRecDepth 100000 in
theorem c_X8_household {a1 : Int32} {a2 : Int32} {M : Mem} {r : Int32} {M' : Mem}  (hf : f_X8_household a1 a2 M = some (r, M')) : CnI yX8_household wsX8_household 4 (fun ad => [.ref (ad 255), .int a1, .int a2]) M r M' := by
  unfold f_X8_household at hf
  refine x_metI (cc := cX8_household) (maxL := 3) RX8 rfl (by decide) rfl (fun ad => Nat.le_of_ble_eq_true rfl) (fun ad v hv => ?_) (fun p l e s m args below meth c D cs ad C hr => ?_)
  · simp only [List.mem_cons, List.not_mem_nil, or_false] at hv
    rcases hv with rfl | rfl | rfl <;> rfl
  · show V p l e (rmk 4) s m args below meth c 3 D cs ad (QI below s args D cs ad r M') 0 [some (.ref (ad 255)), some (.int a1), some (.int a2)] [] M
    refine x_aload_n C dX8_household_0 rfl rfl ?_
    refine x_iload_n C dX8_household_1 rfl rfl ?_
    obtain ⟨r1, M2, e3, hf⟩ := bd_of hf
    refine x_callV (n := 1) (Cn := RX8) (T := TX8) (N := 13) (As := [.int a1]) (rest := []) (maxL := 2) (ret := (some .boolean)) C (c_X8_isHome  e3) gX8_household_X8_isHome rfl (by decide +kernel) ⟨Nat.le_of_ble_eq_true rfl, Nat.le_of_ble_eq_true rfl⟩ tg_255 (by decide) rfl rfl rfl rfl (Nat.le_of_ble_eq_true rfl) dX8_household_2 ?_
    refine x_if_ne (tgt := 10) C dX8_household_5 (by decide) (fun q4 => ?_) (fun q4 => ?_)
    · have hf := ift q4 hf
      refine x_iconst (v := (-1 : Int32)) C dX8_household_8 (by decide) ?_
      exact x_iret C hr hf dX8_household_9
    · have hf := iff_ q4 hf
      refine x_iload_n C dX8_household_10 rfl rfl ?_
      by_cases q5 : a2 = (0 : Int32)
      · have hf := ift q5 hf
        refine x_tabIn (tgt := 64) (off := 53) C dX8_household_11 (0 : Int32) q5 (by decide) (by decide) (by decide) (by decide) ?_
        refine x_aload_n C dX8_household_64 rfl rfl ?_
        refine x_iload_n C dX8_household_65 rfl rfl ?_
        refine x_iload_n C dX8_household_66 rfl rfl ?_
        obtain ⟨r6, M7, e8, hf⟩ := bd_of hf
        refine x_callV (n := 2) (Cn := RX8) (T := TX8) (N := 13) (As := [.int a1, .int a2]) (rest := []) (maxL := 3) (ret := (some .int)) C (c_X8_of  e8) gX8_household_X8_of rfl (by decide +kernel) ⟨Nat.le_of_ble_eq_true rfl, Nat.le_of_ble_eq_true rfl⟩ tg_255 (by decide) rfl rfl rfl rfl (Nat.le_of_ble_eq_true rfl) dX8_household_67 ?_
        exact x_iret C hr hf dX8_household_70
      · have hf := iff_ q5 hf
        by_cases q9 : a2 = (1 : Int32)
        · have hf := ift q9 hf
          refine x_tabIn (tgt := 64) (off := 53) C dX8_household_11 (1 : Int32) q9 (by decide) (by decide) (by decide) (by decide) ?_
          refine x_aload_n C dX8_household_64 rfl rfl ?_
          refine x_iload_n C dX8_household_65 rfl rfl ?_
          refine x_iload_n C dX8_household_66 rfl rfl ?_
          obtain ⟨r10, M11, e12, hf⟩ := bd_of hf
          refine x_callV (n := 2) (Cn := RX8) (T := TX8) (N := 13) (As := [.int a1, .int a2]) (rest := []) (maxL := 3) (ret := (some .int)) C (c_X8_of  e12) gX8_household_X8_of rfl (by decide +kernel) ⟨Nat.le_of_ble_eq_true rfl, Nat.le_of_ble_eq_true rfl⟩ tg_255 (by decide) rfl rfl rfl rfl (Nat.le_of_ble_eq_true rfl) dX8_household_67 ?_
          exact x_iret C hr hf dX8_household_70
        · have hf := iff_ q9 hf
          by_cases q13 : a2 = (2 : Int32)
          · have hf := ift q13 hf
            refine x_tabIn (tgt := 71) (off := 60) C dX8_household_11 (2 : Int32) q13 (by decide) (by decide) (by decide) (by decide) ?_
            refine x_aload_n C dX8_household_71 rfl rfl ?_
            refine x_iload_n C dX8_household_72 rfl rfl ?_
            obtain ⟨r14, M15, e16, hf⟩ := bd_of hf
            refine x_callV (n := 1) (Cn := RX8) (T := TX8) (N := 13) (As := [.int a1]) (rest := []) (maxL := 2) (ret := (some .boolean)) C (c_X8_isDrawn  e16) gX8_household_X8_isDrawn rfl (by decide +kernel) ⟨Nat.le_of_ble_eq_true rfl, Nat.le_of_ble_eq_true rfl⟩ tg_255 (by decide) rfl rfl rfl rfl (Nat.le_of_ble_eq_true rfl) dX8_household_73 ?_
            refine x_if_eq (tgt := 88) C dX8_household_76 (by decide) (fun q17 => ?_) (fun q17 => ?_)
            · have hf := ift q17 hf
              refine x_bipush (v := (-5 : Int32)) C dX8_household_88 (by decide) ?_
              exact x_iret C hr hf dX8_household_90
            · have hf := iff_ q17 hf
              refine x_aload_n C dX8_household_79 rfl rfl ?_
              refine x_iload_n C dX8_household_80 rfl rfl ?_
              refine x_iconst (v := (2 : Int32)) C dX8_household_81 (by decide) ?_
              obtain ⟨r18, M19, e20, hf⟩ := bd_of hf
              refine x_callV (n := 2) (Cn := RX8) (T := TX8) (N := 13) (As := [.int a1, .int (2 : Int32)]) (rest := []) (maxL := 3) (ret := (some .int)) C (c_X8_of  e20) gX8_household_X8_of rfl (by decide +kernel) ⟨Nat.le_of_ble_eq_true rfl, Nat.le_of_ble_eq_true rfl⟩ tg_255 (by decide) rfl rfl rfl rfl (Nat.le_of_ble_eq_true rfl) dX8_household_82 ?_
              refine x_goto (tgt := 90) C dX8_household_85 (by decide) ?_
              exact x_iret C hr hf dX8_household_90
          · have hf := iff_ q13 hf
            by_cases q21 : a2 = (3 : Int32)
            · have hf := ift q21 hf
              refine x_tabIn (tgt := 91) (off := 80) C dX8_household_11 (3 : Int32) q21 (by decide) (by decide) (by decide) (by decide) ?_
              refine x_aload_n C dX8_household_91 rfl rfl ?_
              refine x_iload_n C dX8_household_92 rfl rfl ?_
              refine x_iload_n C dX8_household_93 rfl rfl ?_
              obtain ⟨r22, M23, e24, hf⟩ := bd_of hf
              refine x_callV (n := 2) (Cn := RX8) (T := TX8) (N := 13) (As := [.int a1, .int a2]) (rest := []) (maxL := 3) (ret := (some .int)) C (c_X8_of  e24) gX8_household_X8_of rfl (by decide +kernel) ⟨Nat.le_of_ble_eq_true rfl, Nat.le_of_ble_eq_true rfl⟩ tg_255 (by decide) rfl rfl rfl rfl (Nat.le_of_ble_eq_true rfl) dX8_household_94 ?_
              exact x_iret C hr hf dX8_household_97
            · have hf := iff_ q21 hf
              by_cases q25 : a2 = (4 : Int32)
              · have hf := ift q25 hf
                refine x_tabIn (tgt := 91) (off := 80) C dX8_household_11 (4 : Int32) q25 (by decide) (by decide) (by decide) (by decide) ?_
                refine x_aload_n C dX8_household_91 rfl rfl ?_
                refine x_iload_n C dX8_household_92 rfl rfl ?_
                refine x_iload_n C dX8_household_93 rfl rfl ?_
                obtain ⟨r26, M27, e28, hf⟩ := bd_of hf
                refine x_callV (n := 2) (Cn := RX8) (T := TX8) (N := 13) (As := [.int a1, .int a2]) (rest := []) (maxL := 3) (ret := (some .int)) C (c_X8_of  e28) gX8_household_X8_of rfl (by decide +kernel) ⟨Nat.le_of_ble_eq_true rfl, Nat.le_of_ble_eq_true rfl⟩ tg_255 (by decide) rfl rfl rfl rfl (Nat.le_of_ble_eq_true rfl) dX8_household_94 ?_
                exact x_iret C hr hf dX8_household_97
              · have hf := iff_ q25 hf
                by_cases q29 : a2 = (5 : Int32)
                · have hf := ift q29 hf
                  refine x_tabIn (tgt := 98) (off := 87) C dX8_household_11 (5 : Int32) q29 (by decide) (by decide) (by decide) (by decide) ?_
                  refine x_aload_n C dX8_household_98 rfl rfl ?_
                  refine x_iload_n C dX8_household_99 rfl rfl ?_
                  refine x_bipush (v := (7 : Int32)) C dX8_household_100 (by decide) ?_
                  obtain ⟨r30, M31, e32, hf⟩ := bd_of hf
                  refine x_callV (n := 2) (Cn := RX8) (T := TX8) (N := 13) (As := [.int a1, .int (7 : Int32)]) (rest := []) (maxL := 3) (ret := (some .int)) C (c_X8_of  e32) gX8_household_X8_of rfl (by decide +kernel) ⟨Nat.le_of_ble_eq_true rfl, Nat.le_of_ble_eq_true rfl⟩ tg_255 (by decide) rfl rfl rfl rfl (Nat.le_of_ble_eq_true rfl) dX8_household_102 ?_
                  exact x_iret C hr hf dX8_household_105
                · have hf := iff_ q29 hf
                  by_cases q33 : a2 = (6 : Int32)
                  · have hf := ift q33 hf
                    refine x_tabIn (tgt := 106) (off := 95) C dX8_household_11 (6 : Int32) q33 (by decide) (by decide) (by decide) (by decide) ?_
                    refine x_aload_n C dX8_household_106 rfl rfl ?_
                    refine x_iload_n C dX8_household_107 rfl rfl ?_
                    refine x_iconst (v := (5 : Int32)) C dX8_household_108 (by decide) ?_
                    obtain ⟨r34, M35, e36, hf⟩ := bd_of hf
                    refine x_callV (n := 2) (Cn := RX8) (T := TX8) (N := 13) (As := [.int a1, .int (5 : Int32)]) (rest := []) (maxL := 3) (ret := (some .int)) C (c_X8_of  e36) gX8_household_X8_of rfl (by decide +kernel) ⟨Nat.le_of_ble_eq_true rfl, Nat.le_of_ble_eq_true rfl⟩ tg_255 (by decide) rfl rfl rfl rfl (Nat.le_of_ble_eq_true rfl) dX8_household_109 ?_
                    exact x_iret C hr hf dX8_household_112
                  · have hf := iff_ q33 hf
                    by_cases q37 : a2 = (7 : Int32)
                    · have hf := ift q37 hf
                      refine x_tabIn (tgt := 113) (off := 102) C dX8_household_11 (7 : Int32) q37 (by decide) (by decide) (by decide) (by decide) ?_
                      refine x_aload_n C dX8_household_113 rfl rfl ?_
                      refine x_iload_n C dX8_household_114 rfl rfl ?_
                      obtain ⟨r38, M39, e40, hf⟩ := bd_of hf
                      refine x_callV (n := 1) (Cn := RX8) (T := TX8) (N := 13) (As := [.int a1]) (rest := []) (maxL := 4) (ret := (some .int)) C (c_X8_placeOf  e40) gX8_household_X8_placeOf rfl (by decide +kernel) ⟨Nat.le_of_ble_eq_true rfl, Nat.le_of_ble_eq_true rfl⟩ tg_255 (by decide) rfl rfl rfl rfl (Nat.le_of_ble_eq_true rfl) dX8_household_115 ?_
                      exact x_iret C hr hf dX8_household_118
                    · have hf := iff_ q37 hf
                      by_cases q41 : a2 = (8 : Int32)
                      · have hf := ift q41 hf
                        refine x_tabIn (tgt := 119) (off := 108) C dX8_household_11 (8 : Int32) q41 (by decide) (by decide) (by decide) (by decide) ?_
                        refine x_aload_n C dX8_household_119 rfl rfl ?_
                        refine x_iload_n C dX8_household_120 rfl rfl ?_
                        obtain ⟨r42, M43, e44, hf⟩ := bd_of hf
                        refine x_callV (n := 1) (Cn := RX8) (T := TX8) (N := 13) (As := [.int a1]) (rest := []) (maxL := 6) (ret := (some .int)) C (c_X8_pointed  e44) gX8_household_X8_pointed rfl (by decide +kernel) ⟨Nat.le_of_ble_eq_true rfl, Nat.le_of_ble_eq_true rfl⟩ tg_255 (by decide) rfl rfl rfl rfl (Nat.le_of_ble_eq_true rfl) dX8_household_121 ?_
                        exact x_iret C hr hf dX8_household_124
                      · have hf := iff_ q41 hf
                        by_cases q45 : a2 = (9 : Int32)
                        · have hf := ift q45 hf
                          refine x_tabIn (tgt := 125) (off := 114) C dX8_household_11 (9 : Int32) q45 (by decide) (by decide) (by decide) (by decide) ?_
                          refine x_aload_n C dX8_household_125 rfl rfl ?_
                          refine x_iload_n C dX8_household_126 rfl rfl ?_
                          refine x_bipush (v := (6 : Int32)) C dX8_household_127 (by decide) ?_
                          obtain ⟨r46, M47, e48, hf⟩ := bd_of hf
                          refine x_callV (n := 2) (Cn := RX8) (T := TX8) (N := 13) (As := [.int a1, .int (6 : Int32)]) (rest := []) (maxL := 3) (ret := (some .int)) C (c_X8_of  e48) gX8_household_X8_of rfl (by decide +kernel) ⟨Nat.le_of_ble_eq_true rfl, Nat.le_of_ble_eq_true rfl⟩ tg_255 (by decide) rfl rfl rfl rfl (Nat.le_of_ble_eq_true rfl) dX8_household_129 ?_
                          exact x_iret C hr hf dX8_household_132
                        · have hf := iff_ q45 hf
                          have zq5 := lv_neT q5 (a := 0) (by decide)
                          have zq9 := lv_neT q9 (a := 1) (by decide)
                          have zq13 := lv_neT q13 (a := 2) (by decide)
                          have zq21 := lv_neT q21 (a := 3) (by decide)
                          have zq25 := lv_neT q25 (a := 4) (by decide)
                          have zq29 := lv_neT q29 (a := 5) (by decide)
                          have zq33 := lv_neT q33 (a := 6) (by decide)
                          have zq37 := lv_neT q37 (a := 7) (by decide)
                          have zq41 := lv_neT q41 (a := 8) (by decide)
                          have zq45 := lv_neT q45 (a := 9) (by decide)
                          refine x_tabOut (tgt := 133) C dX8_household_11 (by omega) (by decide) ?_
                          refine x_bipush (v := (-2 : Int32)) C dX8_household_133 (by decide) ?_
                          exact x_iret C hr hf dX8_household_135

set_option maxHeartbeats 4000000 in
set_option maxRecDepth 100000 in
theorem cl_X8_isInRing_8 {p : Program} {l : Launch} {e : Env} {s : State} {m : MethodId} {args : Array Value} {below : List Frame} {meth : Method} {c : Code} {D : va_G} {cs : Nat → ClassId} {ad : Nat → Nat} (C : Cx p s m args meth c RX8 cX8_isInRing 4 wsX8_isInRing D cs ad) (hr : meth.sig.returnType = some .boolean) {a1 : Int32} {r : Int32} {M' : Mem}  : ∀ (n : Nat) (a2 : Int32) (a3 : Int32) (M : Mem), l_X8_isInRing_8 a1 n a2 a3 M = some (r, M') → V p l e (rmk 4) s m args below meth c 4 D cs ad (QI below s args D cs ad r M') 8 [some (.ref (ad 255)), some (.int a1), some (.int a2), some (.int a3)] [] M := by
  intro n
  induction n with
  | zero => intro a2 a3 M hf; cases hf
  | succ n ih =>
    intro a2 a3 M hf
    rw [l_X8_isInRing_8_s] at hf
    refine x_iload_n C dX8_isInRing_8 rfl rfl ?_
    refine x_bipush (v := (12 : Int32)) C dX8_isInRing_9 (by decide) ?_
    refine x_icmp_ge (tgt := 37) C dX8_isInRing_11 (by decide) (fun q4 => ?_) (fun q4 => ?_)
    · have hf := ift q4 hf
      refine x_iload_n C dX8_isInRing_37 rfl rfl ?_
      refine x_iload_n C dX8_isInRing_38 rfl rfl ?_
      refine x_icmp_ne (tgt := 46) C dX8_isInRing_39 (by decide) (fun q5 => ?_) (fun q5 => ?_)
      · have hf := ift q5 hf
        refine x_iconst (v := (1 : Int32)) C dX8_isInRing_42 (by decide) ?_
        refine x_goto (tgt := 47) C dX8_isInRing_43 (by decide) ?_
        exact x_zret C hr rfl hf dX8_isInRing_47
      · have hf := iff_ q5 hf
        refine x_iconst (v := (0 : Int32)) C dX8_isInRing_46 (by decide) ?_
        exact x_zret C hr rfl hf dX8_isInRing_47
    · have hf := iff_ q4 hf
      refine x_iload_n C dX8_isInRing_14 rfl rfl ?_
      refine x_bipush (v := (-5 : Int32)) C dX8_isInRing_15 (by decide) ?_
      refine x_icmp_eq (tgt := 37) C dX8_isInRing_17 (by decide) (fun q6 => ?_) (fun q6 => ?_)
      · have hf := ift q6 hf
        refine x_iload_n C dX8_isInRing_37 rfl rfl ?_
        refine x_iload_n C dX8_isInRing_38 rfl rfl ?_
        refine x_icmp_ne (tgt := 46) C dX8_isInRing_39 (by decide) (fun q7 => ?_) (fun q7 => ?_)
        · have hf := ift q7 hf
          refine x_iconst (v := (1 : Int32)) C dX8_isInRing_42 (by decide) ?_
          refine x_goto (tgt := 47) C dX8_isInRing_43 (by decide) ?_
          exact x_zret C hr rfl hf dX8_isInRing_47
        · have hf := iff_ q7 hf
          refine x_iconst (v := (0 : Int32)) C dX8_isInRing_46 (by decide) ?_
          exact x_zret C hr rfl hf dX8_isInRing_47
      · have hf := iff_ q6 hf
        refine x_iload_n C dX8_isInRing_20 rfl rfl ?_
        refine x_iload_n C dX8_isInRing_21 rfl rfl ?_
        refine x_icmp_eq (tgt := 37) C dX8_isInRing_22 (by decide) (fun q8 => ?_) (fun q8 => ?_)
        · have hf := ift q8 hf
          refine x_iload_n C dX8_isInRing_37 rfl rfl ?_
          refine x_iload_n C dX8_isInRing_38 rfl rfl ?_
          refine x_icmp_ne (tgt := 46) C dX8_isInRing_39 (by decide) (fun q9 => ?_) (fun q9 => ?_)
          · have hf := ift q9 hf
            refine x_iconst (v := (1 : Int32)) C dX8_isInRing_42 (by decide) ?_
            refine x_goto (tgt := 47) C dX8_isInRing_43 (by decide) ?_
            exact x_zret C hr rfl hf dX8_isInRing_47
          · have hf := iff_ q9 hf
            refine x_iconst (v := (0 : Int32)) C dX8_isInRing_46 (by decide) ?_
            exact x_zret C hr rfl hf dX8_isInRing_47
        · have hf := iff_ q8 hf
          refine x_aload_n C dX8_isInRing_25 rfl rfl ?_
          refine x_iload_n C dX8_isInRing_26 rfl rfl ?_
          obtain ⟨r10, M11, e12, hf⟩ := bd_of hf
          refine x_callV (n := 1) (Cn := RX8) (T := TX8) (N := 13) (As := [.int a2]) (rest := []) (maxL := 6) (ret := (some .int)) C (c_X8_pointed  e12) gX8_isInRing_X8_pointed rfl (by decide +kernel) ⟨Nat.le_of_ble_eq_true rfl, Nat.le_of_ble_eq_true rfl⟩ tg_255 (by decide) rfl rfl rfl rfl (Nat.le_of_ble_eq_true rfl) dX8_isInRing_27 ?_
          refine x_istore_n (lv' := [some (.ref (ad 255)), some (.int a1), some (.int r10), some (.int a3)]) C dX8_isInRing_30 rfl (by decide) rfl ?_
          refine x_iinc (d := (1 : Int32)) (v := (a3 + (1 : Int32))) (lv' := [some (.ref (ad 255)), some (.int a1), some (.int r10), some (.int (a3 + (1 : Int32)))]) C dX8_isInRing_31 rfl (by decide) rfl (by decide) rfl ?_
          refine x_goto (tgt := 8) C dX8_isInRing_34 (by decide) ?_
          exact x_weak (ih _ _ _ hf) [0, 1, 2, 3] rfl

set_option maxHeartbeats 4000000 in
set_option maxRecDepth 100000 in
theorem c_X8_isInRing {a1 : Int32} {M : Mem} {r : Int32} {M' : Mem}  (hf : f_X8_isInRing a1 M = some (r, M')) : CnI yX8_isInRing wsX8_isInRing 4 (fun ad => [.ref (ad 255), .int a1]) M r M' := by
  unfold f_X8_isInRing at hf
  refine x_metI (cc := cX8_isInRing) (maxL := 4) RX8 rfl (by decide) rfl (fun ad => Nat.le_of_ble_eq_true rfl) (fun ad v hv => ?_) (fun p l e s m args below meth c D cs ad C hr => ?_)
  · simp only [List.mem_cons, List.not_mem_nil, or_false] at hv
    rcases hv with rfl | rfl <;> rfl
  · show V p l e (rmk 4) s m args below meth c 4 D cs ad (QI below s args D cs ad r M') 0 [some (.ref (ad 255)), some (.int a1), none, none] [] M
    refine x_aload_n C dX8_isInRing_0 rfl rfl ?_
    refine x_iload_n C dX8_isInRing_1 rfl rfl ?_
    obtain ⟨r1, M2, e3, hf⟩ := bd_of hf
    refine x_callV (n := 1) (Cn := RX8) (T := TX8) (N := 13) (As := [.int a1]) (rest := []) (maxL := 6) (ret := (some .int)) C (c_X8_pointed  e3) gX8_isInRing_X8_pointed rfl (by decide +kernel) ⟨Nat.le_of_ble_eq_true rfl, Nat.le_of_ble_eq_true rfl⟩ tg_255 (by decide) rfl rfl rfl rfl (Nat.le_of_ble_eq_true rfl) dX8_isInRing_2 ?_
    refine x_istore_n (lv' := [some (.ref (ad 255)), some (.int a1), some (.int r1), none]) C dX8_isInRing_5 rfl (by decide) rfl ?_
    refine x_iconst (v := (0 : Int32)) C dX8_isInRing_6 (by decide) ?_
    refine x_istore_n (lv' := [some (.ref (ad 255)), some (.int a1), some (.int r1), some (.int (0 : Int32))]) C dX8_isInRing_7 rfl (by decide) rfl ?_
    exact x_weak (cl_X8_isInRing_8 C hr  _ _ _ _ hf) [0, 1, 2, 3] rfl

theorem kX8_isText_144 : Cond.fieldLink RX8 144 "FlatLotteryModel" "length" "I" ∈ wsX8_isText := List.mem_of_getElem? (i := 3) rfl
theorem kX8_isText_147 : Cond.fieldLink RX8 147 "FlatLotteryModel" "spot" "I" ∈ wsX8_isText := List.mem_of_getElem? (i := 1) rfl
theorem kX8_isText_154 : Cond.fieldLink RX8 154 "FlatLotteryModel" "tolds" "I" ∈ wsX8_isText := List.mem_of_getElem? (i := 2) rfl
theorem nX8_isText_8 : ∀ w ∈ u_ws RX8 TX8 13, w ∈ wsX8_isText := in_r [26, 27, 28, 29, 30, 31, 32, 33, 34, 35, 36, 37, 38] (by decide +kernel)
set_option maxHeartbeats 4000000 in
set_option maxRecDepth 100000 in
theorem cl_X8_isText_12 {p : Program} {l : Launch} {e : Env} {s : State} {m : MethodId} {args : Array Value} {below : List Frame} {meth : Method} {c : Code} {D : va_G} {cs : Nat → ClassId} {ad : Nat → Nat} (C : Cx p s m args meth c RX8 cX8_isText 2 wsX8_isText D cs ad) (hr : meth.sig.returnType = some .boolean)  {r : Int32} {M' : Mem}  : ∀ (n : Nat) (a1 : Int32) (M : Mem), l_X8_isText_12 n a1 M = some (r, M') → V p l e (rmk 4) s m args below meth c 2 D cs ad (QI below s args D cs ad r M') 12 [some (.ref (ad 255)), some (.int a1)] [] M := by
  intro n
  induction n with
  | zero => intro a1 M hf; cases hf
  | succ n ih =>
    intro a1 M hf
    rw [l_X8_isText_12_s] at hf
    refine x_iload_n C dX8_isText_12 rfl rfl ?_
    refine x_if_eq (tgt := 45) C dX8_isText_13 (by decide) (fun q3 => ?_) (fun q3 => ?_)
    · have hf := ift q3 hf
      refine x_aload_n C dX8_isText_45 rfl rfl ?_
      refine x_geti (Cn := RX8) (T := TX8) (N := 13) C tg_255 (by decide) rfl nX8_isText_8 9 (by decide) rfl kX8_isText_147 rfl dX8_isText_46 ?_
      refine x_aload_n C dX8_isText_49 rfl rfl ?_
      refine x_geti (Cn := RX8) (T := TX8) (N := 13) C tg_255 (by decide) rfl nX8_isText_8 6 (by decide) rfl kX8_isText_144 rfl dX8_isText_50 ?_
      refine x_icmp_ne (tgt := 60) C dX8_isText_53 (by decide) (fun q4 => ?_) (fun q4 => ?_)
      · have hf := ift q4 hf
        refine x_iconst (v := (1 : Int32)) C dX8_isText_56 (by decide) ?_
        refine x_goto (tgt := 61) C dX8_isText_57 (by decide) ?_
        exact x_zret C hr rfl hf dX8_isText_61
      · have hf := iff_ q4 hf
        refine x_iconst (v := (0 : Int32)) C dX8_isText_60 (by decide) ?_
        exact x_zret C hr rfl hf dX8_isText_61
    · have hf := iff_ q3 hf
      refine x_aload_n C dX8_isText_16 rfl rfl ?_
      obtain ⟨r5, M6, e7, hf⟩ := bd_of hf
      refine x_callV (n := 0) (Cn := RX8) (T := TX8) (N := 13) (As := []) (rest := []) (maxL := 4) (ret := (some .boolean)) C (c_X8_readsList  e7) gX8_isText_X8_readsList rfl (by decide +kernel) ⟨Nat.le_of_ble_eq_true rfl, Nat.le_of_ble_eq_true rfl⟩ tg_255 (by decide) rfl rfl rfl rfl (Nat.le_of_ble_eq_true rfl) dX8_isText_17 ?_
      refine x_if_ne (tgt := 25) C dX8_isText_20 (by decide) (fun q8 => ?_) (fun q8 => ?_)
      · have hf := ift q8 hf
        refine x_iconst (v := (0 : Int32)) C dX8_isText_23 (by decide) ?_
        exact x_zret C hr rfl hf dX8_isText_24
      · have hf := iff_ q8 hf
        refine x_aload_n C dX8_isText_25 rfl rfl ?_
        refine x_dup C dX8_isText_26 rfl ?_
        refine x_geti (Cn := RX8) (T := TX8) (N := 13) C tg_255 (by decide) rfl nX8_isText_8 11 (by decide) rfl kX8_isText_154 rfl dX8_isText_27 ?_
        refine x_iconst (v := (1 : Int32)) C dX8_isText_30 (by decide) ?_
        refine x_iadd C dX8_isText_31 ?_
        refine x_puti (ty := .int) (Cn := RX8) (T := TX8) (N := 13) C tg_255 (by decide) rfl nX8_isText_8 tyX8 tyX8_ok nmX8 11 (by decide) rfl kX8_isText_154 rfl rfl (by decide +kernel) rfl rfl dX8_isText_32 ?_
        refine x_gen hf (fun M9 hf => ?_)
        refine x_aload_n C dX8_isText_35 rfl rfl ?_
        refine x_bipush (v := (59 : Int32)) C dX8_isText_36 (by decide) ?_
        obtain ⟨r10, M11, e12, hf⟩ := bd_of hf
        refine x_callV (n := 1) (Cn := RX8) (T := TX8) (N := 13) (As := [.int (59 : Int32)]) (rest := []) (maxL := 3) (ret := (some .boolean)) C (c_X8_takes  e12) gX8_isText_X8_takes rfl (by decide +kernel) ⟨Nat.le_of_ble_eq_true rfl, Nat.le_of_ble_eq_true rfl⟩ tg_255 (by decide) rfl rfl rfl rfl (Nat.le_of_ble_eq_true rfl) dX8_isText_38 ?_
        refine x_istore_n (lv' := [some (.ref (ad 255)), some (.int r10)]) C dX8_isText_41 rfl (by decide) rfl ?_
        refine x_goto (tgt := 12) C dX8_isText_42 (by decide) ?_
        exact x_weak (ih _ _ hf) [0, 1] rfl

set_option maxHeartbeats 4000000 in
set_option maxRecDepth 100000 in
theorem c_X8_isText  {M : Mem} {r : Int32} {M' : Mem}  (hf : f_X8_isText  M = some (r, M')) : CnI yX8_isText wsX8_isText 4 (fun ad => [.ref (ad 255)]) M r M' := by
  unfold f_X8_isText at hf
  refine x_metI (cc := cX8_isText) (maxL := 2) RX8 rfl (by decide) rfl (fun ad => Nat.le_of_ble_eq_true rfl) (fun ad v hv => ?_) (fun p l e s m args below meth c D cs ad C hr => ?_)
  · simp only [List.mem_cons, List.not_mem_nil, or_false] at hv
    rcases hv with rfl <;> rfl
  · show V p l e (rmk 4) s m args below meth c 2 D cs ad (QI below s args D cs ad r M') 0 [some (.ref (ad 255)), none] [] M
    refine x_aload_n C dX8_isText_0 rfl rfl ?_
    refine x_iconst (v := (0 : Int32)) C dX8_isText_1 (by decide) ?_
    refine x_puti (ty := .int) (Cn := RX8) (T := TX8) (N := 13) C tg_255 (by decide) rfl nX8_isText_8 tyX8 tyX8_ok nmX8 9 (by decide) rfl kX8_isText_147 rfl rfl (by decide +kernel) rfl rfl dX8_isText_2 ?_
    refine x_gen hf (fun M1 hf => ?_)
    refine x_aload_n C dX8_isText_5 rfl rfl ?_
    refine x_iconst (v := (0 : Int32)) C dX8_isText_6 (by decide) ?_
    refine x_puti (ty := .int) (Cn := RX8) (T := TX8) (N := 13) C tg_255 (by decide) rfl nX8_isText_8 tyX8 tyX8_ok nmX8 11 (by decide) rfl kX8_isText_154 rfl rfl (by decide +kernel) rfl rfl dX8_isText_7 ?_
    refine x_gen hf (fun M2 hf => ?_)
    refine x_iconst (v := (1 : Int32)) C dX8_isText_10 (by decide) ?_
    refine x_istore_n (lv' := [some (.ref (ad 255)), some (.int (1 : Int32))]) C dX8_isText_11 rfl (by decide) rfl ?_
    exact x_weak (cl_X8_isText_12 C hr  _ _ _ hf) [0, 1] rfl

theorem kX8_isWronged_7 : Cond.fieldLink RX8 7 "FlatLotteryModel" "s" "[I" ∈ wsX8_isWronged := List.mem_of_getElem? (i := 1) rfl
theorem nX8_isWronged_8 : ∀ w ∈ u_ws RX8 TX8 13, w ∈ wsX8_isWronged := in_r [39, 40, 41, 42, 43, 44, 45, 46, 47, 48, 49, 50, 51] (by decide +kernel)
set_option maxHeartbeats 4000000 in
set_option maxRecDepth 100000 in
theorem cl_X8_isWronged_4 {p : Program} {l : Launch} {e : Env} {s : State} {m : MethodId} {args : Array Value} {below : List Frame} {meth : Method} {c : Code} {D : va_G} {cs : Nat → ClassId} {ad : Nat → Nat} (C : Cx p s m args meth c RX8 cX8_isWronged 4 wsX8_isWronged D cs ad) (hr : meth.sig.returnType = some .boolean) {a1 : Int32} {r : Int32} {M' : Mem}  : ∀ (n : Nat) (a2 : Int32) (a3 : Int32) (M : Mem), l_X8_isWronged_4 a1 n a2 a3 M = some (r, M') → V p l e (rmk 4) s m args below meth c 4 D cs ad (QI below s args D cs ad r M') 4 [some (.ref (ad 255)), some (.int a1), some (.int a2), some (.int a3)] [] M := by
  intro n
  induction n with
  | zero => intro a2 a3 M hf; cases hf
  | succ n ih =>
    intro a2 a3 M hf
    rw [l_X8_isWronged_4_s] at hf
    refine x_iload_n C dX8_isWronged_4 rfl rfl ?_
    refine x_aload_n C dX8_isWronged_5 rfl rfl ?_
    refine x_getr (Cn := RX8) (T := TX8) (N := 13) C tg_255 (by decide) rfl nX8_isWronged_8 0 (by decide) rfl kX8_isWronged_7 rfl dX8_isWronged_6 256 rfl ?_
    refine x_iconst (v := (1 : Int32)) C dX8_isWronged_9 (by decide) ?_
    refine x_iald (j := 1) C tg_256 tl_256 (by decide) (by decide) dX8_isWronged_10 ?_
    refine x_icmp_ge (tgt := 48) C dX8_isWronged_11 (by decide) (fun q1 => ?_) (fun q1 => ?_)
    · have hf := ift q1 hf
      refine x_iload_n C dX8_isWronged_48 rfl rfl ?_
      obtain ⟨g2, hf⟩ := ck_of hf
      exact x_zret C hr (isb_nar g2) hf dX8_isWronged_49
    · have hf := iff_ q1 hf
      refine x_iload_n C dX8_isWronged_14 rfl rfl ?_
      refine x_if_ne (tgt := 36) C dX8_isWronged_15 (by decide) (fun q3 => ?_) (fun q3 => ?_)
      · have hf := ift q3 hf
        refine x_aload_n C dX8_isWronged_18 rfl rfl ?_
        refine x_iload_n C dX8_isWronged_19 rfl rfl ?_
        refine x_iload_n C dX8_isWronged_20 rfl rfl ?_
        obtain ⟨r4, M5, e6, hf⟩ := bd_of hf
        refine x_callV (n := 2) (Cn := RX8) (T := TX8) (N := 13) (As := [.int a1, .int a3]) (rest := []) (maxL := 4) (ret := (some .boolean)) C (c_X8_doesEnvy  e6) gX8_isWronged_X8_doesEnvy rfl (by decide +kernel) ⟨Nat.le_of_ble_eq_true rfl, Nat.le_of_ble_eq_true rfl⟩ tg_255 (by decide) rfl rfl rfl rfl (Nat.le_of_ble_eq_true rfl) dX8_isWronged_21 ?_
        refine x_if_eq (tgt := 40) C dX8_isWronged_24 (by decide) (fun q7 => ?_) (fun q7 => ?_)
        · have hf := ift q7 hf
          refine x_iconst (v := (0 : Int32)) C dX8_isWronged_40 (by decide) ?_
          refine x_istore_n (lv' := [some (.ref (ad 255)), some (.int a1), some (.int (0 : Int32)), some (.int a3)]) C dX8_isWronged_41 rfl (by decide) rfl ?_
          refine x_iinc (d := (1 : Int32)) (v := (a3 + (1 : Int32))) (lv' := [some (.ref (ad 255)), some (.int a1), some (.int (0 : Int32)), some (.int (a3 + (1 : Int32)))]) C dX8_isWronged_42 rfl (by decide) rfl (by decide) rfl ?_
          refine x_goto (tgt := 4) C dX8_isWronged_45 (by decide) ?_
          exact x_weak (ih _ _ _ hf) [0, 1, 2, 3] rfl
        · have hf := iff_ q7 hf
          refine x_aload_n C dX8_isWronged_27 rfl rfl ?_
          refine x_iload_n C dX8_isWronged_28 rfl rfl ?_
          refine x_iload_n C dX8_isWronged_29 rfl rfl ?_
          obtain ⟨r8, M9, e10, hf⟩ := bd_of hf
          refine x_callV (n := 2) (Cn := RX8) (T := TX8) (N := 13) (As := [.int a1, .int a3]) (rest := []) (maxL := 4) (ret := (some .boolean)) C (c_X8_isAhead  e10) gX8_isWronged_X8_isAhead rfl (by decide +kernel) ⟨Nat.le_of_ble_eq_true rfl, Nat.le_of_ble_eq_true rfl⟩ tg_255 (by decide) rfl rfl rfl rfl (Nat.le_of_ble_eq_true rfl) dX8_isWronged_30 ?_
          refine x_if_eq (tgt := 40) C dX8_isWronged_33 (by decide) (fun q11 => ?_) (fun q11 => ?_)
          · have hf := ift q11 hf
            refine x_iconst (v := (0 : Int32)) C dX8_isWronged_40 (by decide) ?_
            refine x_istore_n (lv' := [some (.ref (ad 255)), some (.int a1), some (.int (0 : Int32)), some (.int a3)]) C dX8_isWronged_41 rfl (by decide) rfl ?_
            refine x_iinc (d := (1 : Int32)) (v := (a3 + (1 : Int32))) (lv' := [some (.ref (ad 255)), some (.int a1), some (.int (0 : Int32)), some (.int (a3 + (1 : Int32)))]) C dX8_isWronged_42 rfl (by decide) rfl (by decide) rfl ?_
            refine x_goto (tgt := 4) C dX8_isWronged_45 (by decide) ?_
            exact x_weak (ih _ _ _ hf) [0, 1, 2, 3] rfl
          · have hf := iff_ q11 hf
            refine x_iconst (v := (1 : Int32)) C dX8_isWronged_36 (by decide) ?_
            refine x_goto (tgt := 41) C dX8_isWronged_37 (by decide) ?_
            refine x_istore_n (lv' := [some (.ref (ad 255)), some (.int a1), some (.int (1 : Int32)), some (.int a3)]) C dX8_isWronged_41 rfl (by decide) rfl ?_
            refine x_iinc (d := (1 : Int32)) (v := (a3 + (1 : Int32))) (lv' := [some (.ref (ad 255)), some (.int a1), some (.int (1 : Int32)), some (.int (a3 + (1 : Int32)))]) C dX8_isWronged_42 rfl (by decide) rfl (by decide) rfl ?_
            refine x_goto (tgt := 4) C dX8_isWronged_45 (by decide) ?_
            exact x_weak (ih _ _ _ hf) [0, 1, 2, 3] rfl
      · have hf := iff_ q3 hf
        refine x_iconst (v := (1 : Int32)) C dX8_isWronged_36 (by decide) ?_
        refine x_goto (tgt := 41) C dX8_isWronged_37 (by decide) ?_
        refine x_istore_n (lv' := [some (.ref (ad 255)), some (.int a1), some (.int (1 : Int32)), some (.int a3)]) C dX8_isWronged_41 rfl (by decide) rfl ?_
        refine x_iinc (d := (1 : Int32)) (v := (a3 + (1 : Int32))) (lv' := [some (.ref (ad 255)), some (.int a1), some (.int (1 : Int32)), some (.int (a3 + (1 : Int32)))]) C dX8_isWronged_42 rfl (by decide) rfl (by decide) rfl ?_
        refine x_goto (tgt := 4) C dX8_isWronged_45 (by decide) ?_
        exact x_weak (ih _ _ _ hf) [0, 1, 2, 3] rfl

set_option maxHeartbeats 4000000 in
set_option maxRecDepth 100000 in
theorem c_X8_isWronged {a1 : Int32} {M : Mem} {r : Int32} {M' : Mem}  (hf : f_X8_isWronged a1 M = some (r, M')) : CnI yX8_isWronged wsX8_isWronged 4 (fun ad => [.ref (ad 255), .int a1]) M r M' := by
  unfold f_X8_isWronged at hf
  refine x_metI (cc := cX8_isWronged) (maxL := 4) RX8 rfl (by decide) rfl (fun ad => Nat.le_of_ble_eq_true rfl) (fun ad v hv => ?_) (fun p l e s m args below meth c D cs ad C hr => ?_)
  · simp only [List.mem_cons, List.not_mem_nil, or_false] at hv
    rcases hv with rfl | rfl <;> rfl
  · show V p l e (rmk 4) s m args below meth c 4 D cs ad (QI below s args D cs ad r M') 0 [some (.ref (ad 255)), some (.int a1), none, none] [] M
    refine x_iconst (v := (0 : Int32)) C dX8_isWronged_0 (by decide) ?_
    refine x_istore_n (lv' := [some (.ref (ad 255)), some (.int a1), some (.int (0 : Int32)), none]) C dX8_isWronged_1 rfl (by decide) rfl ?_
    refine x_iconst (v := (0 : Int32)) C dX8_isWronged_2 (by decide) ?_
    refine x_istore_n (lv' := [some (.ref (ad 255)), some (.int a1), some (.int (0 : Int32)), some (.int (0 : Int32))]) C dX8_isWronged_3 rfl (by decide) rfl ?_
    exact x_weak (cl_X8_isWronged_4 C hr  _ _ _ _ hf) [0, 1, 2, 3] rfl

theorem kX8_swaps_23 : Cond.fieldLink RX8 23 "FlatLotteryModel" "ring" "[I" ∈ wsX8_swaps := List.mem_of_getElem? (i := 1) rfl
theorem kX8_swaps_26 : Cond.fieldLink RX8 26 "FlatLotteryModel" "flats" "[I" ∈ wsX8_swaps := List.mem_of_getElem? (i := 2) rfl
theorem nX8_swaps_8 : ∀ w ∈ u_ws RX8 TX8 13, w ∈ wsX8_swaps := in_r [41, 42, 43, 44, 45, 46, 47, 48, 49, 50, 51, 52, 53] (by decide +kernel)
set_option maxHeartbeats 4000000 in
set_option maxRecDepth 100000 in
theorem cl_X8_swaps_4 {p : Program} {l : Launch} {e : Env} {s : State} {m : MethodId} {args : Array Value} {below : List Frame} {meth : Method} {c : Code} {D : va_G} {cs : Nat → ClassId} {ad : Nat → Nat} (C : Cx p s m args meth c RX8 cX8_swaps 5 wsX8_swaps D cs ad) (hr : meth.sig.returnType = some .int) {a1 : Int32} {r : Int32} {M' : Mem}  {k : Int32 → Mem → Option (Int32 × Mem)} (hk : ∀ (b2 : Int32) (M : Mem), k b2 M = some (r, M') → V p l e (rmk 4) s m args below meth c 5 D cs ad (QI below s args D cs ad r M') 44 [some (.ref (ad 255)), none, some (.int b2), none, none] [] M) : ∀ (n : Nat) (a2 : Int32) (a3 : Int32) (M : Mem), l_X8_swaps_4 a1 k n a2 a3 M = some (r, M') → V p l e (rmk 4) s m args below meth c 5 D cs ad (QI below s args D cs ad r M') 4 [some (.ref (ad 255)), some (.int a1), some (.int a2), some (.int a3), none] [] M := by
  intro n
  induction n with
  | zero => intro a2 a3 M hf; cases hf
  | succ n ih =>
    intro a2 a3 M hf
    rw [l_X8_swaps_4_s] at hf
    refine x_iload_n C dX8_swaps_4 rfl rfl ?_
    refine x_if_eq (tgt := 13) C dX8_swaps_5 (by decide) (fun q1 => ?_) (fun q1 => ?_)
    · have hf := ift q1 hf
      refine x_aload_n C dX8_swaps_13 rfl rfl ?_
      refine x_getr (Cn := RX8) (T := TX8) (N := 13) C tg_255 (by decide) rfl nX8_swaps_8 7 (by decide) rfl kX8_swaps_23 rfl dX8_swaps_14 260 rfl ?_
      refine x_iload_n C dX8_swaps_17 rfl rfl ?_
      refine x_iload_n C dX8_swaps_18 rfl rfl ?_
      obtain ⟨g2, hf⟩ := ck_of hf
      refine x_iast (j := (a2).toNatClampNeg) C tg_260 tl_260 g2 rfl dX8_swaps_19 ?_
      refine x_gen hf (fun M3 hf => ?_)
      refine x_aload_n C dX8_swaps_20 rfl rfl ?_
      refine x_getr (Cn := RX8) (T := TX8) (N := 13) C tg_255 (by decide) rfl nX8_swaps_8 8 (by decide) rfl kX8_swaps_26 rfl dX8_swaps_21 261 rfl ?_
      refine x_iload_n C dX8_swaps_24 rfl rfl ?_
      refine x_aload_n C dX8_swaps_25 rfl rfl ?_
      refine x_iload_n C dX8_swaps_26 rfl rfl ?_
      refine x_iconst (v := (4 : Int32)) C dX8_swaps_27 (by decide) ?_
      obtain ⟨r4, M5, e6, hf⟩ := bd_of hf
      refine x_callV (n := 2) (Cn := RX8) (T := TX8) (N := 13) (As := [.int a3, .int (4 : Int32)]) (rest := [.int a2, .ref (ad 261)]) (maxL := 3) (ret := (some .int)) C (c_X8_of  e6) gX8_swaps_X8_of rfl (by decide +kernel) ⟨Nat.le_of_ble_eq_true rfl, Nat.le_of_ble_eq_true rfl⟩ tg_255 (by decide) rfl rfl rfl rfl (Nat.le_of_ble_eq_true rfl) dX8_swaps_28 ?_
      obtain ⟨g7, hf⟩ := ck_of hf
      refine x_iast (j := (a2).toNatClampNeg) C tg_261 tl_261 g7 rfl dX8_swaps_31 ?_
      refine x_gen hf (fun M8 hf => ?_)
      refine x_aload_n C dX8_swaps_32 rfl rfl ?_
      refine x_iload_n C dX8_swaps_33 rfl rfl ?_
      obtain ⟨r9, M10, e11, hf⟩ := bd_of hf
      refine x_callV (n := 1) (Cn := RX8) (T := TX8) (N := 13) (As := [.int a3]) (rest := []) (maxL := 6) (ret := (some .int)) C (c_X8_pointed  e11) gX8_swaps_X8_pointed rfl (by decide +kernel) ⟨Nat.le_of_ble_eq_true rfl, Nat.le_of_ble_eq_true rfl⟩ tg_255 (by decide) rfl rfl rfl rfl (Nat.le_of_ble_eq_true rfl) dX8_swaps_34 ?_
      refine x_istore_n (lv' := [some (.ref (ad 255)), some (.int a1), some (.int a2), some (.int r9), none]) C dX8_swaps_37 rfl (by decide) rfl ?_
      refine x_iinc (d := (1 : Int32)) (v := (a2 + (1 : Int32))) (lv' := [some (.ref (ad 255)), some (.int a1), some (.int (a2 + (1 : Int32))), some (.int r9), none]) C dX8_swaps_38 rfl (by decide) rfl (by decide) rfl ?_
      refine x_goto (tgt := 4) C dX8_swaps_41 (by decide) ?_
      exact x_weak (ih _ _ _ hf) [0, 1, 2, 3] rfl
    · have hf := iff_ q1 hf
      refine x_iload_n C dX8_swaps_8 rfl rfl ?_
      refine x_iload_n C dX8_swaps_9 rfl rfl ?_
      refine x_icmp_eq (tgt := 44) C dX8_swaps_10 (by decide) (fun q12 => ?_) (fun q12 => ?_)
      · have hf := ift q12 hf
        exact x_weak (hk _ _ hf) [0, 2] rfl
      · have hf := iff_ q12 hf
        refine x_aload_n C dX8_swaps_13 rfl rfl ?_
        refine x_getr (Cn := RX8) (T := TX8) (N := 13) C tg_255 (by decide) rfl nX8_swaps_8 7 (by decide) rfl kX8_swaps_23 rfl dX8_swaps_14 260 rfl ?_
        refine x_iload_n C dX8_swaps_17 rfl rfl ?_
        refine x_iload_n C dX8_swaps_18 rfl rfl ?_
        obtain ⟨g13, hf⟩ := ck_of hf
        refine x_iast (j := (a2).toNatClampNeg) C tg_260 tl_260 g13 rfl dX8_swaps_19 ?_
        refine x_gen hf (fun M14 hf => ?_)
        refine x_aload_n C dX8_swaps_20 rfl rfl ?_
        refine x_getr (Cn := RX8) (T := TX8) (N := 13) C tg_255 (by decide) rfl nX8_swaps_8 8 (by decide) rfl kX8_swaps_26 rfl dX8_swaps_21 261 rfl ?_
        refine x_iload_n C dX8_swaps_24 rfl rfl ?_
        refine x_aload_n C dX8_swaps_25 rfl rfl ?_
        refine x_iload_n C dX8_swaps_26 rfl rfl ?_
        refine x_iconst (v := (4 : Int32)) C dX8_swaps_27 (by decide) ?_
        obtain ⟨r15, M16, e17, hf⟩ := bd_of hf
        refine x_callV (n := 2) (Cn := RX8) (T := TX8) (N := 13) (As := [.int a3, .int (4 : Int32)]) (rest := [.int a2, .ref (ad 261)]) (maxL := 3) (ret := (some .int)) C (c_X8_of  e17) gX8_swaps_X8_of rfl (by decide +kernel) ⟨Nat.le_of_ble_eq_true rfl, Nat.le_of_ble_eq_true rfl⟩ tg_255 (by decide) rfl rfl rfl rfl (Nat.le_of_ble_eq_true rfl) dX8_swaps_28 ?_
        obtain ⟨g18, hf⟩ := ck_of hf
        refine x_iast (j := (a2).toNatClampNeg) C tg_261 tl_261 g18 rfl dX8_swaps_31 ?_
        refine x_gen hf (fun M19 hf => ?_)
        refine x_aload_n C dX8_swaps_32 rfl rfl ?_
        refine x_iload_n C dX8_swaps_33 rfl rfl ?_
        obtain ⟨r20, M21, e22, hf⟩ := bd_of hf
        refine x_callV (n := 1) (Cn := RX8) (T := TX8) (N := 13) (As := [.int a3]) (rest := []) (maxL := 6) (ret := (some .int)) C (c_X8_pointed  e22) gX8_swaps_X8_pointed rfl (by decide +kernel) ⟨Nat.le_of_ble_eq_true rfl, Nat.le_of_ble_eq_true rfl⟩ tg_255 (by decide) rfl rfl rfl rfl (Nat.le_of_ble_eq_true rfl) dX8_swaps_34 ?_
        refine x_istore_n (lv' := [some (.ref (ad 255)), some (.int a1), some (.int a2), some (.int r20), none]) C dX8_swaps_37 rfl (by decide) rfl ?_
        refine x_iinc (d := (1 : Int32)) (v := (a2 + (1 : Int32))) (lv' := [some (.ref (ad 255)), some (.int a1), some (.int (a2 + (1 : Int32))), some (.int r20), none]) C dX8_swaps_38 rfl (by decide) rfl (by decide) rfl ?_
        refine x_goto (tgt := 4) C dX8_swaps_41 (by decide) ?_
        exact x_weak (ih _ _ _ hf) [0, 1, 2, 3] rfl

set_option maxHeartbeats 4000000 in
set_option maxRecDepth 100000 in
theorem cl_X8_swaps_47 {p : Program} {l : Launch} {e : Env} {s : State} {m : MethodId} {args : Array Value} {below : List Frame} {meth : Method} {c : Code} {D : va_G} {cs : Nat → ClassId} {ad : Nat → Nat} (C : Cx p s m args meth c RX8 cX8_swaps 5 wsX8_swaps D cs ad) (hr : meth.sig.returnType = some .int) {a2 : Int32} {r : Int32} {M' : Mem}  : ∀ (n : Nat) (a4 : Int32) (M : Mem), l_X8_swaps_47 a2 n a4 M = some (r, M') → V p l e (rmk 4) s m args below meth c 5 D cs ad (QI below s args D cs ad r M') 47 [some (.ref (ad 255)), none, some (.int a2), none, some (.int a4)] [] M := by
  intro n
  induction n with
  | zero => intro a4 M hf; cases hf
  | succ n ih =>
    intro a4 M hf
    rw [l_X8_swaps_47_s] at hf
    refine x_iload C dX8_swaps_47 rfl ?_
    refine x_iload_n C dX8_swaps_49 rfl rfl ?_
    refine x_icmp_ge (tgt := 82) C dX8_swaps_50 (by decide) (fun q24 => ?_) (fun q24 => ?_)
    · have hf := ift q24 hf
      refine x_iload_n C dX8_swaps_82 rfl rfl ?_
      exact x_iret C hr hf dX8_swaps_83
    · have hf := iff_ q24 hf
      refine x_aload_n C dX8_swaps_53 rfl rfl ?_
      refine x_aload_n C dX8_swaps_54 rfl rfl ?_
      refine x_getr (Cn := RX8) (T := TX8) (N := 13) C tg_255 (by decide) rfl nX8_swaps_8 7 (by decide) rfl kX8_swaps_23 rfl dX8_swaps_55 260 rfl ?_
      refine x_iload C dX8_swaps_58 rfl ?_
      obtain ⟨g25, hf⟩ := ck_of hf
      refine x_iald (j := (a4).toNatClampNeg) C tg_260 tl_260 g25 rfl dX8_swaps_60 ?_
      refine x_iconst (v := (4 : Int32)) C dX8_swaps_61 (by decide) ?_
      refine x_aload_n C dX8_swaps_62 rfl rfl ?_
      refine x_getr (Cn := RX8) (T := TX8) (N := 13) C tg_255 (by decide) rfl nX8_swaps_8 8 (by decide) rfl kX8_swaps_26 rfl dX8_swaps_63 261 rfl ?_
      refine x_iload C dX8_swaps_66 rfl ?_
      refine x_iconst (v := (1 : Int32)) C dX8_swaps_68 (by decide) ?_
      refine x_iadd C dX8_swaps_69 ?_
      refine x_iload_n C dX8_swaps_70 rfl rfl ?_
      obtain ⟨g26, hf⟩ := ck_of hf
      refine x_irem C dX8_swaps_71 (of_decide_eq_true g26) ?_
      obtain ⟨g27, hf⟩ := ck_of hf
      refine x_iald (j := (((a4 + (1 : Int32)) - (a4 + (1 : Int32)) / a2 * a2)).toNatClampNeg) C tg_261 tl_261 g27 rfl dX8_swaps_72 ?_
      obtain ⟨r28, M29, e30, hf⟩ := bd_of hf
      refine x_callVv (n := 3) (Cn := RX8) (T := TX8) (N := 13) (As := [.int (M 260 (a4).toNatClampNeg), .int (4 : Int32), .int (M 261 (((a4 + (1 : Int32)) - (a4 + (1 : Int32)) / a2 * a2)).toNatClampNeg)]) (rest := []) (maxL := 4) (ret := none) C (c_X8_puts  e30) gX8_swaps_X8_puts rfl (by decide +kernel) ⟨Nat.le_of_ble_eq_true rfl, Nat.le_of_ble_eq_true rfl⟩ tg_255 (by decide) rfl rfl rfl rfl (Nat.le_of_ble_eq_true rfl) dX8_swaps_73 ?_
      refine x_iinc (d := (1 : Int32)) (v := (a4 + (1 : Int32))) (lv' := [some (.ref (ad 255)), none, some (.int a2), none, some (.int (a4 + (1 : Int32)))]) C dX8_swaps_76 rfl (by decide) rfl (by decide) rfl ?_
      refine x_goto (tgt := 47) C dX8_swaps_79 (by decide) ?_
      exact x_weak (ih _ _ hf) [0, 2, 4] rfl

set_option maxHeartbeats 4000000 in
set_option maxRecDepth 100000 in
theorem c_X8_swaps {a1 : Int32} {M : Mem} {r : Int32} {M' : Mem}  (hf : f_X8_swaps a1 M = some (r, M')) : CnI yX8_swaps wsX8_swaps 4 (fun ad => [.ref (ad 255), .int a1]) M r M' := by
  unfold f_X8_swaps at hf
  refine x_metI (cc := cX8_swaps) (maxL := 5) RX8 rfl (by decide) rfl (fun ad => Nat.le_of_ble_eq_true rfl) (fun ad v hv => ?_) (fun p l e s m args below meth c D cs ad C hr => ?_)
  · simp only [List.mem_cons, List.not_mem_nil, or_false] at hv
    rcases hv with rfl | rfl <;> rfl
  · show V p l e (rmk 4) s m args below meth c 5 D cs ad (QI below s args D cs ad r M') 0 [some (.ref (ad 255)), some (.int a1), none, none, none] [] M
    refine x_iconst (v := (0 : Int32)) C dX8_swaps_0 (by decide) ?_
    refine x_istore_n (lv' := [some (.ref (ad 255)), some (.int a1), some (.int (0 : Int32)), none, none]) C dX8_swaps_1 rfl (by decide) rfl ?_
    refine x_iload_n C dX8_swaps_2 rfl rfl ?_
    refine x_istore_n (lv' := [some (.ref (ad 255)), some (.int a1), some (.int (0 : Int32)), some (.int a1), none]) C dX8_swaps_3 rfl (by decide) rfl ?_
    refine x_weak (cl_X8_swaps_4 C hr  (fun b2_4 M23 hf => ?_) _ _ _ _ hf) [0, 1, 2, 3] rfl
    refine x_iconst (v := (0 : Int32)) C dX8_swaps_44 (by decide) ?_
    refine x_istore (lv' := [some (.ref (ad 255)), none, some (.int b2_4), none, some (.int (0 : Int32))]) C dX8_swaps_45 (by decide) rfl ?_
    exact x_weak (cl_X8_swaps_47 C hr  _ _ _ hf) [0, 2, 4] rfl

theorem kX7_appeal_10 : Cond.fieldLink RX7 10 "FlatLottery" "state" "LFlatLottery$State;" ∈ wsX7_appeal := List.mem_of_getElem? (i := 1) rfl
theorem kX7_appeal_26 : Cond.fieldLink RX7 26 "FlatLottery" "history" "LFlatLottery$History;" ∈ wsX7_appeal := List.mem_of_getElem? (i := 4) rfl
theorem kX7_appeal_78 : Cond.fieldLink RX7 78 "FlatLottery$State" "households" "[LFlatLottery$Household;" ∈ wsX7_appeal := List.mem_of_getElem? (i := 2) rfl
theorem kX7_appeal_151 : Cond.fieldLink RX7 151 "FlatLottery$Household" "points" "I" ∈ wsX7_appeal := List.mem_of_getElem? (i := 6) rfl
theorem kX7_appeal_163 : Cond.fieldLink RX7 163 "FlatLottery$Household" "appeals" "I" ∈ wsX7_appeal := List.mem_of_getElem? (i := 3) rfl
theorem kX7_appeal_170 : Cond.fieldLink RX7 170 "FlatLottery$State" "refused" "I" ∈ wsX7_appeal := List.mem_of_getElem? (i := 5) rfl
theorem nX7_appeal_2 : ∀ w ∈ u_ws RX2 TX2 9, w ∈ wsX7_appeal := in_r [125, 126, 127, 128, 129, 130, 131, 132, 133] (by decide +kernel)
theorem nX7_appeal_6 : ∀ w ∈ u_ws RX6 TX6 8, w ∈ wsX7_appeal := in_r [117, 118, 119, 120, 121, 122, 123, 124] (by decide +kernel)
theorem nX7_appeal_7 : ∀ w ∈ u_ws RX7 TX7 7, w ∈ wsX7_appeal := in_r [110, 111, 112, 113, 114, 115, 116] (by decide +kernel)
set_option maxHeartbeats 4000000 in
set_option maxRecDepth 100000 in
theorem c_X7_appeal {a1 : Int32} {a2 : Int32} {M : Mem} {r : Int32} {M' : Mem}  (hf : f_X7_appeal a1 a2 M = some (r, M')) : CnI yX7_appeal wsX7_appeal 5 (fun ad => [.ref (ad 0), .int a1, .int a2]) M r M' := by
  unfold f_X7_appeal at hf
  refine x_metI (cc := cX7_appeal) (maxL := 5) RX7 rfl (by decide) rfl (fun ad => Nat.le_of_ble_eq_true rfl) (fun ad v hv => ?_) (fun p l e s m args below meth c D cs ad C hr => ?_)
  · simp only [List.mem_cons, List.not_mem_nil, or_false] at hv
    rcases hv with rfl | rfl | rfl <;> rfl
  · show V p l e (rmk 5) s m args below meth c 5 D cs ad (QI below s args D cs ad r M') 0 [some (.ref (ad 0)), some (.int a1), some (.int a2), none, none] [] M
    refine x_aload_n C dX7_appeal_0 rfl rfl ?_
    refine x_getr (Cn := RX7) (T := TX7) (N := 7) C tg_0 (by decide) rfl nX7_appeal_7 0 (by decide) rfl kX7_appeal_10 rfl dX7_appeal_1 1 rfl ?_
    refine x_iload_n C dX7_appeal_4 rfl rfl ?_
    obtain ⟨r1, M2, e3, hf⟩ := bd_of hf
    refine x_callV (n := 1) (Cn := RX6) (T := TX6) (N := 8) (As := [.int a1]) (rest := []) (maxL := 2) (ret := (some .boolean)) C (c_X6_hasHousehold tg_1 e3) gX7_appeal_X6_hasHousehold rfl (by decide +kernel) ⟨Nat.le_of_ble_eq_true rfl, Nat.le_of_ble_eq_true rfl⟩ tg_1 (by decide) rfl rfl rfl rfl (Nat.le_of_ble_eq_true rfl) dX7_appeal_5 ?_
    refine x_if_ne (tgt := 13) C dX7_appeal_8 (by decide) (fun q4 => ?_) (fun q4 => ?_)
    · have hf := ift q4 hf
      refine x_iconst (v := (-1 : Int32)) C dX7_appeal_11 (by decide) ?_
      exact x_iret C hr hf dX7_appeal_12
    · have hf := iff_ q4 hf
      refine x_iload_n C dX7_appeal_13 rfl rfl ?_
      refine x_iconst (v := (0 : Int32)) C dX7_appeal_14 (by decide) ?_
      refine x_iconst (v := (2 : Int32)) C dX7_appeal_15 (by decide) ?_
      obtain ⟨r5, M6, e7, hf⟩ := bd_of hf
      refine x_callS (n := 3) (As := [.int a2, .int (0 : Int32), .int (2 : Int32)]) (rest := []) (maxL := 3) (ret := (some .boolean)) C (c_X7_isWithin  e7) gX7_appeal_X7_isWithin rfl (by decide +kernel) ⟨Nat.le_of_ble_eq_true rfl, Nat.le_of_ble_eq_true rfl⟩ rfl rfl rfl (Nat.le_of_ble_eq_true rfl) dX7_appeal_16 ?_
      refine x_if_ne (tgt := 25) C dX7_appeal_19 (by decide) (fun q8 => ?_) (fun q8 => ?_)
      · have hf := ift q8 hf
        refine x_bipush (v := (-2 : Int32)) C dX7_appeal_22 (by decide) ?_
        exact x_iret C hr hf dX7_appeal_24
      · have hf := iff_ q8 hf
        refine x_aload_n C dX7_appeal_25 rfl rfl ?_
        refine x_getr (Cn := RX7) (T := TX7) (N := 7) C tg_0 (by decide) rfl nX7_appeal_7 0 (by decide) rfl kX7_appeal_10 rfl dX7_appeal_26 1 rfl ?_
        refine x_getr (Cn := RX6) (T := TX6) (N := 8) C tg_1 (by decide) rfl nX7_appeal_6 1 (by decide) rfl kX7_appeal_78 rfl dX7_appeal_29 3 rfl ?_
        refine x_iload_n C dX7_appeal_32 rfl rfl ?_
        obtain ⟨g9, hf⟩ := ck_of hf
        have w10 : 3 + 14 + 2 * (a1).toNatClampNeg = (17 + 2 * (a1).toNatClampNeg) := by omega
        have u11 : tg (17 + 2 * (a1).toNatClampNeg) = 2 := te_H (x := a1) tg_3 g9 w10
        refine x_aaldH (j := (a1).toNatClampNeg) C tg_3 tl_3 g9 rfl dX7_appeal_33 (17 + 2 * (a1).toNatClampNeg) w10 ?_
        refine x_astore_n (lv' := [some (.ref (ad 0)), some (.int a1), some (.int a2), some (.ref (ad (17 + 2 * (a1).toNatClampNeg))), none]) C dX7_appeal_34 rfl (by decide) rfl ?_
        refine x_aload_n C dX7_appeal_35 rfl rfl ?_
        refine x_geti (Cn := RX2) (T := TX2) (N := 9) C u11 (by decide) rfl nX7_appeal_2 7 (by decide) rfl kX7_appeal_163 rfl dX7_appeal_36 ?_
        refine x_iconst (v := (2 : Int32)) C dX7_appeal_39 (by decide) ?_
        refine x_icmp_lt (tgt := 46) C dX7_appeal_40 (by decide) (fun q12 => ?_) (fun q12 => ?_)
        · have hf := ift q12 hf
          refine x_aload_n C dX7_appeal_46 rfl rfl ?_
          refine x_getr (Cn := RX7) (T := TX7) (N := 7) C tg_0 (by decide) rfl nX7_appeal_7 3 (by decide) rfl kX7_appeal_26 rfl dX7_appeal_47 81 rfl ?_
          refine x_aload_n C dX7_appeal_50 rfl rfl ?_
          refine x_getr (Cn := RX7) (T := TX7) (N := 7) C tg_0 (by decide) rfl nX7_appeal_7 0 (by decide) rfl kX7_appeal_10 rfl dX7_appeal_51 1 rfl ?_
          obtain ⟨r13, M14, e15, hf⟩ := bd_of hf
          refine x_callVv (n := 1) (Cn := RX1) (T := TX1) (N := 2) (As := [.ref (ad 1)]) (rest := []) (maxL := 2) (ret := none) C (c_X1_record tg_1 e15) gX7_appeal_X1_record rfl (by decide +kernel) ⟨Nat.le_of_ble_eq_true rfl, Nat.le_of_ble_eq_true rfl⟩ tg_81 (by decide) rfl rfl rfl rfl (Nat.le_of_ble_eq_true rfl) dX7_appeal_54 ?_
          refine x_aload_n C dX7_appeal_57 rfl rfl ?_
          refine x_getr (Cn := RX7) (T := TX7) (N := 7) C tg_0 (by decide) rfl nX7_appeal_7 0 (by decide) rfl kX7_appeal_10 rfl dX7_appeal_58 1 rfl ?_
          refine x_aload_n C dX7_appeal_61 rfl rfl ?_
          refine x_iload_n C dX7_appeal_62 rfl rfl ?_
          obtain ⟨r16, M17, e18, hf⟩ := bd_of hf
          refine x_callV (n := 2) (Cn := RX6) (T := TX6) (N := 8) (As := [.ref (ad (17 + 2 * (a1).toNatClampNeg)), .int a2]) (rest := []) (maxL := 3) (ret := (some .boolean)) C (c_X6_reasonHolds tg_1 u11 e18) gX7_appeal_X6_reasonHolds rfl (by decide +kernel) ⟨Nat.le_of_ble_eq_true rfl, Nat.le_of_ble_eq_true rfl⟩ tg_1 (by decide) rfl rfl rfl rfl (Nat.le_of_ble_eq_true rfl) dX7_appeal_63 ?_
          refine x_istore (lv' := [some (.ref (ad 0)), some (.int a1), some (.int a2), some (.ref (ad (17 + 2 * (a1).toNatClampNeg))), some (.int r16)]) C dX7_appeal_66 (by decide) rfl ?_
          refine x_aload_n C dX7_appeal_68 rfl rfl ?_
          refine x_dup C dX7_appeal_69 rfl ?_
          refine x_geti (Cn := RX2) (T := TX2) (N := 9) C u11 (by decide) rfl nX7_appeal_2 7 (by decide) rfl kX7_appeal_163 rfl dX7_appeal_70 ?_
          refine x_iconst (v := (1 : Int32)) C dX7_appeal_73 (by decide) ?_
          refine x_iadd C dX7_appeal_74 ?_
          refine x_puti (ty := .int) (Cn := RX2) (T := TX2) (N := 9) C u11 (by decide) rfl nX7_appeal_2 tyX2 tyX2_ok nmX2 7 (by decide) rfl kX7_appeal_163 rfl rfl (by decide +kernel) rfl rfl dX7_appeal_75 ?_
          refine x_gen hf (fun M19 hf => ?_)
          refine x_iload C dX7_appeal_78 rfl ?_
          refine x_if_ne (tgt := 101) C dX7_appeal_80 (by decide) (fun q20 => ?_) (fun q20 => ?_)
          · have hf := ift q20 hf
            refine x_aload_n C dX7_appeal_83 rfl rfl ?_
            refine x_getr (Cn := RX7) (T := TX7) (N := 7) C tg_0 (by decide) rfl nX7_appeal_7 0 (by decide) rfl kX7_appeal_10 rfl dX7_appeal_84 1 rfl ?_
            refine x_dup C dX7_appeal_87 rfl ?_
            refine x_geti (Cn := RX6) (T := TX6) (N := 8) C tg_1 (by decide) rfl nX7_appeal_6 5 (by decide) rfl kX7_appeal_170 rfl dX7_appeal_88 ?_
            refine x_iconst (v := (1 : Int32)) C dX7_appeal_91 (by decide) ?_
            refine x_iadd C dX7_appeal_92 ?_
            refine x_puti (ty := .int) (Cn := RX6) (T := TX6) (N := 8) C tg_1 (by decide) rfl nX7_appeal_6 tyX6 tyX6_ok nmX6 5 (by decide) rfl kX7_appeal_170 rfl rfl (by decide +kernel) rfl rfl dX7_appeal_93 ?_
            refine x_gen hf (fun M21 hf => ?_)
            refine x_aload_n C dX7_appeal_96 rfl rfl ?_
            refine x_geti (Cn := RX2) (T := TX2) (N := 9) C u11 (by decide) rfl nX7_appeal_2 5 (by decide) rfl kX7_appeal_151 rfl dX7_appeal_97 ?_
            exact x_iret C hr hf dX7_appeal_100
          · have hf := iff_ q20 hf
            refine x_aload_n C dX7_appeal_101 rfl rfl ?_
            refine x_dup C dX7_appeal_102 rfl ?_
            refine x_geti (Cn := RX2) (T := TX2) (N := 9) C u11 (by decide) rfl nX7_appeal_2 5 (by decide) rfl kX7_appeal_151 rfl dX7_appeal_103 ?_
            refine x_iload_n C dX7_appeal_106 rfl rfl ?_
            refine x_iconst (v := (1 : Int32)) C dX7_appeal_107 (by decide) ?_
            refine x_iadd C dX7_appeal_108 ?_
            refine x_iadd C dX7_appeal_109 ?_
            refine x_puti (ty := .int) (Cn := RX2) (T := TX2) (N := 9) C u11 (by decide) rfl nX7_appeal_2 tyX2 tyX2_ok nmX2 5 (by decide) rfl kX7_appeal_151 rfl rfl (by decide +kernel) rfl rfl dX7_appeal_110 ?_
            refine x_gen hf (fun M22 hf => ?_)
            refine x_aload_n C dX7_appeal_113 rfl rfl ?_
            refine x_geti (Cn := RX2) (T := TX2) (N := 9) C u11 (by decide) rfl nX7_appeal_2 5 (by decide) rfl kX7_appeal_151 rfl dX7_appeal_114 ?_
            refine x_bipush (v := (100 : Int32)) C dX7_appeal_117 (by decide) ?_
            refine x_iadd C dX7_appeal_119 ?_
            exact x_iret C hr hf dX7_appeal_120
        · have hf := iff_ q12 hf
          refine x_bipush (v := (-3 : Int32)) C dX7_appeal_43 (by decide) ?_
          exact x_iret C hr hf dX7_appeal_45

