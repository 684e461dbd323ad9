theorem kX8_holder_7 : Cond.fieldLink RX8 7 "FlatLotteryModel" "s" "[I" ∈ wsX8_holder := List.mem_of_getElem? (i := 1) rfl
theorem nX8_holder_8 : ∀ w ∈ u_ws RX8 TX8 13, w ∈ wsX8_holder := in_r [7, 8, 9, 10, 11, 12, 13, 14, 15, 16, 17, 18, 19] (by decide +kernel)
set_option maxHeartbeats 4000000 in
set_option maxRecDepth 100000 in
theorem cl_X8_holder_5 {p : Program} {l : Launch} {e : Env} {s : State} {m : MethodId} {args : Array Value} {below : List Frame} {meth : Method} {c : Code} {D : va_G} {cs : Nat → ClassId} {ad : Nat → Nat} (C : Cx p s m args meth c RX8 cX8_holder 4 wsX8_holder D cs ad) (hr : meth.sig.returnType = some .int) {a1 : Int32} {r : Int32} {M' : Mem}  : ∀ (n : Nat) (a2 : Int32) (a3 : Int32) (M : Mem), l_X8_holder_5 a1 n a2 a3 M = some (r, M') → V p l e (rmk 1) s m args below meth c 4 D cs ad (QI below s args D cs ad r M') 5 [some (.ref (ad 255)), some (.int a1), some (.int a2), some (.int a3)] [] M := by
  intro n
  induction n with
  | zero => intro a2 a3 M hf; cases hf
  | succ n ih =>
    intro a2 a3 M hf
    rw [l_X8_holder_5_s] at hf
    refine x_iload_n C dX8_holder_5 rfl rfl ?_
    refine x_aload_n C dX8_holder_6 rfl rfl ?_
    refine x_getr (Cn := RX8) (T := TX8) (N := 13) C tg_255 (by decide) rfl nX8_holder_8 0 (by decide) rfl kX8_holder_7 rfl dX8_holder_7 256 rfl ?_
    refine x_iconst (v := (1 : Int32)) C dX8_holder_10 (by decide) ?_
    refine x_iald (j := 1) C tg_256 tl_256 (by decide) (by decide) dX8_holder_11 ?_
    refine x_icmp_ge (tgt := 37) C dX8_holder_12 (by decide) (fun q1 => ?_) (fun q1 => ?_)
    · have hf := ift q1 hf
      refine x_iload_n C dX8_holder_37 rfl rfl ?_
      exact x_iret C hr hf dX8_holder_38
    · have hf := iff_ q1 hf
      refine x_aload_n C dX8_holder_15 rfl rfl ?_
      refine x_iload_n C dX8_holder_16 rfl rfl ?_
      refine x_iconst (v := (4 : Int32)) C dX8_holder_17 (by decide) ?_
      obtain ⟨r2, M3, e4, hf⟩ := bd_of hf
      refine x_callV (n := 2) (Cn := RX8) (T := TX8) (N := 13) (As := [.int a3, .int (4 : Int32)]) (rest := []) (maxL := 3) (ret := (some .int)) C (c_X8_of  e4) gX8_holder_X8_of rfl (by decide +kernel) ⟨Nat.le_of_ble_eq_true rfl, Nat.le_of_ble_eq_true rfl⟩ tg_255 (by decide) rfl rfl rfl rfl (Nat.le_of_ble_eq_true rfl) dX8_holder_18 ?_
      refine x_iload_n C dX8_holder_21 rfl rfl ?_
      refine x_icmp_ne (tgt := 29) C dX8_holder_22 (by decide) (fun q5 => ?_) (fun q5 => ?_)
      · have hf := ift q5 hf
        refine x_iload_n C dX8_holder_25 rfl rfl ?_
        refine x_goto (tgt := 30) C dX8_holder_26 (by decide) ?_
        refine x_istore_n (lv' := [some (.ref (ad 255)), some (.int a1), some (.int a3), some (.int a3)]) C dX8_holder_30 rfl (by decide) rfl ?_
        refine x_iinc (d := (1 : Int32)) (v := (a3 + (1 : Int32))) (lv' := [some (.ref (ad 255)), some (.int a1), some (.int a3), some (.int (a3 + (1 : Int32)))]) C dX8_holder_31 rfl (by decide) rfl (by decide) rfl ?_
        refine x_goto (tgt := 5) C dX8_holder_34 (by decide) ?_
        exact x_weak (ih _ _ _ hf) [0, 1, 2, 3] rfl
      · have hf := iff_ q5 hf
        refine x_iload_n C dX8_holder_29 rfl rfl ?_
        refine x_istore_n (lv' := [some (.ref (ad 255)), some (.int a1), some (.int a2), some (.int a3)]) C dX8_holder_30 rfl (by decide) rfl ?_
        refine x_iinc (d := (1 : Int32)) (v := (a3 + (1 : Int32))) (lv' := [some (.ref (ad 255)), some (.int a1), some (.int a2), some (.int (a3 + (1 : Int32)))]) C dX8_holder_31 rfl (by decide) rfl (by decide) rfl ?_
        refine x_goto (tgt := 5) C dX8_holder_34 (by decide) ?_
        exact x_weak (ih _ _ _ hf) [0, 1, 2, 3] rfl

set_option maxHeartbeats 4000000 in
set_option maxRecDepth 100000 in
theorem c_X8_holder {a1 : Int32} {M : Mem} {r : Int32} {M' : Mem}  (hf : f_X8_holder a1 M = some (r, M')) : CnI yX8_holder wsX8_holder 1 (fun ad => [.ref (ad 255), .int a1]) M r M' := by
  unfold f_X8_holder at hf
  refine x_metI (cc := cX8_holder) (maxL := 4) RX8 rfl (by decide) rfl (fun ad => Nat.le_of_ble_eq_true rfl) (fun ad v hv => ?_) (fun p l e s m args below meth c D cs ad C hr => ?_)
  · simp only [List.mem_cons, List.not_mem_nil, or_false] at hv
    rcases hv with rfl | rfl <;> rfl
  · show V p l e (rmk 1) s m args below meth c 4 D cs ad (QI below s args D cs ad r M') 0 [some (.ref (ad 255)), some (.int a1), none, none] [] M
    refine x_bipush (v := (-5 : Int32)) C dX8_holder_0 (by decide) ?_
    refine x_istore_n (lv' := [some (.ref (ad 255)), some (.int a1), some (.int (-5 : Int32)), none]) C dX8_holder_2 rfl (by decide) rfl ?_
    refine x_iconst (v := (0 : Int32)) C dX8_holder_3 (by decide) ?_
    refine x_istore_n (lv' := [some (.ref (ad 255)), some (.int a1), some (.int (-5 : Int32)), some (.int (0 : Int32))]) C dX8_holder_4 rfl (by decide) rfl ?_
    exact x_weak (cl_X8_holder_5 C hr  _ _ _ _ hf) [0, 1, 2, 3] rfl

set_option maxHeartbeats 4000000 in
set_option maxRecDepth 100000 in
theorem c_X8_isDrawn {a1 : Int32} {M : Mem} {r : Int32} {M' : Mem}  (hf : f_X8_isDrawn a1 M = some (r, M')) : CnI yX8_isDrawn wsX8_isDrawn 1 (fun ad => [.ref (ad 255), .int a1]) M r M' := by
  unfold f_X8_isDrawn at hf
  refine x_metI (cc := cX8_isDrawn) (maxL := 2) RX8 rfl (by decide) rfl (fun ad => Nat.le_of_ble_eq_true rfl) (fun ad v hv => ?_) (fun p l e s m args below meth c D cs ad C hr => ?_)
  · simp only [List.mem_cons, List.not_mem_nil, or_false] at hv
    rcases hv with rfl | rfl <;> rfl
  · show V p l e (rmk 1) s m args below meth c 2 D cs ad (QI below s args D cs ad r M') 0 [some (.ref (ad 255)), some (.int a1)] [] M
    refine x_aload_n C dX8_isDrawn_0 rfl rfl ?_
    refine x_iload_n C dX8_isDrawn_1 rfl rfl ?_
    refine x_iconst (v := (2 : Int32)) C dX8_isDrawn_2 (by decide) ?_
    obtain ⟨r1, M2, e3, hf⟩ := bd_of hf
    refine x_callV (n := 2) (Cn := RX8) (T := TX8) (N := 13) (As := [.int a1, .int (2 : Int32)]) (rest := []) (maxL := 3) (ret := (some .int)) C (c_X8_of  e3) gX8_isDrawn_X8_of rfl (by decide +kernel) ⟨Nat.le_of_ble_eq_true rfl, Nat.le_of_ble_eq_true rfl⟩ tg_255 (by decide) rfl rfl rfl rfl (Nat.le_of_ble_eq_true rfl) dX8_isDrawn_3 ?_
    refine x_if_le (tgt := 13) C dX8_isDrawn_6 (by decide) (fun q4 => ?_) (fun q4 => ?_)
    · have hf := ift q4 hf
      refine x_iconst (v := (0 : Int32)) C dX8_isDrawn_13 (by decide) ?_
      exact x_zret C hr rfl hf dX8_isDrawn_14
    · have hf := iff_ q4 hf
      refine x_iconst (v := (1 : Int32)) C dX8_isDrawn_9 (by decide) ?_
      refine x_goto (tgt := 14) C dX8_isDrawn_10 (by decide) ?_
      exact x_zret C hr rfl hf dX8_isDrawn_14

set_option maxHeartbeats 4000000 in
set_option maxRecDepth 100000 in
theorem c_X8_isEligible {a1 : Int32} {a2 : Int32} {M : Mem} {r : Int32} {M' : Mem}  (hf : f_X8_isEligible a1 a2 M = some (r, M')) : CnI yX8_isEligible wsX8_isEligible 1 (fun ad => [.ref (ad 255), .int a1, .int a2]) M r M' := by
  unfold f_X8_isEligible at hf
  refine x_metI (cc := cX8_isEligible) (maxL := 4) RX8 rfl (by decide) rfl (fun ad => Nat.le_of_ble_eq_true rfl) (fun ad v hv => ?_) (fun p l e s m args below meth c D cs ad C hr => ?_)
  · simp only [List.mem_cons, List.not_mem_nil, or_false] at hv
    rcases hv with rfl | rfl | rfl <;> rfl
  · show V p l e (rmk 1) s m args below meth c 4 D cs ad (QI below s args D cs ad r M') 0 [some (.ref (ad 255)), some (.int a1), some (.int a2), none] [] M
    refine x_aload_n C dX8_isEligible_0 rfl rfl ?_
    refine x_iload_n C dX8_isEligible_1 rfl rfl ?_
    refine x_iconst (v := (0 : Int32)) C dX8_isEligible_2 (by decide) ?_
    obtain ⟨r1, M2, e3, hf⟩ := bd_of hf
    refine x_callV (n := 2) (Cn := RX8) (T := TX8) (N := 13) (As := [.int a1, .int (0 : Int32)]) (rest := []) (maxL := 3) (ret := (some .int)) C (c_X8_of  e3) gX8_isEligible_X8_of rfl (by decide +kernel) ⟨Nat.le_of_ble_eq_true rfl, Nat.le_of_ble_eq_true rfl⟩ tg_255 (by decide) rfl rfl rfl rfl (Nat.le_of_ble_eq_true rfl) dX8_isEligible_3 ?_
    refine x_istore_n (lv' := [some (.ref (ad 255)), some (.int a1), some (.int a2), some (.int r1)]) C dX8_isEligible_6 rfl (by decide) rfl ?_
    refine x_iload_n C dX8_isEligible_7 rfl rfl ?_
    refine x_iconst (v := (2 : Int32)) C dX8_isEligible_8 (by decide) ?_
    refine x_aload_n C dX8_isEligible_9 rfl rfl ?_
    refine x_iload_n C dX8_isEligible_10 rfl rfl ?_
    obtain ⟨r4, M5, e6, hf⟩ := bd_of hf
    refine x_callV (n := 1) (Cn := RX8) (T := TX8) (N := 13) (As := [.int a2]) (rest := [.int (2 : Int32), .int r1]) (maxL := 2) (ret := (some .int)) C (c_X8_rooms  e6) gX8_isEligible_X8_rooms rfl (by decide +kernel) ⟨Nat.le_of_ble_eq_true rfl, Nat.le_of_ble_eq_true rfl⟩ tg_255 (by decide) rfl rfl rfl rfl (Nat.le_of_ble_eq_true rfl) dX8_isEligible_11 ?_
    refine x_imul C dX8_isEligible_14 ?_
    refine x_icmp_gt (tgt := 49) C dX8_isEligible_15 (by decide) (fun q7 => ?_) (fun q7 => ?_)
    · have hf := ift q7 hf
      refine x_iconst (v := (0 : Int32)) C dX8_isEligible_49 (by decide) ?_
      exact x_zret C hr rfl hf dX8_isEligible_50
    · have hf := iff_ q7 hf
      refine x_aload_n C dX8_isEligible_18 rfl rfl ?_
      refine x_iload_n C dX8_isEligible_19 rfl rfl ?_
      obtain ⟨r8, M9, e10, hf⟩ := bd_of hf
      refine x_callV (n := 1) (Cn := RX8) (T := TX8) (N := 13) (As := [.int a2]) (rest := []) (maxL := 2) (ret := (some .int)) C (c_X8_rooms  e10) gX8_isEligible_X8_rooms rfl (by decide +kernel) ⟨Nat.le_of_ble_eq_true rfl, Nat.le_of_ble_eq_true rfl⟩ tg_255 (by decide) rfl rfl rfl rfl (Nat.le_of_ble_eq_true rfl) dX8_isEligible_20 ?_
      refine x_iload_n C dX8_isEligible_23 rfl rfl ?_
      refine x_iconst (v := (1 : Int32)) C dX8_isEligible_24 (by decide) ?_
      refine x_iadd C dX8_isEligible_25 ?_
      refine x_icmp_gt (tgt := 49) C dX8_isEligible_26 (by decide) (fun q11 => ?_) (fun q11 => ?_)
      · have hf := ift q11 hf
        refine x_iconst (v := (0 : Int32)) C dX8_isEligible_49 (by decide) ?_
        exact x_zret C hr rfl hf dX8_isEligible_50
      · have hf := iff_ q11 hf
        refine x_iconst (v := (3 : Int32)) C dX8_isEligible_29 (by decide) ?_
        refine x_aload_n C dX8_isEligible_30 rfl rfl ?_
        refine x_iload_n C dX8_isEligible_31 rfl rfl ?_
        obtain ⟨r12, M13, e14, hf⟩ := bd_of hf
        refine x_callV (n := 1) (Cn := RX8) (T := TX8) (N := 13) (As := [.int a2]) (rest := [.int (3 : Int32)]) (maxL := 2) (ret := (some .int)) C (c_X8_rent  e14) gX8_isEligible_X8_rent rfl (by decide +kernel) ⟨Nat.le_of_ble_eq_true rfl, Nat.le_of_ble_eq_true rfl⟩ tg_255 (by decide) rfl rfl rfl rfl (Nat.le_of_ble_eq_true rfl) dX8_isEligible_32 ?_
        refine x_imul C dX8_isEligible_35 ?_
        refine x_aload_n C dX8_isEligible_36 rfl rfl ?_
        refine x_iload_n C dX8_isEligible_37 rfl rfl ?_
        refine x_iconst (v := (1 : Int32)) C dX8_isEligible_38 (by decide) ?_
        obtain ⟨r15, M16, e17, hf⟩ := bd_of hf
        refine x_callV (n := 2) (Cn := RX8) (T := TX8) (N := 13) (As := [.int a1, .int (1 : Int32)]) (rest := [.int ((3 : Int32) * r12)]) (maxL := 3) (ret := (some .int)) C (c_X8_of  e17) gX8_isEligible_X8_of rfl (by decide +kernel) ⟨Nat.le_of_ble_eq_true rfl, Nat.le_of_ble_eq_true rfl⟩ tg_255 (by decide) rfl rfl rfl rfl (Nat.le_of_ble_eq_true rfl) dX8_isEligible_39 ?_
        refine x_icmp_gt (tgt := 49) C dX8_isEligible_42 (by decide) (fun q18 => ?_) (fun q18 => ?_)
        · have hf := ift q18 hf
          refine x_iconst (v := (0 : Int32)) C dX8_isEligible_49 (by decide) ?_
          exact x_zret C hr rfl hf dX8_isEligible_50
        · have hf := iff_ q18 hf
          refine x_iconst (v := (1 : Int32)) C dX8_isEligible_45 (by decide) ?_
          refine x_goto (tgt := 50) C dX8_isEligible_46 (by decide) ?_
          exact x_zret C hr rfl hf dX8_isEligible_50

theorem kX8_isFlat_7 : Cond.fieldLink RX8 7 "FlatLotteryModel" "s" "[I" ∈ wsX8_isFlat := List.mem_of_getElem? (i := 1) rfl
theorem nX8_isFlat_8 : ∀ w ∈ u_ws RX8 TX8 13, w ∈ wsX8_isFlat := in_r [6, 7, 8, 9, 10, 11, 12, 13, 14, 15, 16, 17, 18] (by decide +kernel)
set_option maxHeartbeats 4000000 in
set_option maxRecDepth 100000 in
theorem c_X8_isFlat {a1 : Int32} {M : Mem} {r : Int32} {M' : Mem}  (hf : f_X8_isFlat a1 M = some (r, M')) : CnI yX8_isFlat wsX8_isFlat 1 (fun ad => [.ref (ad 255), .int a1]) M r M' := by
  unfold f_X8_isFlat at hf
  refine x_metI (cc := cX8_isFlat) (maxL := 2) RX8 rfl (by decide) rfl (fun ad => Nat.le_of_ble_eq_true rfl) (fun ad v hv => ?_) (fun p l e s m args below meth c D cs ad C hr => ?_)
  · simp only [List.mem_cons, List.not_mem_nil, or_false] at hv
    rcases hv with rfl | rfl <;> rfl
  · show V p l e (rmk 1) s m args below meth c 2 D cs ad (QI below s args D cs ad r M') 0 [some (.ref (ad 255)), some (.int a1)] [] M
    refine x_iload_n C dX8_isFlat_0 rfl rfl ?_
    refine x_iconst (v := (0 : Int32)) C dX8_isFlat_1 (by decide) ?_
    refine x_aload_n C dX8_isFlat_2 rfl rfl ?_
    refine x_getr (Cn := RX8) (T := TX8) (N := 13) C tg_255 (by decide) rfl nX8_isFlat_8 0 (by decide) rfl kX8_isFlat_7 rfl dX8_isFlat_3 256 rfl ?_
    refine x_iconst (v := (0 : Int32)) C dX8_isFlat_6 (by decide) ?_
    refine x_iald (j := 0) C tg_256 tl_256 (by decide) (by decide) dX8_isFlat_7 ?_
    refine x_iconst (v := (1 : Int32)) C dX8_isFlat_8 (by decide) ?_
    refine x_isub C dX8_isFlat_9 ?_
    obtain ⟨r1, M2, e3, hf⟩ := bd_of hf
    refine x_callS (n := 3) (As := [.int a1, .int (0 : Int32), .int ((M 256 0) - (1 : Int32))]) (rest := []) (maxL := 3) (ret := (some .boolean)) C (c_X8_in  e3) gX8_isFlat_X8_in rfl (by decide +kernel) ⟨Nat.le_of_ble_eq_true rfl, Nat.le_of_ble_eq_true rfl⟩ rfl rfl rfl (Nat.le_of_ble_eq_true rfl) dX8_isFlat_10 ?_
    obtain ⟨g4, hf⟩ := ck_of hf
    exact x_zret C hr (isb_nar g4) hf dX8_isFlat_13

theorem kX8_isHome_7 : Cond.fieldLink RX8 7 "FlatLotteryModel" "s" "[I" ∈ wsX8_isHome := List.mem_of_getElem? (i := 1) rfl
theorem nX8_isHome_8 : ∀ w ∈ u_ws RX8 TX8 13, w ∈ wsX8_isHome := in_r [6, 7, 8, 9, 10, 11, 12, 13, 14, 15, 16, 17, 18] (by decide +kernel)
set_option maxHeartbeats 4000000 in
set_option maxRecDepth 100000 in
theorem c_X8_isHome {a1 : Int32} {M : Mem} {r : Int32} {M' : Mem}  (hf : f_X8_isHome a1 M = some (r, M')) : CnI yX8_isHome wsX8_isHome 1 (fun ad => [.ref (ad 255), .int a1]) M r M' := by
  unfold f_X8_isHome at hf
  refine x_metI (cc := cX8_isHome) (maxL := 2) RX8 rfl (by decide) rfl (fun ad => Nat.le_of_ble_eq_true rfl) (fun ad v hv => ?_) (fun p l e s m args below meth c D cs ad C hr => ?_)
  · simp only [List.mem_cons, List.not_mem_nil, or_false] at hv
    rcases hv with rfl | rfl <;> rfl
  · show V p l e (rmk 1) s m args below meth c 2 D cs ad (QI below s args D cs ad r M') 0 [some (.ref (ad 255)), some (.int a1)] [] M
    refine x_iload_n C dX8_isHome_0 rfl rfl ?_
    refine x_iconst (v := (0 : Int32)) C dX8_isHome_1 (by decide) ?_
    refine x_aload_n C dX8_isHome_2 rfl rfl ?_
    refine x_getr (Cn := RX8) (T := TX8) (N := 13) C tg_255 (by decide) rfl nX8_isHome_8 0 (by decide) rfl kX8_isHome_7 rfl dX8_isHome_3 256 rfl ?_
    refine x_iconst (v := (1 : Int32)) C dX8_isHome_6 (by decide) ?_
    refine x_iald (j := 1) C tg_256 tl_256 (by decide) (by decide) dX8_isHome_7 ?_
    refine x_iconst (v := (1 : Int32)) C dX8_isHome_8 (by decide) ?_
    refine x_isub C dX8_isHome_9 ?_
    obtain ⟨r1, M2, e3, hf⟩ := bd_of hf
    refine x_callS (n := 3) (As := [.int a1, .int (0 : Int32), .int ((M 256 1) - (1 : Int32))]) (rest := []) (maxL := 3) (ret := (some .boolean)) C (c_X8_in  e3) gX8_isHome_X8_in rfl (by decide +kernel) ⟨Nat.le_of_ble_eq_true rfl, Nat.le_of_ble_eq_true rfl⟩ rfl rfl rfl (Nat.le_of_ble_eq_true rfl) dX8_isHome_10 ?_
    obtain ⟨g4, hf⟩ := ck_of hf
    exact x_zret C hr (isb_nar g4) hf dX8_isHome_13

set_option maxHeartbeats 4000000 in
set_option maxRecDepth 100000 in
theorem c_X8_isNumber {a0 : Int32} {a1 : Int32} {M : Mem} {r : Int32} {M' : Mem}  (hf : f_X8_isNumber a0 a1 M = some (r, M')) : CnI yX8_isNumber wsX8_isNumber 1 (fun ad => [.int a0, .int a1]) M r M' := by
  unfold f_X8_isNumber at hf
  refine x_metI (cc := cX8_isNumber) (maxL := 2) RX8 rfl (by decide) rfl (fun ad => Nat.le_of_ble_eq_true rfl) (fun ad v hv => ?_) (fun p l e s m args below meth c D cs ad C hr => ?_)
  · simp only [List.mem_cons, List.not_mem_nil, or_false] at hv
    rcases hv with rfl | rfl <;> rfl
  · show V p l e (rmk 1) s m args below meth c 2 D cs ad (QI below s args D cs ad r M') 0 [some (.int a0), some (.int a1)] [] M
    refine x_iload_n C dX8_isNumber_0 rfl rfl ?_
    refine x_iconst (v := (1 : Int32)) C dX8_isNumber_1 (by decide) ?_
    refine x_iload_n C dX8_isNumber_2 rfl rfl ?_
    refine x_if_eq (tgt := 12) C dX8_isNumber_3 (by decide) (fun q1 => ?_) (fun q1 => ?_)
    · have hf := ift q1 hf
      refine x_bipush (v := (9 : Int32)) C dX8_isNumber_12 (by decide) ?_
      obtain ⟨r2, M3, e4, hf⟩ := bd_of hf
      refine x_callS (n := 3) (As := [.int a1, .int (1 : Int32), .int (9 : Int32)]) (rest := []) (maxL := 3) (ret := (some .boolean)) C (c_X8_in  e4) gX8_isNumber_X8_in rfl (by decide +kernel) ⟨Nat.le_of_ble_eq_true rfl, Nat.le_of_ble_eq_true rfl⟩ rfl rfl rfl (Nat.le_of_ble_eq_true rfl) dX8_isNumber_14 ?_
      obtain ⟨g5, hf⟩ := ck_of hf
      exact x_zret C hr (isb_nar g5) hf dX8_isNumber_17
    · have hf := iff_ q1 hf
      refine x_sipush (v := (9999 : Int32)) C dX8_isNumber_6 (by decide) ?_
      refine x_goto (tgt := 14) C dX8_isNumber_9 (by decide) ?_
      obtain ⟨r6, M7, e8, hf⟩ := bd_of hf
      refine x_callS (n := 3) (As := [.int a1, .int (1 : Int32), .int (9999 : Int32)]) (rest := []) (maxL := 3) (ret := (some .boolean)) C (c_X8_in  e8) gX8_isNumber_X8_in rfl (by decide +kernel) ⟨Nat.le_of_ble_eq_true rfl, Nat.le_of_ble_eq_true rfl⟩ rfl rfl rfl (Nat.le_of_ble_eq_true rfl) dX8_isNumber_14 ?_
      obtain ⟨g9, hf⟩ := ck_of hf
      exact x_zret C hr (isb_nar g9) hf dX8_isNumber_17

set_option maxHeartbeats 4000000 in
set_option maxRecDepth 100000 in
theorem cl_X8_placeOn_6 {p : Program} {l : Launch} {e : Env} {s : State} {m : MethodId} {args : Array Value} {below : List Frame} {meth : Method} {c : Code} {D : va_G} {cs : Nat → ClassId} {ad : Nat → Nat} (C : Cx p s m args meth c RX8 cX8_placeOn 5 wsX8_placeOn D cs ad) (hr : meth.sig.returnType = some .int) {a1 : Int32} {a2 : Int32} {r : Int32} {M' : Mem}  : ∀ (n : Nat) (a3 : Int32) (a4 : Int32) (M : Mem), l_X8_placeOn_6 a1 a2 n a3 a4 M = some (r, M') → V p l e (rmk 1) s m args below meth c 5 D cs ad (QI below s args D cs ad r M') 6 [some (.ref (ad 255)), some (.int a1), some (.int a2), some (.int a3), some (.int a4)] [] M := by
  intro n
  induction n with
  | zero => intro a3 a4 M hf; cases hf
  | succ n ih =>
    intro a3 a4 M hf
    rw [l_X8_placeOn_6_s] at hf
    refine x_iload C dX8_placeOn_6 rfl ?_
    refine x_aload_n C dX8_placeOn_8 rfl rfl ?_
    refine x_iload_n C dX8_placeOn_9 rfl rfl ?_
    refine x_bipush (v := (7 : Int32)) C dX8_placeOn_10 (by decide) ?_
    obtain ⟨r1, M2, e3, hf⟩ := bd_of hf
    refine x_callV (n := 2) (Cn := RX8) (T := TX8) (N := 13) (As := [.int a1, .int (7 : Int32)]) (rest := [.int a4]) (maxL := 3) (ret := (some .int)) C (c_X8_of  e3) gX8_placeOn_X8_of rfl (by decide +kernel) ⟨Nat.le_of_ble_eq_true rfl, Nat.le_of_ble_eq_true rfl⟩ tg_255 (by decide) rfl rfl rfl rfl (Nat.le_of_ble_eq_true rfl) dX8_placeOn_12 ?_
    refine x_icmp_ge (tgt := 45) C dX8_placeOn_15 (by decide) (fun q4 => ?_) (fun q4 => ?_)
    · have hf := ift q4 hf
      refine x_iload_n C dX8_placeOn_45 rfl rfl ?_
      exact x_iret C hr hf dX8_placeOn_46
    · have hf := iff_ q4 hf
      refine x_aload_n C dX8_placeOn_18 rfl rfl ?_
      refine x_iload_n C dX8_placeOn_19 rfl rfl ?_
      refine x_bipush (v := (8 : Int32)) C dX8_placeOn_20 (by decide) ?_
      refine x_iload C dX8_placeOn_22 rfl ?_
      refine x_iadd C dX8_placeOn_24 ?_
      obtain ⟨r5, M6, e7, hf⟩ := bd_of hf
      refine x_callV (n := 2) (Cn := RX8) (T := TX8) (N := 13) (As := [.int a1, .int ((8 : Int32) + a4)]) (rest := []) (maxL := 3) (ret := (some .int)) C (c_X8_of  e7) gX8_placeOn_X8_of rfl (by decide +kernel) ⟨Nat.le_of_ble_eq_true rfl, Nat.le_of_ble_eq_true rfl⟩ tg_255 (by decide) rfl rfl rfl rfl (Nat.le_of_ble_eq_true rfl) dX8_placeOn_25 ?_
      refine x_iload_n C dX8_placeOn_28 rfl rfl ?_
      refine x_icmp_ne (tgt := 37) C dX8_placeOn_29 (by decide) (fun q8 => ?_) (fun q8 => ?_)
      · have hf := ift q8 hf
        refine x_iload C dX8_placeOn_32 rfl ?_
        refine x_goto (tgt := 38) C dX8_placeOn_34 (by decide) ?_
        refine x_istore_n (lv' := [some (.ref (ad 255)), some (.int a1), some (.int a2), some (.int a4), some (.int a4)]) C dX8_placeOn_38 rfl (by decide) rfl ?_
        refine x_iinc (d := (1 : Int32)) (v := (a4 + (1 : Int32))) (lv' := [some (.ref (ad 255)), some (.int a1), some (.int a2), some (.int a4), some (.int (a4 + (1 : Int32)))]) C dX8_placeOn_39 rfl (by decide) rfl (by decide) rfl ?_
        refine x_goto (tgt := 6) C dX8_placeOn_42 (by decide) ?_
        exact x_weak (ih _ _ _ hf) [0, 1, 2, 3, 4] rfl
      · have hf := iff_ q8 hf
        refine x_iload_n C dX8_placeOn_37 rfl rfl ?_
        refine x_istore_n (lv' := [some (.ref (ad 255)), some (.int a1), some (.int a2), some (.int a3), some (.int a4)]) C dX8_placeOn_38 rfl (by decide) rfl ?_
        refine x_iinc (d := (1 : Int32)) (v := (a4 + (1 : Int32))) (lv' := [some (.ref (ad 255)), some (.int a1), some (.int a2), some (.int a3), some (.int (a4 + (1 : Int32)))]) C dX8_placeOn_39 rfl (by decide) rfl (by decide) rfl ?_
        refine x_goto (tgt := 6) C dX8_placeOn_42 (by decide) ?_
        exact x_weak (ih _ _ _ hf) [0, 1, 2, 3, 4] rfl

set_option maxHeartbeats 4000000 in
set_option maxRecDepth 100000 in
theorem c_X8_placeOn {a1 : Int32} {a2 : Int32} {M : Mem} {r : Int32} {M' : Mem}  (hf : f_X8_placeOn a1 a2 M = some (r, M')) : CnI yX8_placeOn wsX8_placeOn 1 (fun ad => [.ref (ad 255), .int a1, .int a2]) M r M' := by
  unfold f_X8_placeOn at hf
  refine x_metI (cc := cX8_placeOn) (maxL := 5) RX8 rfl (by decide) rfl (fun ad => Nat.le_of_ble_eq_true rfl) (fun ad v hv => ?_) (fun p l e s m args below meth c D cs ad C hr => ?_)
  · simp only [List.mem_cons, List.not_mem_nil, or_false] at hv
    rcases hv with rfl | rfl | rfl <;> rfl
  · show V p l e (rmk 1) s m args below meth c 5 D cs ad (QI below s args D cs ad r M') 0 [some (.ref (ad 255)), some (.int a1), some (.int a2), none, none] [] M
    refine x_bipush (v := (-5 : Int32)) C dX8_placeOn_0 (by decide) ?_
    refine x_istore_n (lv' := [some (.ref (ad 255)), some (.int a1), some (.int a2), some (.int (-5 : Int32)), none]) C dX8_placeOn_2 rfl (by decide) rfl ?_
    refine x_iconst (v := (0 : Int32)) C dX8_placeOn_3 (by decide) ?_
    refine x_istore (lv' := [some (.ref (ad 255)), some (.int a1), some (.int a2), some (.int (-5 : Int32)), some (.int (0 : Int32))]) C dX8_placeOn_4 (by decide) rfl ?_
    exact x_weak (cl_X8_placeOn_6 C hr  _ _ _ _ hf) [0, 1, 2, 3, 4] rfl

theorem kX8_records_7 : Cond.fieldLink RX8 7 "FlatLotteryModel" "s" "[I" ∈ wsX8_records := List.mem_of_getElem? (i := 3) rfl
theorem kX8_records_13 : Cond.fieldLink RX8 13 "FlatLotteryModel" "past" "[I" ∈ wsX8_records := List.mem_of_getElem? (i := 2) rfl
theorem kX8_records_36 : Cond.fieldLink RX8 36 "FlatLotteryModel" "saved" "I" ∈ wsX8_records := List.mem_of_getElem? (i := 1) rfl
theorem nX8_records_8 : ∀ w ∈ u_ws RX8 TX8 13, w ∈ wsX8_records := in_r [8, 9, 10, 11, 12, 13, 14, 15, 16, 17, 18, 19, 20] (by decide +kernel)
set_option maxHeartbeats 4000000 in
set_option maxRecDepth 100000 in
theorem cl_X8_records_10 {p : Program} {l : Launch} {e : Env} {s : State} {m : MethodId} {args : Array Value} {below : List Frame} {meth : Method} {c : Code} {D : va_G} {cs : Nat → ClassId} {ad : Nat → Nat} (C : Cx p s m args meth c RX8 cX8_records 2 wsX8_records D cs ad) (hr : meth.sig.returnType = none)  {r : Int32} {M' : Mem}  {k : Mem → Option (Int32 × Mem)} (hk : ∀ (M : Mem), k M = some (r, M') → V p l e (rmk 1) s m args below meth c 2 D cs ad (QV below s args D cs ad M') 39 [some (.ref (ad 255)), none] [] M) : ∀ (n : Nat) (a1 : Int32) (M : Mem), l_X8_records_10 k n a1 M = some (r, M') → V p l e (rmk 1) s m args below meth c 2 D cs ad (QV below s args D cs ad M') 10 [some (.ref (ad 255)), some (.int a1)] [] M := by
  intro n
  induction n with
  | zero => intro a1 M hf; cases hf
  | succ n ih =>
    intro a1 M hf
    rw [l_X8_records_10_s] at hf
    refine x_iload_n C dX8_records_10 rfl rfl ?_
    refine x_sipush (v := (594 : Int32)) C dX8_records_11 (by decide) ?_
    refine x_icmp_ge (tgt := 39) C dX8_records_14 (by decide) (fun q2 => ?_) (fun q2 => ?_)
    · have hf := ift q2 hf
      exact x_weak (hk _ hf) [0] rfl
    · have hf := iff_ q2 hf
      refine x_aload_n C dX8_records_17 rfl rfl ?_
      refine x_getr (Cn := RX8) (T := TX8) (N := 13) C tg_255 (by decide) rfl nX8_records_8 1 (by decide) rfl kX8_records_13 rfl dX8_records_18 257 rfl ?_
      refine x_iload_n C dX8_records_21 rfl rfl ?_
      refine x_aload_n C dX8_records_22 rfl rfl ?_
      refine x_getr (Cn := RX8) (T := TX8) (N := 13) C tg_255 (by decide) rfl nX8_records_8 1 (by decide) rfl kX8_records_13 rfl dX8_records_23 257 rfl ?_
      refine x_iload_n C dX8_records_26 rfl rfl ?_
      refine x_sipush (v := (198 : Int32)) C dX8_records_27 (by decide) ?_
      refine x_iadd C dX8_records_30 ?_
      obtain ⟨g3, hf⟩ := ck_of hf
      refine x_iald (j := ((a1 + (198 : Int32))).toNatClampNeg) C tg_257 tl_257 g3 rfl dX8_records_31 ?_
      obtain ⟨g4, hf⟩ := ck_of hf
      refine x_iast (j := (a1).toNatClampNeg) C tg_257 tl_257 g4 rfl dX8_records_32 ?_
      refine x_gen hf (fun M5 hf => ?_)
      refine x_iinc (d := (1 : Int32)) (v := (a1 + (1 : Int32))) (lv' := [some (.ref (ad 255)), some (.int (a1 + (1 : Int32)))]) C dX8_records_33 rfl (by decide) rfl (by decide) rfl ?_
      refine x_goto (tgt := 10) C dX8_records_36 (by decide) ?_
      exact x_weak (ih _ _ hf) [0, 1] rfl

set_option maxHeartbeats 4000000 in
set_option maxRecDepth 100000 in
theorem c_X8_records  {M : Mem} {r : Int32} {M' : Mem}  (hf : f_X8_records  M = some (r, M')) : CnV yX8_records wsX8_records 1 (fun ad => [.ref (ad 255)]) M M' := by
  unfold f_X8_records at hf
  refine x_metV (cc := cX8_records) (maxL := 2) RX8 rfl (by decide) rfl (fun ad => Nat.le_of_ble_eq_true rfl) (fun ad v hv => ?_) (fun p l e s m args below meth c D cs ad C hr => ?_)
  · simp only [List.mem_cons, List.not_mem_nil, or_false] at hv
    rcases hv with rfl <;> rfl
  · show V p l e (rmk 1) s m args below meth c 2 D cs ad (QV below s args D cs ad M') 0 [some (.ref (ad 255)), none] [] M
    refine x_aload_n C dX8_records_0 rfl rfl ?_
    refine x_geti (Cn := RX8) (T := TX8) (N := 13) C tg_255 (by decide) rfl nX8_records_8 2 (by decide) rfl kX8_records_36 rfl dX8_records_1 ?_
    refine x_iconst (v := (4 : Int32)) C dX8_records_4 (by decide) ?_
    refine x_icmp_ne (tgt := 49) C dX8_records_5 (by decide) (fun q1 => ?_) (fun q1 => ?_)
    · have hf := ift q1 hf
      refine x_iconst (v := (0 : Int32)) C dX8_records_8 (by decide) ?_
      refine x_istore_n (lv' := [some (.ref (ad 255)), some (.int (0 : Int32))]) C dX8_records_9 rfl (by decide) rfl ?_
      refine x_weak (cl_X8_records_10 C hr  (fun M6 hf => ?_) _ _ _ hf) [0, 1] rfl
      refine x_aload_n C dX8_records_39 rfl rfl ?_
      refine x_dup C dX8_records_40 rfl ?_
      refine x_geti (Cn := RX8) (T := TX8) (N := 13) C tg_255 (by decide) rfl nX8_records_8 2 (by decide) rfl kX8_records_36 rfl dX8_records_41 ?_
      refine x_iconst (v := (1 : Int32)) C dX8_records_44 (by decide) ?_
      refine x_isub C dX8_records_45 ?_
      refine x_puti (ty := .int) (Cn := RX8) (T := TX8) (N := 13) C tg_255 (by decide) rfl nX8_records_8 tyX8 tyX8_ok nmX8 2 (by decide) rfl kX8_records_36 rfl rfl (by decide +kernel) rfl rfl dX8_records_46 ?_
      refine x_gen hf (fun M7 hf => ?_)
      refine x_aload_n C dX8_records_49 rfl rfl ?_
      refine x_getr (Cn := RX8) (T := TX8) (N := 13) C tg_255 (by decide) rfl nX8_records_8 0 (by decide) rfl kX8_records_7 rfl dX8_records_50 256 rfl ?_
      refine x_iconst (v := (0 : Int32)) C dX8_records_53 (by decide) ?_
      refine x_aload_n C dX8_records_54 rfl rfl ?_
      refine x_getr (Cn := RX8) (T := TX8) (N := 13) C tg_255 (by decide) rfl nX8_records_8 1 (by decide) rfl kX8_records_13 rfl dX8_records_55 257 rfl ?_
      refine x_sipush (v := (198 : Int32)) C dX8_records_58 (by decide) ?_
      refine x_aload_n C dX8_records_61 rfl rfl ?_
      refine x_geti (Cn := RX8) (T := TX8) (N := 13) C tg_255 (by decide) rfl nX8_records_8 2 (by decide) rfl kX8_records_36 rfl dX8_records_62 ?_
      refine x_imul C dX8_records_65 ?_
      obtain ⟨r8, M9, e10, hf⟩ := bd_of hf
      refine x_callSv (n := 4) (As := [.ref (ad 256), .int (0 : Int32), .ref (ad 257), .int ((198 : Int32) * (M7 255 2))]) (rest := []) (maxL := 5) (ret := none) C (c_X8_lays tg_256 tg_257 e10) gX8_records_X8_lays rfl (by decide +kernel) ⟨Nat.le_of_ble_eq_true rfl, Nat.le_of_ble_eq_true rfl⟩ rfl rfl rfl (Nat.le_of_ble_eq_true rfl) dX8_records_66 ?_
      refine x_aload_n C dX8_records_69 rfl rfl ?_
      refine x_dup C dX8_records_70 rfl ?_
      refine x_geti (Cn := RX8) (T := TX8) (N := 13) C tg_255 (by decide) rfl nX8_records_8 2 (by decide) rfl kX8_records_36 rfl dX8_records_71 ?_
      refine x_iconst (v := (1 : Int32)) C dX8_records_74 (by decide) ?_
      refine x_iadd C dX8_records_75 ?_
      refine x_puti (ty := .int) (Cn := RX8) (T := TX8) (N := 13) C tg_255 (by decide) rfl nX8_records_8 tyX8 tyX8_ok nmX8 2 (by decide) rfl kX8_records_36 rfl rfl (by decide +kernel) rfl rfl dX8_records_76 ?_
      refine x_gen hf (fun M11 hf => ?_)
      exact x_vret C hr hf dX8_records_79
    · have hf := iff_ q1 hf
      refine x_aload_n C dX8_records_49 rfl rfl ?_
      refine x_getr (Cn := RX8) (T := TX8) (N := 13) C tg_255 (by decide) rfl nX8_records_8 0 (by decide) rfl kX8_records_7 rfl dX8_records_50 256 rfl ?_
      refine x_iconst (v := (0 : Int32)) C dX8_records_53 (by decide) ?_
      refine x_aload_n C dX8_records_54 rfl rfl ?_
      refine x_getr (Cn := RX8) (T := TX8) (N := 13) C tg_255 (by decide) rfl nX8_records_8 1 (by decide) rfl kX8_records_13 rfl dX8_records_55 257 rfl ?_
      refine x_sipush (v := (198 : Int32)) C dX8_records_58 (by decide) ?_
      refine x_aload_n C dX8_records_61 rfl rfl ?_
      refine x_geti (Cn := RX8) (T := TX8) (N := 13) C tg_255 (by decide) rfl nX8_records_8 2 (by decide) rfl kX8_records_36 rfl dX8_records_62 ?_
      refine x_imul C dX8_records_65 ?_
      obtain ⟨r12, M13, e14, hf⟩ := bd_of hf
      refine x_callSv (n := 4) (As := [.ref (ad 256), .int (0 : Int32), .ref (ad 257), .int ((198 : Int32) * (M 255 2))]) (rest := []) (maxL := 5) (ret := none) C (c_X8_lays tg_256 tg_257 e14) gX8_records_X8_lays rfl (by decide +kernel) ⟨Nat.le_of_ble_eq_true rfl, Nat.le_of_ble_eq_true rfl⟩ rfl rfl rfl (Nat.le_of_ble_eq_true rfl) dX8_records_66 ?_
      refine x_aload_n C dX8_records_69 rfl rfl ?_
      refine x_dup C dX8_records_70 rfl ?_
      refine x_geti (Cn := RX8) (T := TX8) (N := 13) C tg_255 (by decide) rfl nX8_records_8 2 (by decide) rfl kX8_records_36 rfl dX8_records_71 ?_
      refine x_iconst (v := (1 : Int32)) C dX8_records_74 (by decide) ?_
      refine x_iadd C dX8_records_75 ?_
      refine x_puti (ty := .int) (Cn := RX8) (T := TX8) (N := 13) C tg_255 (by decide) rfl nX8_records_8 tyX8 tyX8_ok nmX8 2 (by decide) rfl kX8_records_36 rfl rfl (by decide +kernel) rfl rfl dX8_records_76 ?_
      refine x_gen hf (fun M15 hf => ?_)
      exact x_vret C hr hf dX8_records_79

theorem kX8_sees_19 : Cond.fieldLink RX8 19 "FlatLotteryModel" "text" "[C" ∈ wsX8_sees := List.mem_of_getElem? (i := 3) rfl
theorem kX8_sees_144 : Cond.fieldLink RX8 144 "FlatLotteryModel" "length" "I" ∈ wsX8_sees := List.mem_of_getElem? (i := 2) rfl
theorem kX8_sees_147 : Cond.fieldLink RX8 147 "FlatLotteryModel" "spot" "I" ∈ wsX8_sees := List.mem_of_getElem? (i := 1) rfl
theorem nX8_sees_8 : ∀ w ∈ u_ws RX8 TX8 13, w ∈ wsX8_sees := in_r [8, 9, 10, 11, 12, 13, 14, 15, 16, 17, 18, 19, 20] (by decide +kernel)
set_option maxHeartbeats 4000000 in
set_option maxRecDepth 100000 in
theorem c_X8_sees {a1 : Int32} {a2 : Int32} {M : Mem} {r : Int32} {M' : Mem}  (hf : f_X8_sees a1 a2 M = some (r, M')) : CnI yX8_sees wsX8_sees 1 (fun ad => [.ref (ad 255), .int a1, .int a2]) M r M' := by
  unfold f_X8_sees at hf
  refine x_metI (cc := cX8_sees) (maxL := 3) RX8 rfl (by decide) rfl (fun ad => Nat.le_of_ble_eq_true rfl) (fun ad v hv => ?_) (fun p l e s m args below meth c D cs ad C hr => ?_)
  · simp only [List.mem_cons, List.not_mem_nil, or_false] at hv
    rcases hv with rfl | rfl | rfl <;> rfl
  · show V p l e (rmk 1) s m args below meth c 3 D cs ad (QI below s args D cs ad r M') 0 [some (.ref (ad 255)), some (.int a1), some (.int a2)] [] M
    refine x_aload_n C dX8_sees_0 rfl rfl ?_
    refine x_geti (Cn := RX8) (T := TX8) (N := 13) C tg_255 (by decide) rfl nX8_sees_8 9 (by decide) rfl kX8_sees_147 rfl dX8_sees_1 ?_
    refine x_aload_n C dX8_sees_4 rfl rfl ?_
    refine x_geti (Cn := RX8) (T := TX8) (N := 13) C tg_255 (by decide) rfl nX8_sees_8 6 (by decide) rfl kX8_sees_144 rfl dX8_sees_5 ?_
    refine x_icmp_ge (tgt := 32) C dX8_sees_8 (by decide) (fun q1 => ?_) (fun q1 => ?_)
    · have hf := ift q1 hf
      refine x_iconst (v := (0 : Int32)) C dX8_sees_32 (by decide) ?_
      exact x_zret C hr rfl hf dX8_sees_33
    · have hf := iff_ q1 hf
      refine x_aload_n C dX8_sees_11 rfl rfl ?_
      refine x_getr (Cn := RX8) (T := TX8) (N := 13) C tg_255 (by decide) rfl nX8_sees_8 5 (by decide) rfl kX8_sees_19 rfl dX8_sees_12 259 rfl ?_
      refine x_aload_n C dX8_sees_15 rfl rfl ?_
      refine x_geti (Cn := RX8) (T := TX8) (N := 13) C tg_255 (by decide) rfl nX8_sees_8 9 (by decide) rfl kX8_sees_147 rfl dX8_sees_16 ?_
      obtain ⟨g2, hf⟩ := ck_of hf
      refine x_cald (j := ((M 255 9)).toNatClampNeg) C tg_259 tl_259 g2 rfl dX8_sees_19 ?_
      refine x_iload_n C dX8_sees_20 rfl rfl ?_
      refine x_iload_n C dX8_sees_21 rfl rfl ?_
      obtain ⟨r3, M4, e5, hf⟩ := bd_of hf
      refine x_callS (n := 3) (As := [.int (M 259 ((M 255 9)).toNatClampNeg), .int a1, .int a2]) (rest := []) (maxL := 3) (ret := (some .boolean)) C (c_X8_in  e5) gX8_sees_X8_in rfl (by decide +kernel) ⟨Nat.le_of_ble_eq_true rfl, Nat.le_of_ble_eq_true rfl⟩ rfl rfl rfl (Nat.le_of_ble_eq_true rfl) dX8_sees_22 ?_
      refine x_if_eq (tgt := 32) C dX8_sees_25 (by decide) (fun q6 => ?_) (fun q6 => ?_)
      · have hf := ift q6 hf
        refine x_iconst (v := (0 : Int32)) C dX8_sees_32 (by decide) ?_
        exact x_zret C hr rfl hf dX8_sees_33
      · have hf := iff_ q6 hf
        refine x_iconst (v := (1 : Int32)) C dX8_sees_28 (by decide) ?_
        refine x_goto (tgt := 33) C dX8_sees_29 (by decide) ?_
        exact x_zret C hr rfl hf dX8_sees_33

set_option maxHeartbeats 4000000 in
set_option maxRecDepth 100000 in
theorem cl_X8_takesOff_13 {p : Program} {l : Launch} {e : Env} {s : State} {m : MethodId} {args : Array Value} {below : List Frame} {meth : Method} {c : Code} {D : va_G} {cs : Nat → ClassId} {ad : Nat → Nat} (C : Cx p s m args meth c RX8 cX8_takesOff 5 wsX8_takesOff D cs ad) (hr : meth.sig.returnType = none) {a1 : Int32} {a3 : Int32} {r : Int32} {M' : Mem}  : ∀ (n : Nat) (a4 : Int32) (M : Mem), l_X8_takesOff_13 a1 a3 n a4 M = some (r, M') → V p l e (rmk 1) s m args below meth c 5 D cs ad (QV below s args D cs ad M') 13 [some (.ref (ad 255)), some (.int a1), none, some (.int a3), some (.int a4)] [] M := by
  intro n
  induction n with
  | zero => intro a4 M hf; cases hf
  | succ n ih =>
    intro a4 M hf
    rw [l_X8_takesOff_13_s] at hf
    refine x_iload C dX8_takesOff_13 rfl ?_
    refine x_iload_n C dX8_takesOff_15 rfl rfl ?_
    refine x_icmp_ge (tgt := 47) C dX8_takesOff_16 (by decide) (fun q4 => ?_) (fun q4 => ?_)
    · have hf := ift q4 hf
      refine x_aload_n C dX8_takesOff_47 rfl rfl ?_
      refine x_iload_n C dX8_takesOff_48 rfl rfl ?_
      refine x_bipush (v := (7 : Int32)) C dX8_takesOff_49 (by decide) ?_
      refine x_iload_n C dX8_takesOff_51 rfl rfl ?_
      obtain ⟨r5, M6, e7, hf⟩ := bd_of hf
      refine x_callVv (n := 3) (Cn := RX8) (T := TX8) (N := 13) (As := [.int a1, .int (7 : Int32), .int a3]) (rest := []) (maxL := 4) (ret := none) C (c_X8_puts  e7) gX8_takesOff_X8_puts rfl (by decide +kernel) ⟨Nat.le_of_ble_eq_true rfl, Nat.le_of_ble_eq_true rfl⟩ tg_255 (by decide) rfl rfl rfl rfl (Nat.le_of_ble_eq_true rfl) dX8_takesOff_52 ?_
      exact x_vret C hr hf dX8_takesOff_55
    · have hf := iff_ q4 hf
      refine x_aload_n C dX8_takesOff_19 rfl rfl ?_
      refine x_iload_n C dX8_takesOff_20 rfl rfl ?_
      refine x_bipush (v := (8 : Int32)) C dX8_takesOff_21 (by decide) ?_
      refine x_iload C dX8_takesOff_23 rfl ?_
      refine x_iadd C dX8_takesOff_25 ?_
      refine x_aload_n C dX8_takesOff_26 rfl rfl ?_
      refine x_iload_n C dX8_takesOff_27 rfl rfl ?_
      refine x_bipush (v := (8 : Int32)) C dX8_takesOff_28 (by decide) ?_
      refine x_iload C dX8_takesOff_30 rfl ?_
      refine x_iadd C dX8_takesOff_32 ?_
      refine x_iconst (v := (1 : Int32)) C dX8_takesOff_33 (by decide) ?_
      refine x_iadd C dX8_takesOff_34 ?_
      obtain ⟨r8, M9, e10, hf⟩ := bd_of hf
      refine x_callV (n := 2) (Cn := RX8) (T := TX8) (N := 13) (As := [.int a1, .int (((8 : Int32) + a4) + (1 : Int32))]) (rest := [.int ((8 : Int32) + a4), .int a1, .ref (ad 255)]) (maxL := 3) (ret := (some .int)) C (c_X8_of  e10) gX8_takesOff_X8_of rfl (by decide +kernel) ⟨Nat.le_of_ble_eq_true rfl, Nat.le_of_ble_eq_true rfl⟩ tg_255 (by decide) rfl rfl rfl rfl (Nat.le_of_ble_eq_true rfl) dX8_takesOff_35 ?_
      obtain ⟨r11, M12, e13, hf⟩ := bd_of hf
      refine x_callVv (n := 3) (Cn := RX8) (T := TX8) (N := 13) (As := [.int a1, .int ((8 : Int32) + a4), .int r8]) (rest := []) (maxL := 4) (ret := none) C (c_X8_puts  e13) gX8_takesOff_X8_puts rfl (by decide +kernel) ⟨Nat.le_of_ble_eq_true rfl, Nat.le_of_ble_eq_true rfl⟩ tg_255 (by decide) rfl rfl rfl rfl (Nat.le_of_ble_eq_true rfl) dX8_takesOff_38 ?_
      refine x_iinc (d := (1 : Int32)) (v := (a4 + (1 : Int32))) (lv' := [some (.ref (ad 255)), some (.int a1), none, some (.int a3), some (.int (a4 + (1 : Int32)))]) C dX8_takesOff_41 rfl (by decide) rfl (by decide) rfl ?_
      refine x_goto (tgt := 13) C dX8_takesOff_44 (by decide) ?_
      exact x_weak (ih _ _ hf) [0, 1, 3, 4] rfl

set_option maxHeartbeats 4000000 in
set_option maxRecDepth 100000 in
theorem c_X8_takesOff {a1 : Int32} {a2 : Int32} {M : Mem} {r : Int32} {M' : Mem}  (hf : f_X8_takesOff a1 a2 M = some (r, M')) : CnV yX8_takesOff wsX8_takesOff 1 (fun ad => [.ref (ad 255), .int a1, .int a2]) M M' := by
  unfold f_X8_takesOff at hf
  refine x_metV (cc := cX8_takesOff) (maxL := 5) RX8 rfl (by decide) rfl (fun ad => Nat.le_of_ble_eq_true rfl) (fun ad v hv => ?_) (fun p l e s m args below meth c D cs ad C hr => ?_)
  · simp only [List.mem_cons, List.not_mem_nil, or_false] at hv
    rcases hv with rfl | rfl | rfl <;> rfl
  · show V p l e (rmk 1) s m args below meth c 5 D cs ad (QV below s args D cs ad M') 0 [some (.ref (ad 255)), some (.int a1), some (.int a2), none, none] [] M
    refine x_aload_n C dX8_takesOff_0 rfl rfl ?_
    refine x_iload_n C dX8_takesOff_1 rfl rfl ?_
    refine x_bipush (v := (7 : Int32)) C dX8_takesOff_2 (by decide) ?_
    obtain ⟨r1, M2, e3, hf⟩ := bd_of hf
    refine x_callV (n := 2) (Cn := RX8) (T := TX8) (N := 13) (As := [.int a1, .int (7 : Int32)]) (rest := []) (maxL := 3) (ret := (some .int)) C (c_X8_of  e3) gX8_takesOff_X8_of rfl (by decide +kernel) ⟨Nat.le_of_ble_eq_true rfl, Nat.le_of_ble_eq_true rfl⟩ tg_255 (by decide) rfl rfl rfl rfl (Nat.le_of_ble_eq_true rfl) dX8_takesOff_4 ?_
    refine x_iconst (v := (1 : Int32)) C dX8_takesOff_7 (by decide) ?_
    refine x_isub C dX8_takesOff_8 ?_
    refine x_istore_n (lv' := [some (.ref (ad 255)), some (.int a1), some (.int a2), some (.int (r1 - (1 : Int32))), none]) C dX8_takesOff_9 rfl (by decide) rfl ?_
    refine x_iload_n C dX8_takesOff_10 rfl rfl ?_
    refine x_istore (lv' := [some (.ref (ad 255)), some (.int a1), some (.int a2), some (.int (r1 - (1 : Int32))), some (.int a2)]) C dX8_takesOff_11 (by decide) rfl ?_
    exact x_weak (cl_X8_takesOff_13 C hr  _ _ _ hf) [0, 1, 3, 4] rfl

theorem kX8_undo_7 : Cond.fieldLink RX8 7 "FlatLotteryModel" "s" "[I" ∈ wsX8_undo := List.mem_of_getElem? (i := 3) rfl
theorem kX8_undo_13 : Cond.fieldLink RX8 13 "FlatLotteryModel" "past" "[I" ∈ wsX8_undo := List.mem_of_getElem? (i := 2) rfl
theorem kX8_undo_36 : Cond.fieldLink RX8 36 "FlatLotteryModel" "saved" "I" ∈ wsX8_undo := List.mem_of_getElem? (i := 1) rfl
theorem nX8_undo_8 : ∀ w ∈ u_ws RX8 TX8 13, w ∈ wsX8_undo := in_r [8, 9, 10, 11, 12, 13, 14, 15, 16, 17, 18, 19, 20] (by decide +kernel)
set_option maxHeartbeats 4000000 in
set_option maxRecDepth 100000 in
theorem c_X8_undo  {M : Mem} {r : Int32} {M' : Mem}  (hf : f_X8_undo  M = some (r, M')) : CnI yX8_undo wsX8_undo 1 (fun ad => [.ref (ad 255)]) M r M' := by
  unfold f_X8_undo at hf
  refine x_metI (cc := cX8_undo) (maxL := 1) RX8 rfl (by decide) rfl (fun ad => Nat.le_of_ble_eq_true rfl) (fun ad v hv => ?_) (fun p l e s m args below meth c D cs ad C hr => ?_)
  · simp only [List.mem_cons, List.not_mem_nil, or_false] at hv
    rcases hv with rfl <;> rfl
  · show V p l e (rmk 1) s m args below meth c 1 D cs ad (QI below s args D cs ad r M') 0 [some (.ref (ad 255))] [] M
    refine x_aload_n C dX8_undo_0 rfl rfl ?_
    refine x_geti (Cn := RX8) (T := TX8) (N := 13) C tg_255 (by decide) rfl nX8_undo_8 2 (by decide) rfl kX8_undo_36 rfl dX8_undo_1 ?_
    refine x_if_ne (tgt := 10) C dX8_undo_4 (by decide) (fun q1 => ?_) (fun q1 => ?_)
    · have hf := ift q1 hf
      refine x_bipush (v := (-5 : Int32)) C dX8_undo_7 (by decide) ?_
      exact x_iret C hr hf dX8_undo_9
    · have hf := iff_ q1 hf
      refine x_aload_n C dX8_undo_10 rfl rfl ?_
      refine x_dup C dX8_undo_11 rfl ?_
      refine x_geti (Cn := RX8) (T := TX8) (N := 13) C tg_255 (by decide) rfl nX8_undo_8 2 (by decide) rfl kX8_undo_36 rfl dX8_undo_12 ?_
      refine x_iconst (v := (1 : Int32)) C dX8_undo_15 (by decide) ?_
      refine x_isub C dX8_undo_16 ?_
      refine x_puti (ty := .int) (Cn := RX8) (T := TX8) (N := 13) C tg_255 (by decide) rfl nX8_undo_8 tyX8 tyX8_ok nmX8 2 (by decide) rfl kX8_undo_36 rfl rfl (by decide +kernel) rfl rfl dX8_undo_17 ?_
      refine x_gen hf (fun M2 hf => ?_)
      refine x_aload_n C dX8_undo_20 rfl rfl ?_
      refine x_getr (Cn := RX8) (T := TX8) (N := 13) C tg_255 (by decide) rfl nX8_undo_8 1 (by decide) rfl kX8_undo_13 rfl dX8_undo_21 257 rfl ?_
      refine x_sipush (v := (198 : Int32)) C dX8_undo_24 (by decide) ?_
      refine x_aload_n C dX8_undo_27 rfl rfl ?_
      refine x_geti (Cn := RX8) (T := TX8) (N := 13) C tg_255 (by decide) rfl nX8_undo_8 2 (by decide) rfl kX8_undo_36 rfl dX8_undo_28 ?_
      refine x_imul C dX8_undo_31 ?_
      refine x_aload_n C dX8_undo_32 rfl rfl ?_
      refine x_getr (Cn := RX8) (T := TX8) (N := 13) C tg_255 (by decide) rfl nX8_undo_8 0 (by decide) rfl kX8_undo_7 rfl dX8_undo_33 256 rfl ?_
      refine x_iconst (v := (0 : Int32)) C dX8_undo_36 (by decide) ?_
      obtain ⟨r3, M4, e5, hf⟩ := bd_of hf
      refine x_callSv (n := 4) (As := [.ref (ad 257), .int ((198 : Int32) * (M2 255 2)), .ref (ad 256), .int (0 : Int32)]) (rest := []) (maxL := 5) (ret := none) C (c_X8_lays tg_257 tg_256 e5) gX8_undo_X8_lays rfl (by decide +kernel) ⟨Nat.le_of_ble_eq_true rfl, Nat.le_of_ble_eq_true rfl⟩ rfl rfl rfl (Nat.le_of_ble_eq_true rfl) dX8_undo_37 ?_
      refine x_aload_n C dX8_undo_40 rfl rfl ?_
      refine x_geti (Cn := RX8) (T := TX8) (N := 13) C tg_255 (by decide) rfl nX8_undo_8 2 (by decide) rfl kX8_undo_36 rfl dX8_undo_41 ?_
      exact x_iret C hr hf dX8_undo_44

theorem kX1_record_11 : Cond.fieldLink RX1 11 "FlatLottery$History" "states" "[LFlatLottery$State;" ∈ wsX1_record := List.mem_of_getElem? (i := 2) rfl
theorem kX1_record_18 : Cond.fieldLink RX1 18 "FlatLottery$History" "size" "I" ∈ wsX1_record := List.mem_of_getElem? (i := 1) rfl
theorem nX1_record_1 : ∀ w ∈ u_ws RX1 TX1 2, w ∈ wsX1_record := in_r [41, 42] (by decide +kernel)
set_option maxHeartbeats 4000000 in
set_option maxRecDepth 100000 in
theorem c_X1_record {a1 : Nat} {M : Mem} {r : Int32} {M' : Mem} (t1 : tg a1 = 6) (hf : f_X1_record a1 M = some (r, M')) : CnV yX1_record wsX1_record 2 (fun ad => [.ref (ad 81), .ref (ad a1)]) M M' := by
  unfold f_X1_record at hf
  refine x_metV (cc := cX1_record) (maxL := 2) RX1 rfl (by decide) rfl (fun ad => Nat.le_of_ble_eq_true rfl) (fun ad v hv => ?_) (fun p l e s m args below meth c D cs ad C hr => ?_)
  · simp only [List.mem_cons, List.not_mem_nil, or_false] at hv
    rcases hv with rfl | rfl <;> rfl
  · show V p l e (rmk 2) s m args below meth c 2 D cs ad (QV below s args D cs ad M') 0 [some (.ref (ad 81)), some (.ref (ad a1))] [] M
    refine x_aload_n C dX1_record_0 rfl rfl ?_
    refine x_geti (Cn := RX1) (T := TX1) (N := 2) C tg_81 (by decide) rfl nX1_record_1 1 (by decide) rfl kX1_record_18 rfl dX1_record_1 ?_
    refine x_iconst (v := (4 : Int32)) C dX1_record_4 (by decide) ?_
    refine x_icmp_lt (tgt := 12) C dX1_record_5 (by decide) (fun q1 => ?_) (fun q1 => ?_)
    · have hf := ift q1 hf
      refine x_aload_n C dX1_record_12 rfl rfl ?_
      refine x_getr (Cn := RX1) (T := TX1) (N := 2) C tg_81 (by decide) rfl nX1_record_1 0 (by decide) rfl kX1_record_11 rfl dX1_record_13 82 rfl ?_
      refine x_aload_n C dX1_record_16 rfl rfl ?_
      refine x_geti (Cn := RX1) (T := TX1) (N := 2) C tg_81 (by decide) rfl nX1_record_1 1 (by decide) rfl kX1_record_18 rfl dX1_record_17 ?_
      obtain ⟨g2, hf⟩ := ck_of hf
      obtain ⟨g3, hf⟩ := ck_of hf
      have w4 : 82 + 1 + 40 * (M 82 ((M 81 1)).toNatClampNeg).toNatClampNeg = (83 + 40 * (M 82 ((M 81 1)).toNatClampNeg).toNatClampNeg) := by omega
      have u5 : tg (83 + 40 * (M 82 ((M 81 1)).toNatClampNeg).toNatClampNeg) = 6 := te_S tg_82 g3 w4
      refine x_aaldS (j := ((M 81 1)).toNatClampNeg) C tg_82 tl_82 g2 rfl dX1_record_20 (83 + 40 * (M 82 ((M 81 1)).toNatClampNeg).toNatClampNeg) w4 ?_
      refine x_aload_n C dX1_record_21 rfl rfl ?_
      obtain ⟨r6, M7, e8, hf⟩ := bd_of hf
      refine x_callVv (n := 1) (Cn := RX6) (T := TX6) (N := 8) (As := [.ref (ad a1)]) (rest := []) (maxL := 3) (ret := none) C (c_X6_copyFrom u5 t1 e8) gX1_record_X6_copyFrom rfl (by decide +kernel) ⟨Nat.le_of_ble_eq_true rfl, Nat.le_of_ble_eq_true rfl⟩ u5 (by decide) rfl rfl rfl rfl (Nat.le_of_ble_eq_true rfl) dX1_record_22 ?_
      refine x_aload_n C dX1_record_25 rfl rfl ?_
      refine x_dup C dX1_record_26 rfl ?_
      refine x_geti (Cn := RX1) (T := TX1) (N := 2) C tg_81 (by decide) rfl nX1_record_1 1 (by decide) rfl kX1_record_18 rfl dX1_record_27 ?_
      refine x_iconst (v := (1 : Int32)) C dX1_record_30 (by decide) ?_
      refine x_iadd C dX1_record_31 ?_
      refine x_puti (ty := .int) (Cn := RX1) (T := TX1) (N := 2) C tg_81 (by decide) rfl nX1_record_1 tyX1 tyX1_ok nmX1 1 (by decide) rfl kX1_record_18 rfl rfl (by decide +kernel) rfl rfl dX1_record_32 ?_
      refine x_gen hf (fun M9 hf => ?_)
      exact x_vret C hr hf dX1_record_35
    · have hf := iff_ q1 hf
      refine x_aload_n C dX1_record_8 rfl rfl ?_
      obtain ⟨r10, M11, e12, hf⟩ := bd_of hf
      refine x_callVv (n := 0) (Cn := RX1) (T := TX1) (N := 2) (As := []) (rest := []) (maxL := 3) (ret := none) C (c_X1_dropOldest  e12) gX1_record_X1_dropOldest rfl (by decide +kernel) ⟨Nat.le_of_ble_eq_true rfl, Nat.le_of_ble_eq_true rfl⟩ tg_81 (by decide) rfl rfl rfl rfl (Nat.le_of_ble_eq_true rfl) dX1_record_9 ?_
      refine x_aload_n C dX1_record_12 rfl rfl ?_
      refine x_getr (Cn := RX1) (T := TX1) (N := 2) C tg_81 (by decide) rfl nX1_record_1 0 (by decide) rfl kX1_record_11 rfl dX1_record_13 82 rfl ?_
      refine x_aload_n C dX1_record_16 rfl rfl ?_
      refine x_geti (Cn := RX1) (T := TX1) (N := 2) C tg_81 (by decide) rfl nX1_record_1 1 (by decide) rfl kX1_record_18 rfl dX1_record_17 ?_
      obtain ⟨g13, hf⟩ := ck_of hf
      obtain ⟨g14, hf⟩ := ck_of hf
      have w15 : 82 + 1 + 40 * (M11 82 ((M11 81 1)).toNatClampNeg).toNatClampNeg = (83 + 40 * (M11 82 ((M11 81 1)).toNatClampNeg).toNatClampNeg) := by omega
      have u16 : tg (83 + 40 * (M11 82 ((M11 81 1)).toNatClampNeg).toNatClampNeg) = 6 := te_S tg_82 g14 w15
      refine x_aaldS (j := ((M11 81 1)).toNatClampNeg) C tg_82 tl_82 g13 rfl dX1_record_20 (83 + 40 * (M11 82 ((M11 81 1)).toNatClampNeg).toNatClampNeg) w15 ?_
      refine x_aload_n C dX1_record_21 rfl rfl ?_
      obtain ⟨r17, M18, e19, hf⟩ := bd_of hf
      refine x_callVv (n := 1) (Cn := RX6) (T := TX6) (N := 8) (As := [.ref (ad a1)]) (rest := []) (maxL := 3) (ret := none) C (c_X6_copyFrom u16 t1 e19) gX1_record_X6_copyFrom rfl (by decide +kernel) ⟨Nat.le_of_ble_eq_true rfl, Nat.le_of_ble_eq_true rfl⟩ u16 (by decide) rfl rfl rfl rfl (Nat.le_of_ble_eq_true rfl) dX1_record_22 ?_
      refine x_aload_n C dX1_record_25 rfl rfl ?_
      refine x_dup C dX1_record_26 rfl ?_
      refine x_geti (Cn := RX1) (T := TX1) (N := 2) C tg_81 (by decide) rfl nX1_record_1 1 (by decide) rfl kX1_record_18 rfl dX1_record_27 ?_
      refine x_iconst (v := (1 : Int32)) C dX1_record_30 (by decide) ?_
      refine x_iadd C dX1_record_31 ?_
      refine x_puti (ty := .int) (Cn := RX1) (T := TX1) (N := 2) C tg_81 (by decide) rfl nX1_record_1 tyX1 tyX1_ok nmX1 1 (by decide) rfl kX1_record_18 rfl rfl (by decide +kernel) rfl rfl dX1_record_32 ?_
      refine x_gen hf (fun M20 hf => ?_)
      exact x_vret C hr hf dX1_record_35

theorem kX1_takeBack_11 : Cond.fieldLink RX1 11 "FlatLottery$History" "states" "[LFlatLottery$State;" ∈ wsX1_takeBack := List.mem_of_getElem? (i := 2) rfl
theorem kX1_takeBack_18 : Cond.fieldLink RX1 18 "FlatLottery$History" "size" "I" ∈ wsX1_takeBack := List.mem_of_getElem? (i := 1) rfl
theorem nX1_takeBack_1 : ∀ w ∈ u_ws RX1 TX1 2, w ∈ wsX1_takeBack := in_r [36, 37] (by decide +kernel)
set_option maxHeartbeats 4000000 in
set_option maxRecDepth 100000 in
theorem c_X1_takeBack {a1 : Nat} {M : Mem} {r : Int32} {M' : Mem} (t1 : tg a1 = 6) (hf : f_X1_takeBack a1 M = some (r, M')) : CnV yX1_takeBack wsX1_takeBack 2 (fun ad => [.ref (ad 81), .ref (ad a1)]) M M' := by
  unfold f_X1_takeBack at hf
  refine x_metV (cc := cX1_takeBack) (maxL := 2) RX1 rfl (by decide) rfl (fun ad => Nat.le_of_ble_eq_true rfl) (fun ad v hv => ?_) (fun p l e s m args below meth c D cs ad C hr => ?_)
  · simp only [List.mem_cons, List.not_mem_nil, or_false] at hv
    rcases hv with rfl | rfl <;> rfl
  · show V p l e (rmk 2) s m args below meth c 2 D cs ad (QV below s args D cs ad M') 0 [some (.ref (ad 81)), some (.ref (ad a1))] [] M
    refine x_aload_n C dX1_takeBack_0 rfl rfl ?_
    refine x_geti (Cn := RX1) (T := TX1) (N := 2) C tg_81 (by decide) rfl nX1_takeBack_1 1 (by decide) rfl kX1_takeBack_18 rfl dX1_takeBack_1 ?_
    refine x_if_le (tgt := 30) C dX1_takeBack_4 (by decide) (fun q1 => ?_) (fun q1 => ?_)
    · have hf := ift q1 hf
      exact x_vret C hr hf dX1_takeBack_30
    · have hf := iff_ q1 hf
      refine x_aload_n C dX1_takeBack_7 rfl rfl ?_
      refine x_dup C dX1_takeBack_8 rfl ?_
      refine x_geti (Cn := RX1) (T := TX1) (N := 2) C tg_81 (by decide) rfl nX1_takeBack_1 1 (by decide) rfl kX1_takeBack_18 rfl dX1_takeBack_9 ?_
      refine x_iconst (v := (1 : Int32)) C dX1_takeBack_12 (by decide) ?_
      refine x_isub C dX1_takeBack_13 ?_
      refine x_puti (ty := .int) (Cn := RX1) (T := TX1) (N := 2) C tg_81 (by decide) rfl nX1_takeBack_1 tyX1 tyX1_ok nmX1 1 (by decide) rfl kX1_takeBack_18 rfl rfl (by decide +kernel) rfl rfl dX1_takeBack_14 ?_
      refine x_gen hf (fun M2 hf => ?_)
      refine x_aload_n C dX1_takeBack_17 rfl rfl ?_
      refine x_aload_n C dX1_takeBack_18 rfl rfl ?_
      refine x_getr (Cn := RX1) (T := TX1) (N := 2) C tg_81 (by decide) rfl nX1_takeBack_1 0 (by decide) rfl kX1_takeBack_11 rfl dX1_takeBack_19 82 rfl ?_
      refine x_aload_n C dX1_takeBack_22 rfl rfl ?_
      refine x_geti (Cn := RX1) (T := TX1) (N := 2) C tg_81 (by decide) rfl nX1_takeBack_1 1 (by decide) rfl kX1_takeBack_18 rfl dX1_takeBack_23 ?_
      obtain ⟨g3, hf⟩ := ck_of hf
      obtain ⟨g4, hf⟩ := ck_of hf
      have w5 : 82 + 1 + 40 * (M2 82 ((M2 81 1)).toNatClampNeg).toNatClampNeg = (83 + 40 * (M2 82 ((M2 81 1)).toNatClampNeg).toNatClampNeg) := by omega
      have u6 : tg (83 + 40 * (M2 82 ((M2 81 1)).toNatClampNeg).toNatClampNeg) = 6 := te_S tg_82 g4 w5
      refine x_aaldS (j := ((M2 81 1)).toNatClampNeg) C tg_82 tl_82 g3 rfl dX1_takeBack_26 (83 + 40 * (M2 82 ((M2 81 1)).toNatClampNeg).toNatClampNeg) w5 ?_
      obtain ⟨r7, M8, e9, hf⟩ := bd_of hf
      refine x_callVv (n := 1) (Cn := RX6) (T := TX6) (N := 8) (As := [.ref (ad (83 + 40 * (M2 82 ((M2 81 1)).toNatClampNeg).toNatClampNeg))]) (rest := []) (maxL := 3) (ret := none) C (c_X6_copyFrom t1 u6 e9) gX1_takeBack_X6_copyFrom rfl (by decide +kernel) ⟨Nat.le_of_ble_eq_true rfl, Nat.le_of_ble_eq_true rfl⟩ t1 (by decide) rfl rfl rfl rfl (Nat.le_of_ble_eq_true rfl) dX1_takeBack_27 ?_
      exact x_vret C hr hf dX1_takeBack_30

theorem kX3_readNumber_29 : Cond.fieldLink RX3 29 "FlatLottery$ListText" "at" "I" ∈ wsX3_readNumber := List.mem_of_getElem? (i := 1) rfl
theorem nX3_readNumber_3 : ∀ w ∈ u_ws RX3 TX3 7, w ∈ wsX3_readNumber := in_r [13, 14, 15, 16, 17, 18, 19] (by decide +kernel)
set_option maxHeartbeats 4000000 in
set_option maxRecDepth 100000 in
theorem c_X3_readNumber  {M : Mem} {r : Int32} {M' : Mem}  (hf : f_X3_readNumber  M = some (r, M')) : CnI yX3_readNumber wsX3_readNumber 2 (fun ad => [.ref (ad 243)]) M r M' := by
  unfold f_X3_readNumber at hf
  refine x_metI (cc := cX3_readNumber) (maxL := 3) RX3 rfl (by decide) rfl (fun ad => Nat.le_of_ble_eq_true rfl) (fun ad v hv => ?_) (fun p l e s m args below meth c D cs ad C hr => ?_)
  · simp only [List.mem_cons, List.not_mem_nil, or_false] at hv
    rcases hv with rfl <;> rfl
  · show V p l e (rmk 2) s m args below meth c 3 D cs ad (QI below s args D cs ad r M') 0 [some (.ref (ad 243)), none, none] [] M
    refine x_aload_n C dX3_readNumber_0 rfl rfl ?_
    obtain ⟨r1, M2, e3, hf⟩ := bd_of hf
    refine x_callV (n := 0) (Cn := RX3) (T := TX3) (N := 7) (As := []) (rest := []) (maxL := 2) (ret := (some .int)) C (c_X3_digitAtHand  e3) gX3_readNumber_X3_digitAtHand rfl (by decide +kernel) ⟨Nat.le_of_ble_eq_true rfl, Nat.le_of_ble_eq_true rfl⟩ tg_243 (by decide) rfl rfl rfl rfl (Nat.le_of_ble_eq_true rfl) dX3_readNumber_1 ?_
    refine x_istore_n (lv' := [some (.ref (ad 243)), some (.int r1), none]) C dX3_readNumber_4 rfl (by decide) rfl ?_
    refine x_iload_n C dX3_readNumber_5 rfl rfl ?_
    refine x_bipush (v := (-5 : Int32)) C dX3_readNumber_6 (by decide) ?_
    refine x_icmp_ne (tgt := 14) C dX3_readNumber_8 (by decide) (fun q4 => ?_) (fun q4 => ?_)
    · have hf := ift q4 hf
      refine x_bipush (v := (-5 : Int32)) C dX3_readNumber_11 (by decide) ?_
      exact x_iret C hr hf dX3_readNumber_13
    · have hf := iff_ q4 hf
      refine x_aload_n C dX3_readNumber_14 rfl rfl ?_
      refine x_dup C dX3_readNumber_15 rfl ?_
      refine x_geti (Cn := RX3) (T := TX3) (N := 7) C tg_243 (by decide) rfl nX3_readNumber_3 6 (by decide) rfl kX3_readNumber_29 rfl dX3_readNumber_16 ?_
      refine x_iconst (v := (1 : Int32)) C dX3_readNumber_19 (by decide) ?_
      refine x_iadd C dX3_readNumber_20 ?_
      refine x_puti (ty := .int) (Cn := RX3) (T := TX3) (N := 7) C tg_243 (by decide) rfl nX3_readNumber_3 tyX3 tyX3_ok nmX3 6 (by decide) rfl kX3_readNumber_29 rfl rfl (by decide +kernel) rfl rfl dX3_readNumber_21 ?_
      refine x_gen hf (fun M5 hf => ?_)
      refine x_aload_n C dX3_readNumber_24 rfl rfl ?_
      obtain ⟨r6, M7, e8, hf⟩ := bd_of hf
      refine x_callV (n := 0) (Cn := RX3) (T := TX3) (N := 7) (As := []) (rest := []) (maxL := 2) (ret := (some .int)) C (c_X3_digitAtHand  e8) gX3_readNumber_X3_digitAtHand rfl (by decide +kernel) ⟨Nat.le_of_ble_eq_true rfl, Nat.le_of_ble_eq_true rfl⟩ tg_243 (by decide) rfl rfl rfl rfl (Nat.le_of_ble_eq_true rfl) dX3_readNumber_25 ?_
      refine x_istore_n (lv' := [some (.ref (ad 243)), some (.int r1), some (.int r6)]) C dX3_readNumber_28 rfl (by decide) rfl ?_
      refine x_iload_n C dX3_readNumber_29 rfl rfl ?_
      refine x_iconst (v := (1 : Int32)) C dX3_readNumber_30 (by decide) ?_
      refine x_icmp_ne (tgt := 45) C dX3_readNumber_31 (by decide) (fun q9 => ?_) (fun q9 => ?_)
      · have hf := ift q9 hf
        refine x_iload_n C dX3_readNumber_34 rfl rfl ?_
        refine x_bipush (v := (-5 : Int32)) C dX3_readNumber_35 (by decide) ?_
        refine x_icmp_eq (tgt := 45) C dX3_readNumber_37 (by decide) (fun q10 => ?_) (fun q10 => ?_)
        · have hf := ift q10 hf
          refine x_iload_n C dX3_readNumber_45 rfl rfl ?_
          exact x_iret C hr hf dX3_readNumber_46
        · have hf := iff_ q10 hf
          refine x_iload_n C dX3_readNumber_40 rfl rfl ?_
          refine x_iconst (v := (1 : Int32)) C dX3_readNumber_41 (by decide) ?_
          refine x_icmp_le (tgt := 47) C dX3_readNumber_42 (by decide) (fun q11 => ?_) (fun q11 => ?_)
          · have hf := ift q11 hf
            refine x_aload_n C dX3_readNumber_47 rfl rfl ?_
            refine x_dup C dX3_readNumber_48 rfl ?_
            refine x_geti (Cn := RX3) (T := TX3) (N := 7) C tg_243 (by decide) rfl nX3_readNumber_3 6 (by decide) rfl kX3_readNumber_29 rfl dX3_readNumber_49 ?_
            refine x_iconst (v := (1 : Int32)) C dX3_readNumber_52 (by decide) ?_
            refine x_iadd C dX3_readNumber_53 ?_
            refine x_puti (ty := .int) (Cn := RX3) (T := TX3) (N := 7) C tg_243 (by decide) rfl nX3_readNumber_3 tyX3 tyX3_ok nmX3 6 (by decide) rfl kX3_readNumber_29 rfl rfl (by decide +kernel) rfl rfl dX3_readNumber_54 ?_
            refine x_gen hf (fun M12 hf => ?_)
            refine x_bipush (v := (10 : Int32)) C dX3_readNumber_57 (by decide) ?_
            refine x_iload_n C dX3_readNumber_59 rfl rfl ?_
            refine x_iadd C dX3_readNumber_60 ?_
            exact x_iret C hr hf dX3_readNumber_61
          · have hf := iff_ q11 hf
            refine x_iload_n C dX3_readNumber_45 rfl rfl ?_
            exact x_iret C hr hf dX3_readNumber_46
      · have hf := iff_ q9 hf
        refine x_iload_n C dX3_readNumber_45 rfl rfl ?_
        exact x_iret C hr hf dX3_readNumber_46

theorem kX4_canHouse_15 : Cond.fieldLink RX4 15 "FlatLottery$Matching" "takenBy" "[I" ∈ wsX4_canHouse := List.mem_of_getElem? (i := 6) rfl
theorem kX4_canHouse_18 : Cond.fieldLink RX4 18 "FlatLottery$Matching" "askedBy" "[I" ∈ wsX4_canHouse := List.mem_of_getElem? (i := 1) rfl
theorem kX4_canHouse_21 : Cond.fieldLink RX4 21 "FlatLottery$Matching" "waiting" "[I" ∈ wsX4_canHouse := List.mem_of_getElem? (i := 2) rfl
theorem kX4_canHouse_34 : Cond.fieldLink RX4 34 "FlatLottery$State" "households" "[LFlatLottery$Household;" ∈ wsX4_canHouse := List.mem_of_getElem? (i := 3) rfl
theorem kX4_canHouse_38 : Cond.fieldLink RX4 38 "FlatLottery$Household" "wishCount" "I" ∈ wsX4_canHouse := List.mem_of_getElem? (i := 4) rfl
theorem kX4_canHouse_43 : Cond.fieldLink RX4 43 "FlatLottery$Household" "wishes" "[I" ∈ wsX4_canHouse := List.mem_of_getElem? (i := 5) rfl
theorem nX4_canHouse_2 : ∀ w ∈ u_ws RX2 TX2 9, w ∈ wsX4_canHouse := in_r [45, 46, 47, 48, 49, 50, 51, 52, 53] (by decide +kernel)
theorem nX4_canHouse_4 : ∀ w ∈ u_ws RX4 TX4 4, w ∈ wsX4_canHouse := in_r [33, 34, 35, 36] (by decide +kernel)
theorem nX4_canHouse_6 : ∀ w ∈ u_ws RX6 TX6 8, w ∈ wsX4_canHouse := in_r [37, 38, 39, 40, 41, 42, 43, 44] (by decide +kernel)
set_option maxHeartbeats 4000000 in
set_option maxRecDepth 100000 in
theorem cl_X4_canHouse_2 {p : Program} {l : Launch} {e : Env} {s : State} {m : MethodId} {args : Array Value} {below : List Frame} {meth : Method} {c : Code} {D : va_G} {cs : Nat → ClassId} {ad : Nat → Nat} (C : Cx p s m args meth c RX4 cX4_canHouse 9 wsX4_canHouse D cs ad) (hr : meth.sig.returnType = some .boolean)  {x1 : Value} {x2 : Value} {r : Int32} {M' : Mem}  {k : Mem → Option (Int32 × Mem)} (hk : ∀ (M : Mem), k M = some (r, M') → V p l e (rmk 2) s m args below meth c 9 D cs ad (QI below s args D cs ad r M') 22 [some (.ref (ad 250)), some (x1), some (x2), none, none, none, none, none, none] [] M) : ∀ (n : Nat) (a3 : Int32) (M : Mem), l_X4_canHouse_2 k n a3 M = some (r, M') → V p l e (rmk 2) s m args below meth c 9 D cs ad (QI below s args D cs ad r M') 2 [some (.ref (ad 250)), some (x1), some (x2), some (.int a3), none, none, none, none, none] [] M := by
  intro n
  induction n with
  | zero => intro a3 M hf; cases hf
  | succ n ih =>
    intro a3 M hf
    rw [l_X4_canHouse_2_s] at hf
    refine x_iload_n C dX4_canHouse_2 rfl rfl ?_
    refine x_bipush (v := (12 : Int32)) C dX4_canHouse_3 (by decide) ?_
    refine x_icmp_ge (tgt := 22) C dX4_canHouse_5 (by decide) (fun q1 => ?_) (fun q1 => ?_)
    · have hf := ift q1 hf
      exact x_weak (hk _ hf) [0, 1, 2] rfl
    · have hf := iff_ q1 hf
      refine x_aload_n C dX4_canHouse_8 rfl rfl ?_
      refine x_getr (Cn := RX4) (T := TX4) (N := 4) C tg_250 (by decide) rfl nX4_canHouse_4 2 (by decide) rfl kX4_canHouse_18 rfl dX4_canHouse_9 253 rfl ?_
      refine x_iload_n C dX4_canHouse_12 rfl rfl ?_
      refine x_bipush (v := (-5 : Int32)) C dX4_canHouse_13 (by decide) ?_
      obtain ⟨g2, hf⟩ := ck_of hf
      refine x_iast (j := (a3).toNatClampNeg) C tg_253 tl_253 g2 rfl dX4_canHouse_15 ?_
      refine x_gen hf (fun M3 hf => ?_)
      refine x_iinc (d := (1 : Int32)) (v := (a3 + (1 : Int32))) (lv' := [some (.ref (ad 250)), some (x1), some (x2), some (.int (a3 + (1 : Int32))), none, none, none, none, none]) C dX4_canHouse_16 rfl (by decide) rfl (by decide) rfl ?_
      refine x_goto (tgt := 2) C dX4_canHouse_19 (by decide) ?_
      exact x_weak (ih _ _ hf) [0, 1, 2, 3] rfl

set_option maxHeartbeats 4000000 in
set_option maxRecDepth 100000 in
theorem cl_X4_canHouse_61 {p : Program} {l : Launch} {e : Env} {s : State} {m : MethodId} {args : Array Value} {below : List Frame} {meth : Method} {c : Code} {D : va_G} {cs : Nat → ClassId} {ad : Nat → Nat} (C : Cx p s m args meth c RX4 cX4_canHouse 9 wsX4_canHouse D cs ad) (hr : meth.sig.returnType = some .boolean) {a2 : Nat} {a5 : Int32} {a6 : Nat} {x4 : Value} {r : Int32} {M' : Mem} (t2 : tg a2 = 6) (t6 : tg a6 = 2) {k : Int32 → Mem → Option (Int32 × Mem)} (hk : ∀ (b3 : Int32) (M : Mem), k b3 M = some (r, M') → V p l e (rmk 2) s m args below meth c 9 D cs ad (QI below s args D cs ad r M') 164 [some (.ref (ad 250)), none, some (.ref (ad a2)), some (.int b3), some (x4), none, none, none, none] [] M) : ∀ (n : Nat) (a3 : Int32) (a7 : Int32) (M : Mem), l_X4_canHouse_61 a2 a5 a6 k n a3 a7 M = some (r, M') → V p l e (rmk 2) s m args below meth c 9 D cs ad (QI below s args D cs ad r M') 61 [some (.ref (ad 250)), none, some (.ref (ad a2)), some (.int a3), some (x4), some (.int a5), some (.ref (ad a6)), some (.int a7), none] [] M := by
  intro n
  induction n with
  | zero => intro a3 a7 M hf; cases hf
  | succ n ih =>
    intro a3 a7 M hf
    rw [l_X4_canHouse_61_s] at hf
    refine x_iload C dX4_canHouse_61 rfl ?_
    refine x_aload C dX4_canHouse_63 rfl ?_
    refine x_geti (Cn := RX2) (T := TX2) (N := 9) C t6 (by decide) rfl nX4_canHouse_2 1 (by decide) rfl kX4_canHouse_38 rfl dX4_canHouse_65 ?_
    refine x_icmp_ge (tgt := 164) C dX4_canHouse_68 (by decide) (fun q11 => ?_) (fun q11 => ?_)
    · have hf := ift q11 hf
      exact x_weak (hk _ _ hf) [0, 2, 3, 4] rfl
    · have hf := iff_ q11 hf
      refine x_aload C dX4_canHouse_71 rfl ?_
      refine x_getr (Cn := RX2) (T := TX2) (N := 9) C t6 (by decide) rfl nX4_canHouse_2 0 (by decide) rfl kX4_canHouse_43 rfl dX4_canHouse_73 (a6 + 1) rfl ?_
      refine x_iload C dX4_canHouse_76 rfl ?_
      obtain ⟨g12, hf⟩ := ck_of hf
      refine x_iald (j := (a7).toNatClampNeg) C (tf_2_0 t6) (tl_2_0 t6) g12 rfl dX4_canHouse_78 ?_
      refine x_istore (lv' := [some (.ref (ad 250)), none, some (.ref (ad a2)), some (.int a3), some (x4), some (.int a5), some (.ref (ad a6)), some (.int a7), some (.int (M (a6 + 1) (a7).toNatClampNeg))]) C dX4_canHouse_79 (by decide) rfl ?_
      refine x_aload_n C dX4_canHouse_81 rfl rfl ?_
      refine x_aload C dX4_canHouse_82 rfl ?_
      refine x_iload C dX4_canHouse_84 rfl ?_
      obtain ⟨r13, M14, e15, hf⟩ := bd_of hf
      refine x_callV (n := 2) (Cn := RX6) (T := TX6) (N := 8) (As := [.ref (ad a6), .int (M (a6 + 1) (a7).toNatClampNeg)]) (rest := []) (maxL := 3) (ret := (some .boolean)) C (c_X6_isEligible t2 t6 e15) gX4_canHouse_X6_isEligible rfl (by decide +kernel) ⟨Nat.le_of_ble_eq_true rfl, Nat.le_of_ble_eq_true rfl⟩ t2 (by decide) rfl rfl rfl rfl (Nat.le_of_ble_eq_true rfl) dX4_canHouse_86 ?_
      refine x_if_eq (tgt := 158) C dX4_canHouse_89 (by decide) (fun q16 => ?_) (fun q16 => ?_)
      · have hf := ift q16 hf
        refine x_iinc (d := (1 : Int32)) (v := (a7 + (1 : Int32))) (lv' := [some (.ref (ad 250)), none, some (.ref (ad a2)), some (.int a3), some (x4), some (.int a5), some (.ref (ad a6)), some (.int (a7 + (1 : Int32))), some (.int (M (a6 + 1) (a7).toNatClampNeg))]) C dX4_canHouse_158 rfl (by decide) rfl (by decide) rfl ?_
        refine x_goto (tgt := 61) C dX4_canHouse_161 (by decide) ?_
        exact x_weak (ih _ _ _ hf) [0, 2, 3, 4, 5, 6, 7] rfl
      · have hf := iff_ q16 hf
        refine x_aload_n C dX4_canHouse_92 rfl rfl ?_
        refine x_getr (Cn := RX4) (T := TX4) (N := 4) C tg_250 (by decide) rfl nX4_canHouse_4 2 (by decide) rfl kX4_canHouse_18 rfl dX4_canHouse_93 253 rfl ?_
        refine x_iload C dX4_canHouse_96 rfl ?_
        obtain ⟨g17, hf⟩ := ck_of hf
        refine x_iald (j := ((M (a6 + 1) (a7).toNatClampNeg)).toNatClampNeg) C tg_253 tl_253 g17 rfl dX4_canHouse_98 ?_
        refine x_bipush (v := (-5 : Int32)) C dX4_canHouse_99 (by decide) ?_
        refine x_icmp_eq (tgt := 107) C dX4_canHouse_101 (by decide) (fun q18 => ?_) (fun q18 => ?_)
        · have hf := ift q18 hf
          refine x_aload_n C dX4_canHouse_107 rfl rfl ?_
          refine x_getr (Cn := RX4) (T := TX4) (N := 4) C tg_250 (by decide) rfl nX4_canHouse_4 2 (by decide) rfl kX4_canHouse_18 rfl dX4_canHouse_108 253 rfl ?_
          refine x_iload C dX4_canHouse_111 rfl ?_
          refine x_iload C dX4_canHouse_113 rfl ?_
          obtain ⟨g19, hf⟩ := ck_of hf
          refine x_iast (j := ((M (a6 + 1) (a7).toNatClampNeg)).toNatClampNeg) C tg_253 tl_253 g19 rfl dX4_canHouse_115 ?_
          refine x_gen hf (fun M20 hf => ?_)
          refine x_aload_n C dX4_canHouse_116 rfl rfl ?_
          refine x_getr (Cn := RX4) (T := TX4) (N := 4) C tg_250 (by decide) rfl nX4_canHouse_4 1 (by decide) rfl kX4_canHouse_15 rfl dX4_canHouse_117 252 rfl ?_
          refine x_iload C dX4_canHouse_120 rfl ?_
          obtain ⟨g21, hf⟩ := ck_of hf
          refine x_iald (j := ((M (a6 + 1) (a7).toNatClampNeg)).toNatClampNeg) C tg_252 tl_252 g21 rfl dX4_canHouse_122 ?_
          refine x_bipush (v := (-5 : Int32)) C dX4_canHouse_123 (by decide) ?_
          refine x_icmp_ne (tgt := 136) C dX4_canHouse_125 (by decide) (fun q22 => ?_) (fun q22 => ?_)
          · have hf := ift q22 hf
            refine x_aload_n C dX4_canHouse_128 rfl rfl ?_
            refine x_iload C dX4_canHouse_129 rfl ?_
            obtain ⟨r23, M24, e25, hf⟩ := bd_of hf
            refine x_callVv (n := 1) (Cn := RX4) (T := TX4) (N := 4) (As := [.int (M (a6 + 1) (a7).toNatClampNeg)]) (rest := []) (maxL := 6) (ret := none) C (c_X4_handOn  e25) gX4_canHouse_X4_handOn rfl (by decide +kernel) ⟨Nat.le_of_ble_eq_true rfl, Nat.le_of_ble_eq_true rfl⟩ tg_250 (by decide) rfl rfl rfl rfl (Nat.le_of_ble_eq_true rfl) dX4_canHouse_131 ?_
            refine x_iconst (v := (1 : Int32)) C dX4_canHouse_134 (by decide) ?_
            exact x_zret C hr rfl hf dX4_canHouse_135
          · have hf := iff_ q22 hf
            refine x_iload_n C dX4_canHouse_136 rfl rfl ?_
            refine x_bipush (v := (12 : Int32)) C dX4_canHouse_137 (by decide) ?_
            refine x_icmp_ge (tgt := 158) C dX4_canHouse_139 (by decide) (fun q26 => ?_) (fun q26 => ?_)
            · have hf := ift q26 hf
              refine x_iinc (d := (1 : Int32)) (v := (a7 + (1 : Int32))) (lv' := [some (.ref (ad 250)), none, some (.ref (ad a2)), some (.int a3), some (x4), some (.int a5), some (.ref (ad a6)), some (.int (a7 + (1 : Int32))), some (.int (M (a6 + 1) (a7).toNatClampNeg))]) C dX4_canHouse_158 rfl (by decide) rfl (by decide) rfl ?_
              refine x_goto (tgt := 61) C dX4_canHouse_161 (by decide) ?_
              exact x_weak (ih _ _ _ hf) [0, 2, 3, 4, 5, 6, 7] rfl
            · have hf := iff_ q26 hf
              refine x_aload_n C dX4_canHouse_142 rfl rfl ?_
              refine x_getr (Cn := RX4) (T := TX4) (N := 4) C tg_250 (by decide) rfl nX4_canHouse_4 3 (by decide) rfl kX4_canHouse_21 rfl dX4_canHouse_143 254 rfl ?_
              refine x_iload_n C dX4_canHouse_146 rfl rfl ?_
              refine x_aload_n C dX4_canHouse_147 rfl rfl ?_
              refine x_getr (Cn := RX4) (T := TX4) (N := 4) C tg_250 (by decide) rfl nX4_canHouse_4 1 (by decide) rfl kX4_canHouse_15 rfl dX4_canHouse_148 252 rfl ?_
              refine x_iload C dX4_canHouse_151 rfl ?_
              obtain ⟨g27, hf⟩ := ck_of hf
              refine x_iald (j := ((M (a6 + 1) (a7).toNatClampNeg)).toNatClampNeg) C tg_252 tl_252 g27 rfl dX4_canHouse_153 ?_
              obtain ⟨g28, hf⟩ := ck_of hf
              refine x_iast (j := (a3).toNatClampNeg) C tg_254 tl_254 g28 rfl dX4_canHouse_154 ?_
              refine x_gen hf (fun M29 hf => ?_)
              refine x_iinc (d := (1 : Int32)) (v := (a3 + (1 : Int32))) (lv' := [some (.ref (ad 250)), none, some (.ref (ad a2)), some (.int (a3 + (1 : Int32))), some (x4), some (.int a5), some (.ref (ad a6)), some (.int a7), some (.int (M (a6 + 1) (a7).toNatClampNeg))]) C dX4_canHouse_155 rfl (by decide) rfl (by decide) rfl ?_
              refine x_iinc (d := (1 : Int32)) (v := (a7 + (1 : Int32))) (lv' := [some (.ref (ad 250)), none, some (.ref (ad a2)), some (.int (a3 + (1 : Int32))), some (x4), some (.int a5), some (.ref (ad a6)), some (.int (a7 + (1 : Int32))), some (.int (M (a6 + 1) (a7).toNatClampNeg))]) C dX4_canHouse_158 rfl (by decide) rfl (by decide) rfl ?_
              refine x_goto (tgt := 61) C dX4_canHouse_161 (by decide) ?_
              exact x_weak (ih _ _ _ hf) [0, 2, 3, 4, 5, 6, 7] rfl
        · have hf := iff_ q18 hf
          refine x_goto (tgt := 158) C dX4_canHouse_104 (by decide) ?_
          refine x_iinc (d := (1 : Int32)) (v := (a7 + (1 : Int32))) (lv' := [some (.ref (ad 250)), none, some (.ref (ad a2)), some (.int a3), some (x4), some (.int a5), some (.ref (ad a6)), some (.int (a7 + (1 : Int32))), some (.int (M (a6 + 1) (a7).toNatClampNeg))]) C dX4_canHouse_158 rfl (by decide) rfl (by decide) rfl ?_
          refine x_goto (tgt := 61) C dX4_canHouse_161 (by decide) ?_
          exact x_weak (ih _ _ _ hf) [0, 2, 3, 4, 5, 6, 7] rfl

set_option maxHeartbeats 4000000 in
set_option maxRecDepth 100000 in
theorem cl_X4_canHouse_34 {p : Program} {l : Launch} {e : Env} {s : State} {m : MethodId} {args : Array Value} {below : List Frame} {meth : Method} {c : Code} {D : va_G} {cs : Nat → ClassId} {ad : Nat → Nat} (C : Cx p s m args meth c RX4 cX4_canHouse 9 wsX4_canHouse D cs ad) (hr : meth.sig.returnType = some .boolean) {a2 : Nat} {r : Int32} {M' : Mem} (t2 : tg a2 = 6) : ∀ (n : Nat) (a3 : Int32) (a4 : Int32) (M : Mem), l_X4_canHouse_34 a2 n a3 a4 M = some (r, M') → V p l e (rmk 2) s m args below meth c 9 D cs ad (QI below s args D cs ad r M') 34 [some (.ref (ad 250)), none, some (.ref (ad a2)), some (.int a3), some (.int a4), none, none, none, none] [] M := by
  intro n
  induction n with
  | zero => intro a3 a4 M hf; cases hf
  | succ n ih =>
    intro a3 a4 M hf
    rw [l_X4_canHouse_34_s] at hf
    refine x_iload C dX4_canHouse_34 rfl ?_
    refine x_iload_n C dX4_canHouse_36 rfl rfl ?_
    refine x_icmp_ge (tgt := 170) C dX4_canHouse_37 (by decide) (fun q6 => ?_) (fun q6 => ?_)
    · have hf := ift q6 hf
      refine x_iconst (v := (0 : Int32)) C dX4_canHouse_170 (by decide) ?_
      exact x_zret C hr rfl hf dX4_canHouse_171
    · have hf := iff_ q6 hf
      refine x_aload_n C dX4_canHouse_40 rfl rfl ?_
      refine x_getr (Cn := RX4) (T := TX4) (N := 4) C tg_250 (by decide) rfl nX4_canHouse_4 3 (by decide) rfl kX4_canHouse_21 rfl dX4_canHouse_41 254 rfl ?_
      refine x_iload C dX4_canHouse_44 rfl ?_
      obtain ⟨g7, hf⟩ := ck_of hf
      refine x_iald (j := (a4).toNatClampNeg) C tg_254 tl_254 g7 rfl dX4_canHouse_46 ?_
      refine x_istore (lv' := [some (.ref (ad 250)), none, some (.ref (ad a2)), some (.int a3), some (.int a4), some (.int (M 254 (a4).toNatClampNeg)), none, none, none]) C dX4_canHouse_47 (by decide) rfl ?_
      refine x_aload_n C dX4_canHouse_49 rfl rfl ?_
      refine x_getr (Cn := RX6) (T := TX6) (N := 8) C t2 (by decide) rfl nX4_canHouse_6 1 (by decide) rfl kX4_canHouse_34 rfl dX4_canHouse_50 (a2 + 2) rfl ?_
      refine x_iload C dX4_canHouse_53 rfl ?_
      obtain ⟨g8, hf⟩ := ck_of hf
      have w9 : (a2 + 2) + 14 + 2 * ((M 254 (a4).toNatClampNeg)).toNatClampNeg = (a2 + 16 + 2 * ((M 254 (a4).toNatClampNeg)).toNatClampNeg) := by omega
      have u10 : tg (a2 + 16 + 2 * ((M 254 (a4).toNatClampNeg)).toNatClampNeg) = 2 := te_H (x := (M 254 (a4).toNatClampNeg)) (tf_6_1 t2) g8 w9
      refine x_aaldH (j := ((M 254 (a4).toNatClampNeg)).toNatClampNeg) C (tf_6_1 t2) (tl_6_1 t2) g8 rfl dX4_canHouse_55 (a2 + 16 + 2 * ((M 254 (a4).toNatClampNeg)).toNatClampNeg) w9 ?_
      refine x_astore (lv' := [some (.ref (ad 250)), none, some (.ref (ad a2)), some (.int a3), some (.int a4), some (.int (M 254 (a4).toNatClampNeg)), some (.ref (ad (a2 + 16 + 2 * ((M 254 (a4).toNatClampNeg)).toNatClampNeg))), none, none]) C dX4_canHouse_56 (by decide) rfl ?_
      refine x_iconst (v := (0 : Int32)) C dX4_canHouse_58 (by decide) ?_
      refine x_istore (lv' := [some (.ref (ad 250)), none, some (.ref (ad a2)), some (.int a3), some (.int a4), some (.int (M 254 (a4).toNatClampNeg)), some (.ref (ad (a2 + 16 + 2 * ((M 254 (a4).toNatClampNeg)).toNatClampNeg))), some (.int (0 : Int32)), none]) C dX4_canHouse_59 (by decide) rfl ?_
      refine x_weak (cl_X4_canHouse_61 C hr t2 u10 (fun b3_61 M30 hf => ?_) _ _ _ _ hf) [0, 2, 3, 4, 5, 6, 7] rfl
      refine x_iinc (d := (1 : Int32)) (v := (a4 + (1 : Int32))) (lv' := [some (.ref (ad 250)), none, some (.ref (ad a2)), some (.int b3_61), some (.int (a4 + (1 : Int32))), none, none, none, none]) C dX4_canHouse_164 rfl (by decide) rfl (by decide) rfl ?_
      refine x_goto (tgt := 34) C dX4_canHouse_167 (by decide) ?_
      exact x_weak (ih _ _ _ hf) [0, 2, 3, 4] rfl

set_option maxHeartbeats 4000000 in
set_option maxRecDepth 100000 in
theorem c_X4_canHouse {a1 : Int32} {a2 : Nat} {M : Mem} {r : Int32} {M' : Mem} (t2 : tg a2 = 6) (hf : f_X4_canHouse a1 a2 M = some (r, M')) : CnI yX4_canHouse wsX4_canHouse 2 (fun ad => [.ref (ad 250), .int a1, .ref (ad a2)]) M r M' := by
  unfold f_X4_canHouse at hf
  refine x_metI (cc := cX4_canHouse) (maxL := 9) RX4 rfl (by decide) rfl (fun ad => Nat.le_of_ble_eq_true rfl) (fun ad v hv => ?_) (fun p l e s m args below meth c D cs ad C hr => ?_)
  · simp only [List.mem_cons, List.not_mem_nil, or_false] at hv
    rcases hv with rfl | rfl | rfl <;> rfl
  · show V p l e (rmk 2) s m args below meth c 9 D cs ad (QI below s args D cs ad r M') 0 [some (.ref (ad 250)), some (.int a1), some (.ref (ad a2)), none, none, none, none, none, none] [] M
    refine x_iconst (v := (0 : Int32)) C dX4_canHouse_0 (by decide) ?_
    refine x_istore_n (lv' := [some (.ref (ad 250)), some (.int a1), some (.ref (ad a2)), some (.int (0 : Int32)), none, none, none, none, none]) C dX4_canHouse_1 rfl (by decide) rfl ?_
    refine x_weak (cl_X4_canHouse_2 C hr  (fun M4 hf => ?_) _ _ _ hf) [0, 1, 2, 3] rfl
    refine x_aload_n C dX4_canHouse_22 rfl rfl ?_
    refine x_getr (Cn := RX4) (T := TX4) (N := 4) C tg_250 (by decide) rfl nX4_canHouse_4 3 (by decide) rfl kX4_canHouse_21 rfl dX4_canHouse_23 254 rfl ?_
    refine x_iconst (v := (0 : Int32)) C dX4_canHouse_26 (by decide) ?_
    refine x_iload_n C dX4_canHouse_27 rfl rfl ?_
    refine x_iast (j := 0) C tg_254 tl_254 (by decide) (by decide) dX4_canHouse_28 ?_
    refine x_gen hf (fun M5 hf => ?_)
    refine x_iconst (v := (1 : Int32)) C dX4_canHouse_29 (by decide) ?_
    refine x_istore_n (lv' := [some (.ref (ad 250)), some (.int a1), some (.ref (ad a2)), some (.int (1 : Int32)), none, none, none, none, none]) C dX4_canHouse_30 rfl (by decide) rfl ?_
    refine x_iconst (v := (0 : Int32)) C dX4_canHouse_31 (by decide) ?_
    refine x_istore (lv' := [some (.ref (ad 250)), some (.int a1), some (.ref (ad a2)), some (.int (1 : Int32)), some (.int (0 : Int32)), none, none, none, none]) C dX4_canHouse_32 (by decide) rfl ?_
    exact x_weak (cl_X4_canHouse_34 C hr t2 _ _ _ _ hf) [0, 2, 3, 4] rfl

theorem kX5_countHouseholds_21 : Cond.fieldLink RX5 21 "FlatLottery$Rings" "size" "I" ∈ wsX5_countHouseholds := List.mem_of_getElem? (i := 1) rfl
theorem nX5_countHouseholds_5 : ∀ w ∈ u_ws RX5 TX5 2, w ∈ wsX5_countHouseholds := in_r [12, 13] (by decide +kernel)
set_option maxHeartbeats 4000000 in
set_option maxRecDepth 100000 in
theorem cl_X5_countHouseholds_4 {p : Program} {l : Launch} {e : Env} {s : State} {m : MethodId} {args : Array Value} {below : List Frame} {meth : Method} {c : Code} {D : va_G} {cs : Nat → ClassId} {ad : Nat → Nat} (C : Cx p s m args meth c RX5 cX5_countHouseholds 3 wsX5_countHouseholds D cs ad) (hr : meth.sig.returnType = some .int)  {r : Int32} {M' : Mem}  : ∀ (n : Nat) (a1 : Int32) (a2 : Int32) (M : Mem), l_X5_countHouseholds_4 n a1 a2 M = some (r, M') → V p l e (rmk 2) s m args below meth c 3 D cs ad (QI below s args D cs ad r M') 4 [some (.ref (ad 248)), some (.int a1), some (.int a2)] [] M := by
  intro n
  induction n with
  | zero => intro a1 a2 M hf; cases hf
  | succ n ih =>
    intro a1 a2 M hf
    rw [l_X5_countHouseholds_4_s] at hf
    refine x_iload_n C dX5_countHouseholds_4 rfl rfl ?_
    refine x_aload_n C dX5_countHouseholds_5 rfl rfl ?_
    refine x_geti (Cn := RX5) (T := TX5) (N := 2) C tg_248 (by decide) rfl nX5_countHouseholds_5 1 (by decide) rfl kX5_countHouseholds_21 rfl dX5_countHouseholds_6 ?_
    refine x_icmp_ge (tgt := 29) C dX5_countHouseholds_9 (by decide) (fun q1 => ?_) (fun q1 => ?_)
    · have hf := ift q1 hf
      refine x_iload_n C dX5_countHouseholds_29 rfl rfl ?_
      exact x_iret C hr hf dX5_countHouseholds_30
    · have hf := iff_ q1 hf
      refine x_aload_n C dX5_countHouseholds_12 rfl rfl ?_
      refine x_iload_n C dX5_countHouseholds_13 rfl rfl ?_
      obtain ⟨r2, M3, e4, hf⟩ := bd_of hf
      refine x_callV (n := 1) (Cn := RX5) (T := TX5) (N := 2) (As := [.int a2]) (rest := []) (maxL := 4) (ret := (some .boolean)) C (c_X5_isInRing  e4) gX5_countHouseholds_X5_isInRing rfl (by decide +kernel) ⟨Nat.le_of_ble_eq_true rfl, Nat.le_of_ble_eq_true rfl⟩ tg_248 (by decide) rfl rfl rfl rfl (Nat.le_of_ble_eq_true rfl) dX5_countHouseholds_14 ?_
      refine x_if_eq (tgt := 23) C dX5_countHouseholds_17 (by decide) (fun q5 => ?_) (fun q5 => ?_)
      · have hf := ift q5 hf
        refine x_iinc (d := (1 : Int32)) (v := (a2 + (1 : Int32))) (lv' := [some (.ref (ad 248)), some (.int a1), some (.int (a2 + (1 : Int32)))]) C dX5_countHouseholds_23 rfl (by decide) rfl (by decide) rfl ?_
        refine x_goto (tgt := 4) C dX5_countHouseholds_26 (by decide) ?_
        exact x_weak (ih _ _ _ hf) [0, 1, 2] rfl
      · have hf := iff_ q5 hf
        refine x_iinc (d := (1 : Int32)) (v := (a1 + (1 : Int32))) (lv' := [some (.ref (ad 248)), some (.int (a1 + (1 : Int32))), some (.int a2)]) C dX5_countHouseholds_20 rfl (by decide) rfl (by decide) rfl ?_
        refine x_iinc (d := (1 : Int32)) (v := (a2 + (1 : Int32))) (lv' := [some (.ref (ad 248)), some (.int (a1 + (1 : Int32))), some (.int (a2 + (1 : Int32)))]) C dX5_countHouseholds_23 rfl (by decide) rfl (by decide) rfl ?_
        refine x_goto (tgt := 4) C dX5_countHouseholds_26 (by decide) ?_
        exact x_weak (ih _ _ _ hf) [0, 1, 2] rfl

set_option maxHeartbeats 4000000 in
set_option maxRecDepth 100000 in
theorem c_X5_countHouseholds  {M : Mem} {r : Int32} {M' : Mem}  (hf : f_X5_countHouseholds  M = some (r, M')) : CnI yX5_countHouseholds wsX5_countHouseholds 2 (fun ad => [.ref (ad 248)]) M r M' := by
  unfold f_X5_countHouseholds at hf
  refine x_metI (cc := cX5_countHouseholds) (maxL := 3) RX5 rfl (by decide) rfl (fun ad => Nat.le_of_ble_eq_true rfl) (fun ad v hv => ?_) (fun p l e s m args below meth c D cs ad C hr => ?_)
  · simp only [List.mem_cons, List.not_mem_nil, or_false] at hv
    rcases hv with rfl <;> rfl
  · show V p l e (rmk 2) s m args below meth c 3 D cs ad (QI below s args D cs ad r M') 0 [some (.ref (ad 248)), none, none] [] M
    refine x_iconst (v := (0 : Int32)) C dX5_countHouseholds_0 (by decide) ?_
    refine x_istore_n (lv' := [some (.ref (ad 248)), some (.int (0 : Int32)), none]) C dX5_countHouseholds_1 rfl (by decide) rfl ?_
    refine x_iconst (v := (0 : Int32)) C dX5_countHouseholds_2 (by decide) ?_
    refine x_istore_n (lv' := [some (.ref (ad 248)), some (.int (0 : Int32)), some (.int (0 : Int32))]) C dX5_countHouseholds_3 rfl (by decide) rfl ?_
    exact x_weak (cl_X5_countHouseholds_4 C hr  _ _ _ _ hf) [0, 1, 2] rfl

theorem kX5_lowestHousehold_21 : Cond.fieldLink RX5 21 "FlatLottery$Rings" "size" "I" ∈ wsX5_lowestHousehold := List.mem_of_getElem? (i := 1) rfl
theorem nX5_lowestHousehold_5 : ∀ w ∈ u_ws RX5 TX5 2, w ∈ wsX5_lowestHousehold := in_r [12, 13] (by decide +kernel)
set_option maxHeartbeats 4000000 in
set_option maxRecDepth 100000 in
theorem cl_X5_lowestHousehold_2 {p : Program} {l : Launch} {e : Env} {s : State} {m : MethodId} {args : Array Value} {below : List Frame} {meth : Method} {c : Code} {D : va_G} {cs : Nat → ClassId} {ad : Nat → Nat} (C : Cx p s m args meth c RX5 cX5_lowestHousehold 2 wsX5_lowestHousehold D cs ad) (hr : meth.sig.returnType = some .int)  {r : Int32} {M' : Mem}  : ∀ (n : Nat) (a1 : Int32) (M : Mem), l_X5_lowestHousehold_2 n a1 M = some (r, M') → V p l e (rmk 2) s m args below meth c 2 D cs ad (QI below s args D cs ad r M') 2 [some (.ref (ad 248)), some (.int a1)] [] M := by
  intro n
  induction n with
  | zero => intro a1 M hf; cases hf
  | succ n ih =>
    intro a1 M hf
    rw [l_X5_lowestHousehold_2_s] at hf
    refine x_iload_n C dX5_lowestHousehold_2 rfl rfl ?_
    refine x_aload_n C dX5_lowestHousehold_3 rfl rfl ?_
    refine x_geti (Cn := RX5) (T := TX5) (N := 2) C tg_248 (by decide) rfl nX5_lowestHousehold_5 1 (by decide) rfl kX5_lowestHousehold_21 rfl dX5_lowestHousehold_4 ?_
    refine x_icmp_ge (tgt := 26) C dX5_lowestHousehold_7 (by decide) (fun q1 => ?_) (fun q1 => ?_)
    · have hf := ift q1 hf
      refine x_bipush (v := (-5 : Int32)) C dX5_lowestHousehold_26 (by decide) ?_
      exact x_iret C hr hf dX5_lowestHousehold_28
    · have hf := iff_ q1 hf
      refine x_aload_n C dX5_lowestHousehold_10 rfl rfl ?_
      refine x_iload_n C dX5_lowestHousehold_11 rfl rfl ?_
      obtain ⟨r2, M3, e4, hf⟩ := bd_of hf
      refine x_callV (n := 1) (Cn := RX5) (T := TX5) (N := 2) (As := [.int a1]) (rest := []) (maxL := 4) (ret := (some .boolean)) C (c_X5_isInRing  e4) gX5_lowestHousehold_X5_isInRing rfl (by decide +kernel) ⟨Nat.le_of_ble_eq_true rfl, Nat.le_of_ble_eq_true rfl⟩ tg_248 (by decide) rfl rfl rfl rfl (Nat.le_of_ble_eq_true rfl) dX5_lowestHousehold_12 ?_
      refine x_if_eq (tgt := 20) C dX5_lowestHousehold_15 (by decide) (fun q5 => ?_) (fun q5 => ?_)
      · have hf := ift q5 hf
        refine x_iinc (d := (1 : Int32)) (v := (a1 + (1 : Int32))) (lv' := [some (.ref (ad 248)), some (.int (a1 + (1 : Int32)))]) C dX5_lowestHousehold_20 rfl (by decide) rfl (by decide) rfl ?_
        refine x_goto (tgt := 2) C dX5_lowestHousehold_23 (by decide) ?_
        exact x_weak (ih _ _ hf) [0, 1] rfl
      · have hf := iff_ q5 hf
        refine x_iload_n C dX5_lowestHousehold_18 rfl rfl ?_
        exact x_iret C hr hf dX5_lowestHousehold_19

set_option maxHeartbeats 4000000 in
set_option maxRecDepth 100000 in
theorem c_X5_lowestHousehold  {M : Mem} {r : Int32} {M' : Mem}  (hf : f_X5_lowestHousehold  M = some (r, M')) : CnI yX5_lowestHousehold wsX5_lowestHousehold 2 (fun ad => [.ref (ad 248)]) M r M' := by
  unfold f_X5_lowestHousehold at hf
  refine x_metI (cc := cX5_lowestHousehold) (maxL := 2) RX5 rfl (by decide) rfl (fun ad => Nat.le_of_ble_eq_true rfl) (fun ad v hv => ?_) (fun p l e s m args below meth c D cs ad C hr => ?_)
  · simp only [List.mem_cons, List.not_mem_nil, or_false] at hv
    rcases hv with rfl <;> rfl
  · show V p l e (rmk 2) s m args below meth c 2 D cs ad (QI below s args D cs ad r M') 0 [some (.ref (ad 248)), none] [] M
    refine x_iconst (v := (0 : Int32)) C dX5_lowestHousehold_0 (by decide) ?_
    refine x_istore_n (lv' := [some (.ref (ad 248)), some (.int (0 : Int32))]) C dX5_lowestHousehold_1 rfl (by decide) rfl ?_
    exact x_weak (cl_X5_lowestHousehold_2 C hr  _ _ _ hf) [0, 1] rfl

theorem kX6_eligibleFor_19 : Cond.fieldLink RX6 19 "FlatLottery$State" "households" "[LFlatLottery$Household;" ∈ wsX6_eligibleFor := List.mem_of_getElem? (i := 2) rfl
theorem kX6_eligibleFor_37 : Cond.fieldLink RX6 37 "FlatLottery$State" "householdCount" "I" ∈ wsX6_eligibleFor := List.mem_of_getElem? (i := 1) rfl
theorem nX6_eligibleFor_6 : ∀ w ∈ u_ws RX6 TX6 8, w ∈ wsX6_eligibleFor := in_r [23, 24, 25, 26, 27, 28, 29, 30] (by decide +kernel)
set_option maxHeartbeats 4000000 in
set_option maxRecDepth 100000 in
theorem cl_X6_eligibleFor_4 {p : Program} {l : Launch} {e : Env} {s : State} {m : MethodId} {args : Array Value} {below : List Frame} {meth : Method} {c : Code} {D : va_G} {cs : Nat → ClassId} {ad : Nat → Nat} (C : Cx p s m args meth c RX6 cX6_eligibleFor 4 wsX6_eligibleFor D cs ad) (hr : meth.sig.returnType = some .int) {a0 : Nat} {a1 : Int32} {r : Int32} {M' : Mem} (t0 : tg a0 = 6) : ∀ (n : Nat) (a2 : Int32) (a3 : Int32) (M : Mem), l_X6_eligibleFor_4 a0 a1 n a2 a3 M = some (r, M') → V p l e (rmk 2) s m args below meth c 4 D cs ad (QI below s args D cs ad r M') 4 [some (.ref (ad a0)), some (.int a1), some (.int a2), some (.int a3)] [] M := by
  intro n
  induction n with
  | zero => intro a2 a3 M hf; cases hf
  | succ n ih =>
    intro a2 a3 M hf
    rw [l_X6_eligibleFor_4_s] at hf
    refine x_iload_n C dX6_eligibleFor_4 rfl rfl ?_
    refine x_aload_n C dX6_eligibleFor_5 rfl rfl ?_
    refine x_geti (Cn := RX6) (T := TX6) (N := 8) C t0 (by decide) rfl nX6_eligibleFor_6 3 (by decide) rfl kX6_eligibleFor_37 rfl dX6_eligibleFor_6 ?_
    refine x_icmp_ge (tgt := 38) C dX6_eligibleFor_9 (by decide) (fun q1 => ?_) (fun q1 => ?_)
    · have hf := ift q1 hf
      refine x_iload_n C dX6_eligibleFor_38 rfl rfl ?_
      exact x_iret C hr hf dX6_eligibleFor_39
    · have hf := iff_ q1 hf
      refine x_aload_n C dX6_eligibleFor_12 rfl rfl ?_
      refine x_aload_n C dX6_eligibleFor_13 rfl rfl ?_
      refine x_getr (Cn := RX6) (T := TX6) (N := 8) C t0 (by decide) rfl nX6_eligibleFor_6 1 (by decide) rfl kX6_eligibleFor_19 rfl dX6_eligibleFor_14 (a0 + 2) rfl ?_
      refine x_iload_n C dX6_eligibleFor_17 rfl rfl ?_
      obtain ⟨g2, hf⟩ := ck_of hf
      have w3 : (a0 + 2) + 14 + 2 * (a3).toNatClampNeg = (a0 + 16 + 2 * (a3).toNatClampNeg) := by omega
      have u4 : tg (a0 + 16 + 2 * (a3).toNatClampNeg) = 2 := te_H (x := a3) (tf_6_1 t0) g2 w3
      refine x_aaldH (j := (a3).toNatClampNeg) C (tf_6_1 t0) (tl_6_1 t0) g2 rfl dX6_eligibleFor_18 (a0 + 16 + 2 * (a3).toNatClampNeg) w3 ?_
      refine x_iload_n C dX6_eligibleFor_19 rfl rfl ?_
      obtain ⟨r5, M6, e7, hf⟩ := bd_of hf
      refine x_callV (n := 2) (Cn := RX6) (T := TX6) (N := 8) (As := [.ref (ad (a0 + 16 + 2 * (a3).toNatClampNeg)), .int a1]) (rest := []) (maxL := 3) (ret := (some .boolean)) C (c_X6_isEligible t0 u4 e7) gX6_eligibleFor_X6_isEligible rfl (by decide +kernel) ⟨Nat.le_of_ble_eq_true rfl, Nat.le_of_ble_eq_true rfl⟩ t0 (by decide) rfl rfl rfl rfl (Nat.le_of_ble_eq_true rfl) dX6_eligibleFor_20 ?_
      refine x_if_eq (tgt := 32) C dX6_eligibleFor_23 (by decide) (fun q8 => ?_) (fun q8 => ?_)
      · have hf := ift q8 hf
        refine x_iinc (d := (1 : Int32)) (v := (a3 + (1 : Int32))) (lv' := [some (.ref (ad a0)), some (.int a1), some (.int a2), some (.int (a3 + (1 : Int32)))]) C dX6_eligibleFor_32 rfl (by decide) rfl (by decide) rfl ?_
        refine x_goto (tgt := 4) C dX6_eligibleFor_35 (by decide) ?_
        exact x_weak (ih _ _ _ hf) [0, 1, 2, 3] rfl
      · have hf := iff_ q8 hf
        refine x_iload_n C dX6_eligibleFor_26 rfl rfl ?_
        refine x_iconst (v := (1 : Int32)) C dX6_eligibleFor_27 (by decide) ?_
        refine x_iload_n C dX6_eligibleFor_28 rfl rfl ?_
        refine x_ishl C dX6_eligibleFor_29 ?_
        refine x_ior C dX6_eligibleFor_30 ?_
        refine x_istore_n (lv' := [some (.ref (ad a0)), some (.int a1), some (.int (a2 ||| ((1 : Int32) <<< (a3 &&& (31 : Int32))))), some (.int a3)]) C dX6_eligibleFor_31 rfl (by decide) rfl ?_
        refine x_iinc (d := (1 : Int32)) (v := (a3 + (1 : Int32))) (lv' := [some (.ref (ad a0)), some (.int a1), some (.int (a2 ||| ((1 : Int32) <<< (a3 &&& (31 : Int32))))), some (.int (a3 + (1 : Int32)))]) C dX6_eligibleFor_32 rfl (by decide) rfl (by decide) rfl ?_
        refine x_goto (tgt := 4) C dX6_eligibleFor_35 (by decide) ?_
        exact x_weak (ih _ _ _ hf) [0, 1, 2, 3] rfl

set_option maxHeartbeats 4000000 in
set_option maxRecDepth 100000 in
theorem c_X6_eligibleFor {a0 : Nat} {a1 : Int32} {M : Mem} {r : Int32} {M' : Mem} (t0 : tg a0 = 6) (hf : f_X6_eligibleFor a0 a1 M = some (r, M')) : CnI yX6_eligibleFor wsX6_eligibleFor 2 (fun ad => [.ref (ad a0), .int a1]) M r M' := by
  unfold f_X6_eligibleFor at hf
  refine x_metI (cc := cX6_eligibleFor) (maxL := 4) RX6 rfl (by decide) rfl (fun ad => Nat.le_of_ble_eq_true rfl) (fun ad v hv => ?_) (fun p l e s m args below meth c D cs ad C hr => ?_)
  · simp only [List.mem_cons, List.not_mem_nil, or_false] at hv
    rcases hv with rfl | rfl <;> rfl
  · show V p l e (rmk 2) s m args below meth c 4 D cs ad (QI below s args D cs ad r M') 0 [some (.ref (ad a0)), some (.int a1), none, none] [] M
    refine x_iconst (v := (0 : Int32)) C dX6_eligibleFor_0 (by decide) ?_
    refine x_istore_n (lv' := [some (.ref (ad a0)), some (.int a1), some (.int (0 : Int32)), none]) C dX6_eligibleFor_1 rfl (by decide) rfl ?_
    refine x_iconst (v := (0 : Int32)) C dX6_eligibleFor_2 (by decide) ?_
    refine x_istore_n (lv' := [some (.ref (ad a0)), some (.int a1), some (.int (0 : Int32)), some (.int (0 : Int32))]) C dX6_eligibleFor_3 rfl (by decide) rfl ?_
    exact x_weak (cl_X6_eligibleFor_4 C hr t0 _ _ _ _ hf) [0, 1, 2, 3] rfl

theorem kX6_envyOf_52 : Cond.fieldLink RX6 52 "FlatLottery$Household" "held" "I" ∈ wsX6_envyOf := List.mem_of_getElem? (i := 1) rfl
theorem nX6_envyOf_2 : ∀ w ∈ u_ws RX2 TX2 9, w ∈ wsX6_envyOf := in_r [39, 40, 41, 42, 43, 44, 45, 46, 47] (by decide +kernel)
set_option maxHeartbeats 4000000 in
set_option maxRecDepth 100000 in
theorem c_X6_envyOf {a0 : Nat} {a1 : Nat} {a2 : Nat} {M : Mem} {r : Int32} {M' : Mem} (t0 : tg a0 = 6) (t1 : tg a1 = 2) (t2 : tg a2 = 2) (hf : f_X6_envyOf a0 a1 a2 M = some (r, M')) : CnI yX6_envyOf wsX6_envyOf 2 (fun ad => [.ref (ad a0), .ref (ad a1), .ref (ad a2)]) M r M' := by
  unfold f_X6_envyOf at hf
  refine x_metI (cc := cX6_envyOf) (maxL := 4) RX6 rfl (by decide) rfl (fun ad => Nat.le_of_ble_eq_true rfl) (fun ad v hv => ?_) (fun p l e s m args below meth c D cs ad C hr => ?_)
  · simp only [List.mem_cons, List.not_mem_nil, or_false] at hv
    rcases hv with rfl | rfl | rfl <;> rfl
  · show V p l e (rmk 2) s m args below meth c 4 D cs ad (QI below s args D cs ad r M') 0 [some (.ref (ad a0)), some (.ref (ad a1)), some (.ref (ad a2)), none] [] M
    refine x_aload_n C dX6_envyOf_0 rfl rfl ?_
    refine x_geti (Cn := RX2) (T := TX2) (N := 9) C t2 (by decide) rfl nX6_envyOf_2 6 (by decide) rfl kX6_envyOf_52 rfl dX6_envyOf_1 ?_
    refine x_istore_n (lv' := [some (.ref (ad a0)), some (.ref (ad a1)), some (.ref (ad a2)), some (.int (M a2 6))]) C dX6_envyOf_4 rfl (by decide) rfl ?_
    refine x_aload_n C dX6_envyOf_5 rfl rfl ?_
    refine x_iload_n C dX6_envyOf_6 rfl rfl ?_
    obtain ⟨r1, M2, e3, hf⟩ := bd_of hf
    refine x_callV (n := 1) (Cn := RX2) (T := TX2) (N := 9) (As := [.int (M a2 6)]) (rest := []) (maxL := 4) (ret := (some .boolean)) C (c_X2_wishesMoreThanItsOwn t1 e3) gX6_envyOf_X2_wishesMoreThanItsOwn rfl (by decide +kernel) ⟨Nat.le_of_ble_eq_true rfl, Nat.le_of_ble_eq_true rfl⟩ t1 (by decide) rfl rfl rfl rfl (Nat.le_of_ble_eq_true rfl) dX6_envyOf_7 ?_
    refine x_if_eq (tgt := 22) C dX6_envyOf_10 (by decide) (fun q4 => ?_) (fun q4 => ?_)
    · have hf := ift q4 hf
      refine x_iconst (v := (0 : Int32)) C dX6_envyOf_22 (by decide) ?_
      exact x_iret C hr hf dX6_envyOf_23
    · have hf := iff_ q4 hf
      refine x_aload_n C dX6_envyOf_13 rfl rfl ?_
      refine x_aload_n C dX6_envyOf_14 rfl rfl ?_
      refine x_iload_n C dX6_envyOf_15 rfl rfl ?_
      obtain ⟨r5, M6, e7, hf⟩ := bd_of hf
      refine x_callV (n := 2) (Cn := RX6) (T := TX6) (N := 8) (As := [.ref (ad a1), .int (M a2 6)]) (rest := []) (maxL := 3) (ret := (some .boolean)) C (c_X6_isEligible t0 t1 e7) gX6_envyOf_X6_isEligible rfl (by decide +kernel) ⟨Nat.le_of_ble_eq_true rfl, Nat.le_of_ble_eq_true rfl⟩ t0 (by decide) rfl rfl rfl rfl (Nat.le_of_ble_eq_true rfl) dX6_envyOf_16 ?_
      refine x_if_ne (tgt := 24) C dX6_envyOf_19 (by decide) (fun q8 => ?_) (fun q8 => ?_)
      · have hf := ift q8 hf
        refine x_iconst (v := (0 : Int32)) C dX6_envyOf_22 (by decide) ?_
        exact x_iret C hr hf dX6_envyOf_23
      · have hf := iff_ q8 hf
        refine x_aload_n C dX6_envyOf_24 rfl rfl ?_
        refine x_aload_n C dX6_envyOf_25 rfl rfl ?_
        obtain ⟨r9, M10, e11, hf⟩ := bd_of hf
        refine x_callV (n := 1) (Cn := RX2) (T := TX2) (N := 9) (As := [.ref (ad a2)]) (rest := []) (maxL := 2) (ret := (some .boolean)) C (c_X2_standsAheadOf t1 t2 e11) gX6_envyOf_X2_standsAheadOf rfl (by decide +kernel) ⟨Nat.le_of_ble_eq_true rfl, Nat.le_of_ble_eq_true rfl⟩ t1 (by decide) rfl rfl rfl rfl (Nat.le_of_ble_eq_true rfl) dX6_envyOf_26 ?_
        refine x_if_eq (tgt := 36) C dX6_envyOf_29 (by decide) (fun q12 => ?_) (fun q12 => ?_)
        · have hf := ift q12 hf
          refine x_iconst (v := (1 : Int32)) C dX6_envyOf_36 (by decide) ?_
          exact x_iret C hr hf dX6_envyOf_37
        · have hf := iff_ q12 hf
          refine x_iconst (v := (2 : Int32)) C dX6_envyOf_32 (by decide) ?_
          refine x_goto (tgt := 37) C dX6_envyOf_33 (by decide) ?_
          exact x_iret C hr hf dX6_envyOf_37

theorem kX6_firstWishOutside_99 : Cond.fieldLink RX6 99 "FlatLottery$Household" "wishCount" "I" ∈ wsX6_firstWishOutside := List.mem_of_getElem? (i := 1) rfl
theorem kX6_firstWishOutside_102 : Cond.fieldLink RX6 102 "FlatLottery$Household" "wishes" "[I" ∈ wsX6_firstWishOutside := List.mem_of_getElem? (i := 2) rfl
theorem nX6_firstWishOutside_2 : ∀ w ∈ u_ws RX2 TX2 9, w ∈ wsX6_firstWishOutside := in_r [23, 24, 25, 26, 27, 28, 29, 30, 31] (by decide +kernel)
set_option maxHeartbeats 4000000 in
set_option maxRecDepth 100000 in
theorem cl_X6_firstWishOutside_2 {p : Program} {l : Launch} {e : Env} {s : State} {m : MethodId} {args : Array Value} {below : List Frame} {meth : Method} {c : Code} {D : va_G} {cs : Nat → ClassId} {ad : Nat → Nat} (C : Cx p s m args meth c RX6 cX6_firstWishOutside 5 wsX6_firstWishOutside D cs ad) (hr : meth.sig.returnType = some .int) {a0 : Nat} {a1 : Int32} {a2 : Nat} {r : Int32} {M' : Mem} (t0 : tg a0 = 6) (t2 : tg a2 = 2) : ∀ (n : Nat) (a3 : Int32) (M : Mem), l_X6_firstWishOutside_2 a0 a1 a2 n a3 M = some (r, M') → V p l e (rmk 2) s m args below meth c 5 D cs ad (QI below s args D cs ad r M') 2 [some (.ref (ad a0)), some (.int a1), some (.ref (ad a2)), some (.int a3), none] [] M := by
  intro n
  induction n with
  | zero => intro a3 M hf; cases hf
  | succ n ih =>
    intro a3 M hf
    rw [l_X6_firstWishOutside_2_s] at hf
    refine x_iload_n C dX6_firstWishOutside_2 rfl rfl ?_
    refine x_aload_n C dX6_firstWishOutside_3 rfl rfl ?_
    refine x_geti (Cn := RX2) (T := TX2) (N := 9) C t2 (by decide) rfl nX6_firstWishOutside_2 1 (by decide) rfl kX6_firstWishOutside_99 rfl dX6_firstWishOutside_4 ?_
    refine x_icmp_ge (tgt := 46) C dX6_firstWishOutside_7 (by decide) (fun q1 => ?_) (fun q1 => ?_)
    · have hf := ift q1 hf
      refine x_bipush (v := (-5 : Int32)) C dX6_firstWishOutside_46 (by decide) ?_
      exact x_iret C hr hf dX6_firstWishOutside_48
    · have hf := iff_ q1 hf
      refine x_aload_n C dX6_firstWishOutside_10 rfl rfl ?_
      refine x_getr (Cn := RX2) (T := TX2) (N := 9) C t2 (by decide) rfl nX6_firstWishOutside_2 0 (by decide) rfl kX6_firstWishOutside_102 rfl dX6_firstWishOutside_11 (a2 + 1) rfl ?_
      refine x_iload_n C dX6_firstWishOutside_14 rfl rfl ?_
      obtain ⟨g2, hf⟩ := ck_of hf
      refine x_iald (j := (a3).toNatClampNeg) C (tf_2_0 t2) (tl_2_0 t2) g2 rfl dX6_firstWishOutside_15 ?_
      refine x_istore (lv' := [some (.ref (ad a0)), some (.int a1), some (.ref (ad a2)), some (.int a3), some (.int (M (a2 + 1) (a3).toNatClampNeg))]) C dX6_firstWishOutside_16 (by decide) rfl ?_
      refine x_iload_n C dX6_firstWishOutside_18 rfl rfl ?_
      refine x_iload C dX6_firstWishOutside_19 rfl ?_
      refine x_ishr C dX6_firstWishOutside_21 ?_
      refine x_iconst (v := (1 : Int32)) C dX6_firstWishOutside_22 (by decide) ?_
      refine x_iand C dX6_firstWishOutside_23 ?_
      refine x_if_ne (tgt := 40) C dX6_firstWishOutside_24 (by decide) (fun q3 => ?_) (fun q3 => ?_)
      · have hf := ift q3 hf
        refine x_aload_n C dX6_firstWishOutside_27 rfl rfl ?_
        refine x_aload_n C dX6_firstWishOutside_28 rfl rfl ?_
        refine x_iload C dX6_firstWishOutside_29 rfl ?_
        obtain ⟨r4, M5, e6, hf⟩ := bd_of hf
        refine x_callV (n := 2) (Cn := RX6) (T := TX6) (N := 8) (As := [.ref (ad a2), .int (M (a2 + 1) (a3).toNatClampNeg)]) (rest := []) (maxL := 3) (ret := (some .boolean)) C (c_X6_isEligible t0 t2 e6) gX6_firstWishOutside_X6_isEligible rfl (by decide +kernel) ⟨Nat.le_of_ble_eq_true rfl, Nat.le_of_ble_eq_true rfl⟩ t0 (by decide) rfl rfl rfl rfl (Nat.le_of_ble_eq_true rfl) dX6_firstWishOutside_31 ?_
        refine x_if_eq (tgt := 40) C dX6_firstWishOutside_34 (by decide) (fun q7 => ?_) (fun q7 => ?_)
        · have hf := ift q7 hf
          refine x_iinc (d := (1 : Int32)) (v := (a3 + (1 : Int32))) (lv' := [some (.ref (ad a0)), some (.int a1), some (.ref (ad a2)), some (.int (a3 + (1 : Int32))), some (.int (M (a2 + 1) (a3).toNatClampNeg))]) C dX6_firstWishOutside_40 rfl (by decide) rfl (by decide) rfl ?_
          refine x_goto (tgt := 2) C dX6_firstWishOutside_43 (by decide) ?_
          exact x_weak (ih _ _ hf) [0, 1, 2, 3] rfl
        · have hf := iff_ q7 hf
          refine x_iload C dX6_firstWishOutside_37 rfl ?_
          exact x_iret C hr hf dX6_firstWishOutside_39
      · have hf := iff_ q3 hf
        refine x_iinc (d := (1 : Int32)) (v := (a3 + (1 : Int32))) (lv' := [some (.ref (ad a0)), some (.int a1), some (.ref (ad a2)), some (.int (a3 + (1 : Int32))), some (.int (M (a2 + 1) (a3).toNatClampNeg))]) C dX6_firstWishOutside_40 rfl (by decide) rfl (by decide) rfl ?_
        refine x_goto (tgt := 2) C dX6_firstWishOutside_43 (by decide) ?_
        exact x_weak (ih _ _ hf) [0, 1, 2, 3] rfl

set_option maxHeartbeats 4000000 in
set_option maxRecDepth 100000 in
theorem c_X6_firstWishOutside {a0 : Nat} {a1 : Int32} {a2 : Nat} {M : Mem} {r : Int32} {M' : Mem} (t0 : tg a0 = 6) (t2 : tg a2 = 2) (hf : f_X6_firstWishOutside a0 a1 a2 M = some (r, M')) : CnI yX6_firstWishOutside wsX6_firstWishOutside 2 (fun ad => [.ref (ad a0), .int a1, .ref (ad a2)]) M r M' := by
  unfold f_X6_firstWishOutside at hf
  refine x_metI (cc := cX6_firstWishOutside) (maxL := 5) RX6 rfl (by decide) rfl (fun ad => Nat.le_of_ble_eq_true rfl) (fun ad v hv => ?_) (fun p l e s m args below meth c D cs ad C hr => ?_)
  · simp only [List.mem_cons, List.not_mem_nil, or_false] at hv
    rcases hv with rfl | rfl | rfl <;> rfl
  · show V p l e (rmk 2) s m args below meth c 5 D cs ad (QI below s args D cs ad r M') 0 [some (.ref (ad a0)), some (.int a1), some (.ref (ad a2)), none, none] [] M
    refine x_iconst (v := (0 : Int32)) C dX6_firstWishOutside_0 (by decide) ?_
    refine x_istore_n (lv' := [some (.ref (ad a0)), some (.int a1), some (.ref (ad a2)), some (.int (0 : Int32)), none]) C dX6_firstWishOutside_1 rfl (by decide) rfl ?_
    exact x_weak (cl_X6_firstWishOutside_2 C hr t0 t2 _ _ _ hf) [0, 1, 2, 3] rfl

theorem kX6_lineUp_19 : Cond.fieldLink RX6 19 "FlatLottery$State" "households" "[LFlatLottery$Household;" ∈ wsX6_lineUp := List.mem_of_getElem? (i := 2) rfl
theorem kX6_lineUp_23 : Cond.fieldLink RX6 23 "FlatLottery$State" "order" "[I" ∈ wsX6_lineUp := List.mem_of_getElem? (i := 3) rfl
theorem kX6_lineUp_37 : Cond.fieldLink RX6 37 "FlatLottery$State" "householdCount" "I" ∈ wsX6_lineUp := List.mem_of_getElem? (i := 1) rfl
theorem nX6_lineUp_6 : ∀ w ∈ u_ws RX6 TX6 8, w ∈ wsX6_lineUp := in_r [17, 18, 19, 20, 21, 22, 23, 24] (by decide +kernel)
set_option maxHeartbeats 4000000 in
set_option maxRecDepth 100000 in
theorem cl_X6_lineUp_4 {p : Program} {l : Launch} {e : Env} {s : State} {m : MethodId} {args : Array Value} {below : List Frame} {meth : Method} {c : Code} {D : va_G} {cs : Nat → ClassId} {ad : Nat → Nat} (C : Cx p s m args meth c RX6 cX6_lineUp 4 wsX6_lineUp D cs ad) (hr : meth.sig.returnType = some .int) {a0 : Nat} {r : Int32} {M' : Mem} (t0 : tg a0 = 6) : ∀ (n : Nat) (a1 : Int32) (a2 : Int32) (M : Mem), l_X6_lineUp_4 a0 n a1 a2 M = some (r, M') → V p l e (rmk 2) s m args below meth c 4 D cs ad (QI below s args D cs ad r M') 4 [some (.ref (ad a0)), some (.int a1), some (.int a2), none] [] M := by
  intro n
  induction n with
  | zero => intro a1 a2 M hf; cases hf
  | succ n ih =>
    intro a1 a2 M hf
    rw [l_X6_lineUp_4_s] at hf
    refine x_iload_n C dX6_lineUp_4 rfl rfl ?_
    refine x_aload_n C dX6_lineUp_5 rfl rfl ?_
    refine x_geti (Cn := RX6) (T := TX6) (N := 8) C t0 (by decide) rfl nX6_lineUp_6 3 (by decide) rfl kX6_lineUp_37 rfl dX6_lineUp_6 ?_
    refine x_icmp_ge (tgt := 49) C dX6_lineUp_9 (by decide) (fun q1 => ?_) (fun q1 => ?_)
    · have hf := ift q1 hf
      refine x_iload_n C dX6_lineUp_49 rfl rfl ?_
      exact x_iret C hr hf dX6_lineUp_50
    · have hf := iff_ q1 hf
      refine x_aload_n C dX6_lineUp_12 rfl rfl ?_
      refine x_aload_n C dX6_lineUp_13 rfl rfl ?_
      refine x_getr (Cn := RX6) (T := TX6) (N := 8) C t0 (by decide) rfl nX6_lineUp_6 1 (by decide) rfl kX6_lineUp_19 rfl dX6_lineUp_14 (a0 + 2) rfl ?_
      refine x_iload_n C dX6_lineUp_17 rfl rfl ?_
      obtain ⟨g2, hf⟩ := ck_of hf
      have w3 : (a0 + 2) + 14 + 2 * (a2).toNatClampNeg = (a0 + 16 + 2 * (a2).toNatClampNeg) := by omega
      have u4 : tg (a0 + 16 + 2 * (a2).toNatClampNeg) = 2 := te_H (x := a2) (tf_6_1 t0) g2 w3
      refine x_aaldH (j := (a2).toNatClampNeg) C (tf_6_1 t0) (tl_6_1 t0) g2 rfl dX6_lineUp_18 (a0 + 16 + 2 * (a2).toNatClampNeg) w3 ?_
      obtain ⟨r5, M6, e7, hf⟩ := bd_of hf
      refine x_callV (n := 1) (Cn := RX6) (T := TX6) (N := 8) (As := [.ref (ad (a0 + 16 + 2 * (a2).toNatClampNeg))]) (rest := []) (maxL := 4) (ret := (some .int)) C (c_X6_placeInOrder t0 u4 e7) gX6_lineUp_X6_placeInOrder rfl (by decide +kernel) ⟨Nat.le_of_ble_eq_true rfl, Nat.le_of_ble_eq_true rfl⟩ t0 (by decide) rfl rfl rfl rfl (Nat.le_of_ble_eq_true rfl) dX6_lineUp_19 ?_
      refine x_istore_n (lv' := [some (.ref (ad a0)), some (.int a1), some (.int a2), some (.int r5)]) C dX6_lineUp_22 rfl (by decide) rfl ?_
      refine x_iload_n C dX6_lineUp_23 rfl rfl ?_
      refine x_if_lt (tgt := 43) C dX6_lineUp_24 (by decide) (fun q8 => ?_) (fun q8 => ?_)
      · have hf := ift q8 hf
        refine x_iinc (d := (1 : Int32)) (v := (a2 + (1 : Int32))) (lv' := [some (.ref (ad a0)), some (.int a1), some (.int (a2 + (1 : Int32))), some (.int r5)]) C dX6_lineUp_43 rfl (by decide) rfl (by decide) rfl ?_
        refine x_goto (tgt := 4) C dX6_lineUp_46 (by decide) ?_
        exact x_weak (ih _ _ _ hf) [0, 1, 2] rfl
      · have hf := iff_ q8 hf
        refine x_iload_n C dX6_lineUp_27 rfl rfl ?_
        refine x_bipush (v := (12 : Int32)) C dX6_lineUp_28 (by decide) ?_
        refine x_icmp_ge (tgt := 43) C dX6_lineUp_30 (by decide) (fun q9 => ?_) (fun q9 => ?_)
        · have hf := ift q9 hf
          refine x_iinc (d := (1 : Int32)) (v := (a2 + (1 : Int32))) (lv' := [some (.ref (ad a0)), some (.int a1), some (.int (a2 + (1 : Int32))), some (.int r5)]) C dX6_lineUp_43 rfl (by decide) rfl (by decide) rfl ?_
          refine x_goto (tgt := 4) C dX6_lineUp_46 (by decide) ?_
          exact x_weak (ih _ _ _ hf) [0, 1, 2] rfl
        · have hf := iff_ q9 hf
          refine x_aload_n C dX6_lineUp_33 rfl rfl ?_
          refine x_getr (Cn := RX6) (T := TX6) (N := 8) C t0 (by decide) rfl nX6_lineUp_6 7 (by decide) rfl kX6_lineUp_23 rfl dX6_lineUp_34 (a0 + 3) rfl ?_
          refine x_iload_n C dX6_lineUp_37 rfl rfl ?_
          refine x_iload_n C dX6_lineUp_38 rfl rfl ?_
          obtain ⟨g10, hf⟩ := ck_of hf
          refine x_iast (j := (r5).toNatClampNeg) C (tf_6_7 t0) (tl_6_7 t0) g10 rfl dX6_lineUp_39 ?_
          refine x_gen hf (fun M11 hf => ?_)
          refine x_iinc (d := (1 : Int32)) (v := (a1 + (1 : Int32))) (lv' := [some (.ref (ad a0)), some (.int (a1 + (1 : Int32))), some (.int a2), some (.int r5)]) C dX6_lineUp_40 rfl (by decide) rfl (by decide) rfl ?_
          refine x_iinc (d := (1 : Int32)) (v := (a2 + (1 : Int32))) (lv' := [some (.ref (ad a0)), some (.int (a1 + (1 : Int32))), some (.int (a2 + (1 : Int32))), some (.int r5)]) C dX6_lineUp_43 rfl (by decide) rfl (by decide) rfl ?_
          refine x_goto (tgt := 4) C dX6_lineUp_46 (by decide) ?_
          exact x_weak (ih _ _ _ hf) [0, 1, 2] rfl

set_option maxHeartbeats 4000000 in
set_option maxRecDepth 100000 in
theorem c_X6_lineUp {a0 : Nat} {M : Mem} {r : Int32} {M' : Mem} (t0 : tg a0 = 6) (hf : f_X6_lineUp a0 M = some (r, M')) : CnI yX6_lineUp wsX6_lineUp 2 (fun ad => [.ref (ad a0)]) M r M' := by
  unfold f_X6_lineUp at hf
  refine x_metI (cc := cX6_lineUp) (maxL := 4) RX6 rfl (by decide) rfl (fun ad => Nat.le_of_ble_eq_true rfl) (fun ad v hv => ?_) (fun p l e s m args below meth c D cs ad C hr => ?_)
  · simp only [List.mem_cons, List.not_mem_nil, or_false] at hv
    rcases hv with rfl <;> rfl
  · show V p l e (rmk 2) s m args below meth c 4 D cs ad (QI below s args D cs ad r M') 0 [some (.ref (ad a0)), none, none, none] [] M
    refine x_iconst (v := (0 : Int32)) C dX6_lineUp_0 (by decide) ?_
    refine x_istore_n (lv' := [some (.ref (ad a0)), some (.int (0 : Int32)), none, none]) C dX6_lineUp_1 rfl (by decide) rfl ?_
    refine x_iconst (v := (0 : Int32)) C dX6_lineUp_2 (by decide) ?_
    refine x_istore_n (lv' := [some (.ref (ad a0)), some (.int (0 : Int32)), some (.int (0 : Int32)), none]) C dX6_lineUp_3 rfl (by decide) rfl ?_
    exact x_weak (cl_X6_lineUp_4 C hr t0 _ _ _ _ hf) [0, 1, 2] rfl

theorem kX6_pointsTo_52 : Cond.fieldLink RX6 52 "FlatLottery$Household" "held" "I" ∈ wsX6_pointsTo := List.mem_of_getElem? (i := 1) rfl
theorem kX6_pointsTo_99 : Cond.fieldLink RX6 99 "FlatLottery$Household" "wishCount" "I" ∈ wsX6_pointsTo := List.mem_of_getElem? (i := 2) rfl
theorem kX6_pointsTo_102 : Cond.fieldLink RX6 102 "FlatLottery$Household" "wishes" "[I" ∈ wsX6_pointsTo := List.mem_of_getElem? (i := 3) rfl
theorem nX6_pointsTo_2 : ∀ w ∈ u_ws RX2 TX2 9, w ∈ wsX6_pointsTo := in_r [41, 42, 43, 44, 45, 46, 47, 48, 49] (by decide +kernel)
set_option maxHeartbeats 4000000 in
set_option maxRecDepth 100000 in
theorem cl_X6_pointsTo_14 {p : Program} {l : Launch} {e : Env} {s : State} {m : MethodId} {args : Array Value} {below : List Frame} {meth : Method} {c : Code} {D : va_G} {cs : Nat → ClassId} {ad : Nat → Nat} (C : Cx p s m args meth c RX6 cX6_pointsTo 5 wsX6_pointsTo D cs ad) (hr : meth.sig.returnType = some .int) {a0 : Nat} {a1 : Nat} {r : Int32} {M' : Mem} (t0 : tg a0 = 6) (t1 : tg a1 = 2) : ∀ (n : Nat) (a2 : Int32) (M : Mem), l_X6_pointsTo_14 a0 a1 n a2 M = some (r, M') → V p l e (rmk 2) s m args below meth c 5 D cs ad (QI below s args D cs ad r M') 14 [some (.ref (ad a0)), some (.ref (ad a1)), some (.int a2), none, none] [] M := by
  intro n
  induction n with
  | zero => intro a2 M hf; cases hf
  | succ n ih =>
    intro a2 M hf
    rw [l_X6_pointsTo_14_s] at hf
    refine x_iload_n C dX6_pointsTo_14 rfl rfl ?_
    refine x_aload_n C dX6_pointsTo_15 rfl rfl ?_
    refine x_geti (Cn := RX2) (T := TX2) (N := 9) C t1 (by decide) rfl nX6_pointsTo_2 1 (by decide) rfl kX6_pointsTo_99 rfl dX6_pointsTo_16 ?_
    refine x_icmp_ge (tgt := 72) C dX6_pointsTo_19 (by decide) (fun q2 => ?_) (fun q2 => ?_)
    · have hf := ift q2 hf
      refine x_bipush (v := (-5 : Int32)) C dX6_pointsTo_72 (by decide) ?_
      exact x_iret C hr hf dX6_pointsTo_74
    · have hf := iff_ q2 hf
      refine x_aload_n C dX6_pointsTo_22 rfl rfl ?_
      refine x_getr (Cn := RX2) (T := TX2) (N := 9) C t1 (by decide) rfl nX6_pointsTo_2 0 (by decide) rfl kX6_pointsTo_102 rfl dX6_pointsTo_23 (a1 + 1) rfl ?_
      refine x_iload_n C dX6_pointsTo_26 rfl rfl ?_
      obtain ⟨g3, hf⟩ := ck_of hf
      refine x_iald (j := (a2).toNatClampNeg) C (tf_2_0 t1) (tl_2_0 t1) g3 rfl dX6_pointsTo_27 ?_
      refine x_istore_n (lv' := [some (.ref (ad a0)), some (.ref (ad a1)), some (.int a2), some (.int (M (a1 + 1) (a2).toNatClampNeg)), none]) C dX6_pointsTo_28 rfl (by decide) rfl ?_
      refine x_aload_n C dX6_pointsTo_29 rfl rfl ?_
      refine x_iload_n C dX6_pointsTo_30 rfl rfl ?_
      obtain ⟨r4, M5, e6, hf⟩ := bd_of hf
      refine x_callV (n := 1) (Cn := RX2) (T := TX2) (N := 9) (As := [.int (M (a1 + 1) (a2).toNatClampNeg)]) (rest := []) (maxL := 4) (ret := (some .boolean)) C (c_X2_wishesMoreThanItsOwn t1 e6) gX6_pointsTo_X2_wishesMoreThanItsOwn rfl (by decide +kernel) ⟨Nat.le_of_ble_eq_true rfl, Nat.le_of_ble_eq_true rfl⟩ t1 (by decide) rfl rfl rfl rfl (Nat.le_of_ble_eq_true rfl) dX6_pointsTo_31 ?_
      refine x_if_ne (tgt := 40) C dX6_pointsTo_34 (by decide) (fun q7 => ?_) (fun q7 => ?_)
      · have hf := ift q7 hf
        refine x_bipush (v := (-5 : Int32)) C dX6_pointsTo_37 (by decide) ?_
        exact x_iret C hr hf dX6_pointsTo_39
      · have hf := iff_ q7 hf
        refine x_aload_n C dX6_pointsTo_40 rfl rfl ?_
        refine x_iload_n C dX6_pointsTo_41 rfl rfl ?_
        obtain ⟨r8, M9, e10, hf⟩ := bd_of hf
        refine x_callV (n := 1) (Cn := RX6) (T := TX6) (N := 8) (As := [.int (M (a1 + 1) (a2).toNatClampNeg)]) (rest := []) (maxL := 3) (ret := (some .int)) C (c_X6_holderOf t0 e10) gX6_pointsTo_X6_holderOf rfl (by decide +kernel) ⟨Nat.le_of_ble_eq_true rfl, Nat.le_of_ble_eq_true rfl⟩ t0 (by decide) rfl rfl rfl rfl (Nat.le_of_ble_eq_true rfl) dX6_pointsTo_42 ?_
        refine x_istore (lv' := [some (.ref (ad a0)), some (.ref (ad a1)), some (.int a2), some (.int (M (a1 + 1) (a2).toNatClampNeg)), some (.int r8)]) C dX6_pointsTo_45 (by decide) rfl ?_
        refine x_iload C dX6_pointsTo_47 rfl ?_
        refine x_bipush (v := (-5 : Int32)) C dX6_pointsTo_49 (by decide) ?_
        refine x_icmp_eq (tgt := 66) C dX6_pointsTo_51 (by decide) (fun q11 => ?_) (fun q11 => ?_)
        · have hf := ift q11 hf
          refine x_iinc (d := (1 : Int32)) (v := (a2 + (1 : Int32))) (lv' := [some (.ref (ad a0)), some (.ref (ad a1)), some (.int (a2 + (1 : Int32))), some (.int (M (a1 + 1) (a2).toNatClampNeg)), some (.int r8)]) C dX6_pointsTo_66 rfl (by decide) rfl (by decide) rfl ?_
          refine x_goto (tgt := 14) C dX6_pointsTo_69 (by decide) ?_
          exact x_weak (ih _ _ hf) [0, 1, 2] rfl
        · have hf := iff_ q11 hf
          refine x_aload_n C dX6_pointsTo_54 rfl rfl ?_
          refine x_aload_n C dX6_pointsTo_55 rfl rfl ?_
          refine x_iload_n C dX6_pointsTo_56 rfl rfl ?_
          obtain ⟨r12, M13, e14, hf⟩ := bd_of hf
          refine x_callV (n := 2) (Cn := RX6) (T := TX6) (N := 8) (As := [.ref (ad a1), .int (M (a1 + 1) (a2).toNatClampNeg)]) (rest := []) (maxL := 3) (ret := (some .boolean)) C (c_X6_isEligible t0 t1 e14) gX6_pointsTo_X6_isEligible rfl (by decide +kernel) ⟨Nat.le_of_ble_eq_true rfl, Nat.le_of_ble_eq_true rfl⟩ t0 (by decide) rfl rfl rfl rfl (Nat.le_of_ble_eq_true rfl) dX6_pointsTo_57 ?_
          refine x_if_eq (tgt := 66) C dX6_pointsTo_60 (by decide) (fun q15 => ?_) (fun q15 => ?_)
          · have hf := ift q15 hf
            refine x_iinc (d := (1 : Int32)) (v := (a2 + (1 : Int32))) (lv' := [some (.ref (ad a0)), some (.ref (ad a1)), some (.int (a2 + (1 : Int32))), some (.int (M (a1 + 1) (a2).toNatClampNeg)), some (.int r8)]) C dX6_pointsTo_66 rfl (by decide) rfl (by decide) rfl ?_
            refine x_goto (tgt := 14) C dX6_pointsTo_69 (by decide) ?_
            exact x_weak (ih _ _ hf) [0, 1, 2] rfl
          · have hf := iff_ q15 hf
            refine x_iload C dX6_pointsTo_63 rfl ?_
            exact x_iret C hr hf dX6_pointsTo_65

set_option maxHeartbeats 4000000 in
set_option maxRecDepth 100000 in
theorem c_X6_pointsTo {a0 : Nat} {a1 : Nat} {M : Mem} {r : Int32} {M' : Mem} (t0 : tg a0 = 6) (t1 : tg a1 = 2) (hf : f_X6_pointsTo a0 a1 M = some (r, M')) : CnI yX6_pointsTo wsX6_pointsTo 2 (fun ad => [.ref (ad a0), .ref (ad a1)]) M r M' := by
  unfold f_X6_pointsTo at hf
  refine x_metI (cc := cX6_pointsTo) (maxL := 5) RX6 rfl (by decide) rfl (fun ad => Nat.le_of_ble_eq_true rfl) (fun ad v hv => ?_) (fun p l e s m args below meth c D cs ad C hr => ?_)
  · simp only [List.mem_cons, List.not_mem_nil, or_false] at hv
    rcases hv with rfl | rfl <;> rfl
  · show V p l e (rmk 2) s m args below meth c 5 D cs ad (QI below s args D cs ad r M') 0 [some (.ref (ad a0)), some (.ref (ad a1)), none, none, none] [] M
    refine x_aload_n C dX6_pointsTo_0 rfl rfl ?_
    refine x_geti (Cn := RX2) (T := TX2) (N := 9) C t1 (by decide) rfl nX6_pointsTo_2 6 (by decide) rfl kX6_pointsTo_52 rfl dX6_pointsTo_1 ?_
    refine x_bipush (v := (-5 : Int32)) C dX6_pointsTo_4 (by decide) ?_
    refine x_icmp_ne (tgt := 12) C dX6_pointsTo_6 (by decide) (fun q1 => ?_) (fun q1 => ?_)
    · have hf := ift q1 hf
      refine x_bipush (v := (-5 : Int32)) C dX6_pointsTo_9 (by decide) ?_
      exact x_iret C hr hf dX6_pointsTo_11
    · have hf := iff_ q1 hf
      refine x_iconst (v := (0 : Int32)) C dX6_pointsTo_12 (by decide) ?_
      refine x_istore_n (lv' := [some (.ref (ad a0)), some (.ref (ad a1)), some (.int (0 : Int32)), none, none]) C dX6_pointsTo_13 rfl (by decide) rfl ?_
      exact x_weak (cl_X6_pointsTo_14 C hr t0 t1 _ _ _ hf) [0, 1, 2] rfl

