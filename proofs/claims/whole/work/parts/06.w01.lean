set_option maxHeartbeats 4000000 in
set_option maxRecDepth 100000 in
theorem cl_X8_lays_3 {p : Program} {l : Launch} {e : Env} {s : State} {m : MethodId} {args : Array Value} {below : List Frame} {meth : Method} {c : Code} {D : va_G} {cs : Nat → ClassId} {ad : Nat → Nat} (C : Cx p s m args meth c RX8 cX8_lays 5 wsX8_lays D cs ad) (hr : meth.sig.returnType = none) {a0 : Nat} {a1 : Int32} {a2 : Nat} {a3 : Int32} {r : Int32} {M' : Mem} (t0 : tg a0 = 10) (t2 : tg a2 = 10) : ∀ (n : Nat) (a4 : Int32) (M : Mem), l_X8_lays_3 a0 a1 a2 a3 n a4 M = some (r, M') → V p l e (rmk 0) s m args below meth c 5 D cs ad (QV below s args D cs ad M') 3 [some (.ref (ad a0)), some (.int a1), some (.ref (ad a2)), some (.int a3), some (.int a4)] [] M := by
  intro n
  induction n with
  | zero => intro a4 M hf; cases hf
  | succ n ih =>
    intro a4 M hf
    rw [l_X8_lays_3_s] at hf
    refine x_iload C dX8_lays_3 rfl ?_
    refine x_sipush (v := (198 : Int32)) C dX8_lays_5 (by decide) ?_
    refine x_icmp_ge (tgt := 29) C dX8_lays_8 (by decide) (fun q1 => ?_) (fun q1 => ?_)
    · have hf := ift q1 hf
      exact x_vret C hr hf dX8_lays_29
    · have hf := iff_ q1 hf
      refine x_aload_n C dX8_lays_11 rfl rfl ?_
      refine x_iload_n C dX8_lays_12 rfl rfl ?_
      refine x_iload C dX8_lays_13 rfl ?_
      refine x_iadd C dX8_lays_15 ?_
      refine x_aload_n C dX8_lays_16 rfl rfl ?_
      refine x_iload_n C dX8_lays_17 rfl rfl ?_
      refine x_iload C dX8_lays_18 rfl ?_
      refine x_iadd C dX8_lays_20 ?_
      obtain ⟨g2, hf⟩ := ck_of hf
      refine x_iald (j := ((a1 + a4)).toNatClampNeg) C t0 rfl g2 rfl dX8_lays_21 ?_
      obtain ⟨g3, hf⟩ := ck_of hf
      refine x_iast (j := ((a3 + a4)).toNatClampNeg) C t2 rfl g3 rfl dX8_lays_22 ?_
      refine x_gen hf (fun M4 hf => ?_)
      refine x_iinc (d := (1 : Int32)) (v := (a4 + (1 : Int32))) (lv' := [some (.ref (ad a0)), some (.int a1), some (.ref (ad a2)), some (.int a3), some (.int (a4 + (1 : Int32)))]) C dX8_lays_23 rfl (by decide) rfl (by decide) rfl ?_
      refine x_goto (tgt := 3) C dX8_lays_26 (by decide) ?_
      exact x_weak (ih _ _ hf) [0, 1, 2, 3, 4] rfl

set_option maxHeartbeats 4000000 in
set_option maxRecDepth 100000 in
theorem c_X8_lays {a0 : Nat} {a1 : Int32} {a2 : Nat} {a3 : Int32} {M : Mem} {r : Int32} {M' : Mem} (t0 : tg a0 = 10) (t2 : tg a2 = 10) (hf : f_X8_lays a0 a1 a2 a3 M = some (r, M')) : CnV yX8_lays wsX8_lays 0 (fun ad => [.ref (ad a0), .int a1, .ref (ad a2), .int a3]) M M' := by
  unfold f_X8_lays at hf
  refine x_metV (cc := cX8_lays) (maxL := 5) RX8 rfl (by decide) rfl (fun ad => Nat.le_of_ble_eq_true rfl) (fun ad v hv => ?_) (fun p l e s m args below meth c D cs ad C hr => ?_)
  · simp only [List.mem_cons, List.not_mem_nil, or_false] at hv
    rcases hv with rfl | rfl | rfl | rfl <;> rfl
  · show V p l e (rmk 0) s m args below meth c 5 D cs ad (QV below s args D cs ad M') 0 [some (.ref (ad a0)), some (.int a1), some (.ref (ad a2)), some (.int a3), none] [] M
    refine x_iconst (v := (0 : Int32)) C dX8_lays_0 (by decide) ?_
    refine x_istore (lv' := [some (.ref (ad a0)), some (.int a1), some (.ref (ad a2)), some (.int a3), some (.int (0 : Int32))]) C dX8_lays_1 (by decide) rfl ?_
    exact x_weak (cl_X8_lays_3 C hr t0 t2 _ _ _ hf) [0, 1, 2, 3, 4] rfl

theorem kX8_of_7 : Cond.fieldLink RX8 7 "FlatLotteryModel" "s" "[I" ∈ wsX8_of := List.mem_of_getElem? (i := 1) rfl
theorem nX8_of_8 : ∀ w ∈ u_ws RX8 TX8 13, w ∈ wsX8_of := in_r [2, 3, 4, 5, 6, 7, 8, 9, 10, 11, 12, 13, 14] (by decide +kernel)
set_option maxHeartbeats 4000000 in
set_option maxRecDepth 100000 in
theorem c_X8_of {a1 : Int32} {a2 : Int32} {M : Mem} {r : Int32} {M' : Mem}  (hf : f_X8_of a1 a2 M = some (r, M')) : CnI yX8_of wsX8_of 0 (fun ad => [.ref (ad 255), .int a1, .int a2]) M r M' := by
  unfold f_X8_of at hf
  refine x_metI (cc := cX8_of) (maxL := 3) RX8 rfl (by decide) rfl (fun ad => Nat.le_of_ble_eq_true rfl) (fun ad v hv => ?_) (fun p l e s m args below meth c D cs ad C hr => ?_)
  · simp only [List.mem_cons, List.not_mem_nil, or_false] at hv
    rcases hv with rfl | rfl | rfl <;> rfl
  · show V p l e (rmk 0) s m args below meth c 3 D cs ad (QI below s args D cs ad r M') 0 [some (.ref (ad 255)), some (.int a1), some (.int a2)] [] M
    refine x_aload_n C dX8_of_0 rfl rfl ?_
    refine x_getr (Cn := RX8) (T := TX8) (N := 13) C tg_255 (by decide) rfl nX8_of_8 0 (by decide) rfl kX8_of_7 rfl dX8_of_1 256 rfl ?_
    refine x_bipush (v := (30 : Int32)) C dX8_of_4 (by decide) ?_
    refine x_bipush (v := (14 : Int32)) C dX8_of_6 (by decide) ?_
    refine x_iload_n C dX8_of_8 rfl rfl ?_
    refine x_imul C dX8_of_9 ?_
    refine x_iadd C dX8_of_10 ?_
    refine x_iload_n C dX8_of_11 rfl rfl ?_
    refine x_iadd C dX8_of_12 ?_
    obtain ⟨g1, hf⟩ := ck_of hf
    refine x_iald (j := ((((30 : Int32) + ((14 : Int32) * a1)) + a2)).toNatClampNeg) C tg_256 tl_256 g1 rfl dX8_of_13 ?_
    exact x_iret C hr hf dX8_of_14

set_option maxHeartbeats 4000000 in
set_option maxRecDepth 100000 in
theorem cl_X8_ones_4 {p : Program} {l : Launch} {e : Env} {s : State} {m : MethodId} {args : Array Value} {below : List Frame} {meth : Method} {c : Code} {D : va_G} {cs : Nat → ClassId} {ad : Nat → Nat} (C : Cx p s m args meth c RX8 cX8_ones 3 wsX8_ones D cs ad) (hr : meth.sig.returnType = some .int) {a0 : Int32} {r : Int32} {M' : Mem}  : ∀ (n : Nat) (a1 : Int32) (a2 : Int32) (M : Mem), l_X8_ones_4 a0 n a1 a2 M = some (r, M') → V p l e (rmk 0) s m args below meth c 3 D cs ad (QI below s args D cs ad r M') 4 [some (.int a0), some (.int a1), some (.int a2)] [] M := by
  intro n
  induction n with
  | zero => intro a1 a2 M hf; cases hf
  | succ n ih =>
    intro a1 a2 M hf
    rw [l_X8_ones_4_s] at hf
    refine x_iload_n C dX8_ones_4 rfl rfl ?_
    refine x_bipush (v := (12 : Int32)) C dX8_ones_5 (by decide) ?_
    refine x_icmp_ge (tgt := 24) C dX8_ones_7 (by decide) (fun q1 => ?_) (fun q1 => ?_)
    · have hf := ift q1 hf
      refine x_iload_n C dX8_ones_24 rfl rfl ?_
      exact x_iret C hr hf dX8_ones_25
    · have hf := iff_ q1 hf
      refine x_iload_n C dX8_ones_10 rfl rfl ?_
      refine x_iload_n C dX8_ones_11 rfl rfl ?_
      refine x_iload_n C dX8_ones_12 rfl rfl ?_
      refine x_ishr C dX8_ones_13 ?_
      refine x_iconst (v := (1 : Int32)) C dX8_ones_14 (by decide) ?_
      refine x_iand C dX8_ones_15 ?_
      refine x_iadd C dX8_ones_16 ?_
      refine x_istore_n (lv' := [some (.int a0), some (.int (a1 + ((a0 >>> (a2 &&& (31 : Int32))) &&& (1 : Int32)))), some (.int a2)]) C dX8_ones_17 rfl (by decide) rfl ?_
      refine x_iinc (d := (1 : Int32)) (v := (a2 + (1 : Int32))) (lv' := [some (.int a0), some (.int (a1 + ((a0 >>> (a2 &&& (31 : Int32))) &&& (1 : Int32)))), some (.int (a2 + (1 : Int32)))]) C dX8_ones_18 rfl (by decide) rfl (by decide) rfl ?_
      refine x_goto (tgt := 4) C dX8_ones_21 (by decide) ?_
      exact x_weak (ih _ _ _ hf) [0, 1, 2] rfl

set_option maxHeartbeats 4000000 in
set_option maxRecDepth 100000 in
theorem c_X8_ones {a0 : Int32} {M : Mem} {r : Int32} {M' : Mem}  (hf : f_X8_ones a0 M = some (r, M')) : CnI yX8_ones wsX8_ones 0 (fun ad => [.int a0]) M r M' := by
  unfold f_X8_ones at hf
  refine x_metI (cc := cX8_ones) (maxL := 3) RX8 rfl (by decide) rfl (fun ad => Nat.le_of_ble_eq_true rfl) (fun ad v hv => ?_) (fun p l e s m args below meth c D cs ad C hr => ?_)
  · simp only [List.mem_cons, List.not_mem_nil, or_false] at hv
    rcases hv with rfl <;> rfl
  · show V p l e (rmk 0) s m args below meth c 3 D cs ad (QI below s args D cs ad r M') 0 [some (.int a0), none, none] [] M
    refine x_iconst (v := (0 : Int32)) C dX8_ones_0 (by decide) ?_
    refine x_istore_n (lv' := [some (.int a0), some (.int (0 : Int32)), none]) C dX8_ones_1 rfl (by decide) rfl ?_
    refine x_iconst (v := (0 : Int32)) C dX8_ones_2 (by decide) ?_
    refine x_istore_n (lv' := [some (.int a0), some (.int (0 : Int32)), some (.int (0 : Int32))]) C dX8_ones_3 rfl (by decide) rfl ?_
    exact x_weak (cl_X8_ones_4 C hr  _ _ _ _ hf) [0, 1, 2] rfl

theorem kX8_puts_7 : Cond.fieldLink RX8 7 "FlatLotteryModel" "s" "[I" ∈ wsX8_puts := List.mem_of_getElem? (i := 1) rfl
theorem nX8_puts_8 : ∀ w ∈ u_ws RX8 TX8 13, w ∈ wsX8_puts := in_r [2, 3, 4, 5, 6, 7, 8, 9, 10, 11, 12, 13, 14] (by decide +kernel)
set_option maxHeartbeats 4000000 in
set_option maxRecDepth 100000 in
theorem c_X8_puts {a1 : Int32} {a2 : Int32} {a3 : Int32} {M : Mem} {r : Int32} {M' : Mem}  (hf : f_X8_puts a1 a2 a3 M = some (r, M')) : CnV yX8_puts wsX8_puts 0 (fun ad => [.ref (ad 255), .int a1, .int a2, .int a3]) M M' := by
  unfold f_X8_puts at hf
  refine x_metV (cc := cX8_puts) (maxL := 4) RX8 rfl (by decide) rfl (fun ad => Nat.le_of_ble_eq_true rfl) (fun ad v hv => ?_) (fun p l e s m args below meth c D cs ad C hr => ?_)
  · simp only [List.mem_cons, List.not_mem_nil, or_false] at hv
    rcases hv with rfl | rfl | rfl | rfl <;> rfl
  · show V p l e (rmk 0) s m args below meth c 4 D cs ad (QV below s args D cs ad M') 0 [some (.ref (ad 255)), some (.int a1), some (.int a2), some (.int a3)] [] M
    refine x_aload_n C dX8_puts_0 rfl rfl ?_
    refine x_getr (Cn := RX8) (T := TX8) (N := 13) C tg_255 (by decide) rfl nX8_puts_8 0 (by decide) rfl kX8_puts_7 rfl dX8_puts_1 256 rfl ?_
    refine x_bipush (v := (30 : Int32)) C dX8_puts_4 (by decide) ?_
    refine x_bipush (v := (14 : Int32)) C dX8_puts_6 (by decide) ?_
    refine x_iload_n C dX8_puts_8 rfl rfl ?_
    refine x_imul C dX8_puts_9 ?_
    refine x_iadd C dX8_puts_10 ?_
    refine x_iload_n C dX8_puts_11 rfl rfl ?_
    refine x_iadd C dX8_puts_12 ?_
    refine x_iload_n C dX8_puts_13 rfl rfl ?_
    obtain ⟨g1, hf⟩ := ck_of hf
    refine x_iast (j := ((((30 : Int32) + ((14 : Int32) * a1)) + a2)).toNatClampNeg) C tg_256 tl_256 g1 rfl dX8_puts_14 ?_
    refine x_gen hf (fun M2 hf => ?_)
    exact x_vret C hr hf dX8_puts_15

theorem kX8_rent_7 : Cond.fieldLink RX8 7 "FlatLotteryModel" "s" "[I" ∈ wsX8_rent := List.mem_of_getElem? (i := 1) rfl
theorem nX8_rent_8 : ∀ w ∈ u_ws RX8 TX8 13, w ∈ wsX8_rent := in_r [2, 3, 4, 5, 6, 7, 8, 9, 10, 11, 12, 13, 14] (by decide +kernel)
set_option maxHeartbeats 4000000 in
set_option maxRecDepth 100000 in
theorem c_X8_rent {a1 : Int32} {M : Mem} {r : Int32} {M' : Mem}  (hf : f_X8_rent a1 M = some (r, M')) : CnI yX8_rent wsX8_rent 0 (fun ad => [.ref (ad 255), .int a1]) M r M' := by
  unfold f_X8_rent at hf
  refine x_metI (cc := cX8_rent) (maxL := 2) RX8 rfl (by decide) rfl (fun ad => Nat.le_of_ble_eq_true rfl) (fun ad v hv => ?_) (fun p l e s m args below meth c D cs ad C hr => ?_)
  · simp only [List.mem_cons, List.not_mem_nil, or_false] at hv
    rcases hv with rfl | rfl <;> rfl
  · show V p l e (rmk 0) s m args below meth c 2 D cs ad (QI below s args D cs ad r M') 0 [some (.ref (ad 255)), some (.int a1)] [] M
    refine x_aload_n C dX8_rent_0 rfl rfl ?_
    refine x_getr (Cn := RX8) (T := TX8) (N := 13) C tg_255 (by decide) rfl nX8_rent_8 0 (by decide) rfl kX8_rent_7 rfl dX8_rent_1 256 rfl ?_
    refine x_bipush (v := (6 : Int32)) C dX8_rent_4 (by decide) ?_
    refine x_iconst (v := (2 : Int32)) C dX8_rent_6 (by decide) ?_
    refine x_iload_n C dX8_rent_7 rfl rfl ?_
    refine x_imul C dX8_rent_8 ?_
    refine x_iadd C dX8_rent_9 ?_
    refine x_iconst (v := (1 : Int32)) C dX8_rent_10 (by decide) ?_
    refine x_iadd C dX8_rent_11 ?_
    obtain ⟨g1, hf⟩ := ck_of hf
    refine x_iald (j := ((((6 : Int32) + ((2 : Int32) * a1)) + (1 : Int32))).toNatClampNeg) C tg_256 tl_256 g1 rfl dX8_rent_12 ?_
    exact x_iret C hr hf dX8_rent_13

theorem kX8_rooms_7 : Cond.fieldLink RX8 7 "FlatLotteryModel" "s" "[I" ∈ wsX8_rooms := List.mem_of_getElem? (i := 1) rfl
theorem nX8_rooms_8 : ∀ w ∈ u_ws RX8 TX8 13, w ∈ wsX8_rooms := in_r [2, 3, 4, 5, 6, 7, 8, 9, 10, 11, 12, 13, 14] (by decide +kernel)
set_option maxHeartbeats 4000000 in
set_option maxRecDepth 100000 in
theorem c_X8_rooms {a1 : Int32} {M : Mem} {r : Int32} {M' : Mem}  (hf : f_X8_rooms a1 M = some (r, M')) : CnI yX8_rooms wsX8_rooms 0 (fun ad => [.ref (ad 255), .int a1]) M r M' := by
  unfold f_X8_rooms at hf
  refine x_metI (cc := cX8_rooms) (maxL := 2) RX8 rfl (by decide) rfl (fun ad => Nat.le_of_ble_eq_true rfl) (fun ad v hv => ?_) (fun p l e s m args below meth c D cs ad C hr => ?_)
  · simp only [List.mem_cons, List.not_mem_nil, or_false] at hv
    rcases hv with rfl | rfl <;> rfl
  · show V p l e (rmk 0) s m args below meth c 2 D cs ad (QI below s args D cs ad r M') 0 [some (.ref (ad 255)), some (.int a1)] [] M
    refine x_aload_n C dX8_rooms_0 rfl rfl ?_
    refine x_getr (Cn := RX8) (T := TX8) (N := 13) C tg_255 (by decide) rfl nX8_rooms_8 0 (by decide) rfl kX8_rooms_7 rfl dX8_rooms_1 256 rfl ?_
    refine x_bipush (v := (6 : Int32)) C dX8_rooms_4 (by decide) ?_
    refine x_iconst (v := (2 : Int32)) C dX8_rooms_6 (by decide) ?_
    refine x_iload_n C dX8_rooms_7 rfl rfl ?_
    refine x_imul C dX8_rooms_8 ?_
    refine x_iadd C dX8_rooms_9 ?_
    obtain ⟨g1, hf⟩ := ck_of hf
    refine x_iald (j := (((6 : Int32) + ((2 : Int32) * a1))).toNatClampNeg) C tg_256 tl_256 g1 rfl dX8_rooms_10 ?_
    exact x_iret C hr hf dX8_rooms_11

theorem kX8_type_19 : Cond.fieldLink RX8 19 "FlatLotteryModel" "text" "[C" ∈ wsX8_type := List.mem_of_getElem? (i := 2) rfl
theorem kX8_type_144 : Cond.fieldLink RX8 144 "FlatLotteryModel" "length" "I" ∈ wsX8_type := List.mem_of_getElem? (i := 1) rfl
theorem nX8_type_8 : ∀ w ∈ u_ws RX8 TX8 13, w ∈ wsX8_type := in_r [3, 4, 5, 6, 7, 8, 9, 10, 11, 12, 13, 14, 15] (by decide +kernel)
set_option maxHeartbeats 4000000 in
set_option maxRecDepth 100000 in
theorem c_X8_type {a1 : Int32} {M : Mem} {r : Int32} {M' : Mem}  (hf : f_X8_type a1 M = some (r, M')) : CnI yX8_type wsX8_type 0 (fun ad => [.ref (ad 255), .int a1]) M r M' := by
  unfold f_X8_type at hf
  refine x_metI (cc := cX8_type) (maxL := 2) RX8 rfl (by decide) rfl (fun ad => Nat.le_of_ble_eq_true rfl) (fun ad v hv => ?_) (fun p l e s m args below meth c D cs ad C hr => ?_)
  · simp only [List.mem_cons, List.not_mem_nil, or_false] at hv
    rcases hv with rfl | rfl <;> rfl
  · show V p l e (rmk 0) s m args below meth c 2 D cs ad (QI below s args D cs ad r M') 0 [some (.ref (ad 255)), some (.int a1)] [] M
    refine x_aload_n C dX8_type_0 rfl rfl ?_
    refine x_geti (Cn := RX8) (T := TX8) (N := 13) C tg_255 (by decide) rfl nX8_type_8 6 (by decide) rfl kX8_type_144 rfl dX8_type_1 ?_
    refine x_bipush (v := (60 : Int32)) C dX8_type_4 (by decide) ?_
    refine x_icmp_ne (tgt := 12) C dX8_type_6 (by decide) (fun q1 => ?_) (fun q1 => ?_)
    · have hf := ift q1 hf
      refine x_bipush (v := (-3 : Int32)) C dX8_type_9 (by decide) ?_
      exact x_iret C hr hf dX8_type_11
    · have hf := iff_ q1 hf
      refine x_aload_n C dX8_type_12 rfl rfl ?_
      refine x_getr (Cn := RX8) (T := TX8) (N := 13) C tg_255 (by decide) rfl nX8_type_8 5 (by decide) rfl kX8_type_19 rfl dX8_type_13 259 rfl ?_
      refine x_aload_n C dX8_type_16 rfl rfl ?_
      refine x_geti (Cn := RX8) (T := TX8) (N := 13) C tg_255 (by decide) rfl nX8_type_8 6 (by decide) rfl kX8_type_144 rfl dX8_type_17 ?_
      refine x_iload_n C dX8_type_20 rfl rfl ?_
      obtain ⟨g2, hf⟩ := ck_of hf
      refine x_cast (j := ((M 255 6)).toNatClampNeg) C tg_259 tl_259 g2 rfl dX8_type_21 ?_
      refine x_gen hf (fun M3 hf => ?_)
      refine x_aload_n C dX8_type_22 rfl rfl ?_
      refine x_dup C dX8_type_23 rfl ?_
      refine x_geti (Cn := RX8) (T := TX8) (N := 13) C tg_255 (by decide) rfl nX8_type_8 6 (by decide) rfl kX8_type_144 rfl dX8_type_24 ?_
      refine x_iconst (v := (1 : Int32)) C dX8_type_27 (by decide) ?_
      refine x_iadd C dX8_type_28 ?_
      refine x_puti (ty := .int) (Cn := RX8) (T := TX8) (N := 13) C tg_255 (by decide) rfl nX8_type_8 tyX8 tyX8_ok nmX8 6 (by decide) rfl kX8_type_144 rfl rfl (by decide +kernel) rfl rfl dX8_type_29 ?_
      refine x_gen hf (fun M4 hf => ?_)
      refine x_aload_n C dX8_type_32 rfl rfl ?_
      refine x_geti (Cn := RX8) (T := TX8) (N := 13) C tg_255 (by decide) rfl nX8_type_8 6 (by decide) rfl kX8_type_144 rfl dX8_type_33 ?_
      exact x_iret C hr hf dX8_type_36

theorem kX2_removeWish_9 : Cond.fieldLink RX2 9 "FlatLottery$Household" "wishes" "[I" ∈ wsX2_removeWish := List.mem_of_getElem? (i := 2) rfl
theorem kX2_removeWish_15 : Cond.fieldLink RX2 15 "FlatLottery$Household" "wishCount" "I" ∈ wsX2_removeWish := List.mem_of_getElem? (i := 1) rfl
theorem nX2_removeWish_2 : ∀ w ∈ u_ws RX2 TX2 9, w ∈ wsX2_removeWish := in_r [8, 9, 10, 11, 12, 13, 14, 15, 16] (by decide +kernel)
set_option maxHeartbeats 4000000 in
set_option maxRecDepth 100000 in
theorem cl_X2_removeWish_17 {p : Program} {l : Launch} {e : Env} {s : State} {m : MethodId} {args : Array Value} {below : List Frame} {meth : Method} {c : Code} {D : va_G} {cs : Nat → ClassId} {ad : Nat → Nat} (C : Cx p s m args meth c RX2 cX2_removeWish 4 wsX2_removeWish D cs ad) (hr : meth.sig.returnType = none) {a0 : Nat} {r : Int32} {M' : Mem} (t0 : tg a0 = 2) : ∀ (n : Nat) (a3 : Int32) (M : Mem), l_X2_removeWish_17 a0 n a3 M = some (r, M') → V p l e (rmk 1) s m args below meth c 4 D cs ad (QV below s args D cs ad M') 17 [some (.ref (ad a0)), none, none, some (.int a3)] [] M := by
  intro n
  induction n with
  | zero => intro a3 M hf; cases hf
  | succ n ih =>
    intro a3 M hf
    rw [l_X2_removeWish_17_s] at hf
    refine x_iload_n C dX2_removeWish_17 rfl rfl ?_
    refine x_aload_n C dX2_removeWish_18 rfl rfl ?_
    refine x_geti (Cn := RX2) (T := TX2) (N := 9) C t0 (by decide) rfl nX2_removeWish_2 1 (by decide) rfl kX2_removeWish_15 rfl dX2_removeWish_19 ?_
    refine x_icmp_ge (tgt := 45) C dX2_removeWish_22 (by decide) (fun q5 => ?_) (fun q5 => ?_)
    · have hf := ift q5 hf
      refine x_aload_n C dX2_removeWish_45 rfl rfl ?_
      refine x_dup C dX2_removeWish_46 rfl ?_
      refine x_geti (Cn := RX2) (T := TX2) (N := 9) C t0 (by decide) rfl nX2_removeWish_2 1 (by decide) rfl kX2_removeWish_15 rfl dX2_removeWish_47 ?_
      refine x_iconst (v := (1 : Int32)) C dX2_removeWish_50 (by decide) ?_
      refine x_isub C dX2_removeWish_51 ?_
      refine x_puti (ty := .int) (Cn := RX2) (T := TX2) (N := 9) C t0 (by decide) rfl nX2_removeWish_2 tyX2 tyX2_ok nmX2 1 (by decide) rfl kX2_removeWish_15 rfl rfl (by decide +kernel) rfl rfl dX2_removeWish_52 ?_
      refine x_gen hf (fun M6 hf => ?_)
      exact x_vret C hr hf dX2_removeWish_55
    · have hf := iff_ q5 hf
      refine x_aload_n C dX2_removeWish_25 rfl rfl ?_
      refine x_getr (Cn := RX2) (T := TX2) (N := 9) C t0 (by decide) rfl nX2_removeWish_2 0 (by decide) rfl kX2_removeWish_9 rfl dX2_removeWish_26 (a0 + 1) rfl ?_
      refine x_iload_n C dX2_removeWish_29 rfl rfl ?_
      refine x_iconst (v := (1 : Int32)) C dX2_removeWish_30 (by decide) ?_
      refine x_isub C dX2_removeWish_31 ?_
      refine x_aload_n C dX2_removeWish_32 rfl rfl ?_
      refine x_getr (Cn := RX2) (T := TX2) (N := 9) C t0 (by decide) rfl nX2_removeWish_2 0 (by decide) rfl kX2_removeWish_9 rfl dX2_removeWish_33 (a0 + 1) rfl ?_
      refine x_iload_n C dX2_removeWish_36 rfl rfl ?_
      obtain ⟨g7, hf⟩ := ck_of hf
      refine x_iald (j := (a3).toNatClampNeg) C (tf_2_0 t0) (tl_2_0 t0) g7 rfl dX2_removeWish_37 ?_
      obtain ⟨g8, hf⟩ := ck_of hf
      refine x_iast (j := ((a3 - (1 : Int32))).toNatClampNeg) C (tf_2_0 t0) (tl_2_0 t0) g8 rfl dX2_removeWish_38 ?_
      refine x_gen hf (fun M9 hf => ?_)
      refine x_iinc (d := (1 : Int32)) (v := (a3 + (1 : Int32))) (lv' := [some (.ref (ad a0)), none, none, some (.int (a3 + (1 : Int32)))]) C dX2_removeWish_39 rfl (by decide) rfl (by decide) rfl ?_
      refine x_goto (tgt := 17) C dX2_removeWish_42 (by decide) ?_
      exact x_weak (ih _ _ hf) [0, 3] rfl

set_option maxHeartbeats 4000000 in
set_option maxRecDepth 100000 in
theorem c_X2_removeWish {a0 : Nat} {a1 : Int32} {M : Mem} {r : Int32} {M' : Mem} (t0 : tg a0 = 2) (hf : f_X2_removeWish a0 a1 M = some (r, M')) : CnV yX2_removeWish wsX2_removeWish 1 (fun ad => [.ref (ad a0), .int a1]) M M' := by
  unfold f_X2_removeWish at hf
  refine x_metV (cc := cX2_removeWish) (maxL := 4) RX2 rfl (by decide) rfl (fun ad => Nat.le_of_ble_eq_true rfl) (fun ad v hv => ?_) (fun p l e s m args below meth c D cs ad C hr => ?_)
  · simp only [List.mem_cons, List.not_mem_nil, or_false] at hv
    rcases hv with rfl | rfl <;> rfl
  · show V p l e (rmk 1) s m args below meth c 4 D cs ad (QV below s args D cs ad M') 0 [some (.ref (ad a0)), some (.int a1), none, none] [] M
    refine x_aload_n C dX2_removeWish_0 rfl rfl ?_
    refine x_iload_n C dX2_removeWish_1 rfl rfl ?_
    obtain ⟨r1, M2, e3, hf⟩ := bd_of hf
    refine x_callV (n := 1) (Cn := RX2) (T := TX2) (N := 9) (As := [.int a1]) (rest := []) (maxL := 3) (ret := (some .int)) C (c_X2_placeOf t0 e3) gX2_removeWish_X2_placeOf rfl (by decide +kernel) ⟨Nat.le_of_ble_eq_true rfl, Nat.le_of_ble_eq_true rfl⟩ t0 (by decide) rfl rfl rfl rfl (Nat.le_of_ble_eq_true rfl) dX2_removeWish_2 ?_
    refine x_istore_n (lv' := [some (.ref (ad a0)), some (.int a1), some (.int r1), none]) C dX2_removeWish_5 rfl (by decide) rfl ?_
    refine x_iload_n C dX2_removeWish_6 rfl rfl ?_
    refine x_bipush (v := (-5 : Int32)) C dX2_removeWish_7 (by decide) ?_
    refine x_icmp_ne (tgt := 13) C dX2_removeWish_9 (by decide) (fun q4 => ?_) (fun q4 => ?_)
    · have hf := ift q4 hf
      exact x_vret C hr hf dX2_removeWish_12
    · have hf := iff_ q4 hf
      refine x_iload_n C dX2_removeWish_13 rfl rfl ?_
      refine x_iconst (v := (1 : Int32)) C dX2_removeWish_14 (by decide) ?_
      refine x_iadd C dX2_removeWish_15 ?_
      refine x_istore_n (lv' := [some (.ref (ad a0)), some (.int a1), some (.int r1), some (.int (r1 + (1 : Int32)))]) C dX2_removeWish_16 rfl (by decide) rfl ?_
      exact x_weak (cl_X2_removeWish_17 C hr t0 _ _ _ hf) [0, 3] rfl

theorem kX2_wishesMoreThanItsOwn_31 : Cond.fieldLink RX2 31 "FlatLottery$Household" "held" "I" ∈ wsX2_wishesMoreThanItsOwn := List.mem_of_getElem? (i := 1) rfl
theorem nX2_wishesMoreThanItsOwn_2 : ∀ w ∈ u_ws RX2 TX2 9, w ∈ wsX2_wishesMoreThanItsOwn := in_r [9, 10, 11, 12, 13, 14, 15, 16, 17] (by decide +kernel)
set_option maxHeartbeats 4000000 in
set_option maxRecDepth 100000 in
theorem c_X2_wishesMoreThanItsOwn {a0 : Nat} {a1 : Int32} {M : Mem} {r : Int32} {M' : Mem} (t0 : tg a0 = 2) (hf : f_X2_wishesMoreThanItsOwn a0 a1 M = some (r, M')) : CnI yX2_wishesMoreThanItsOwn wsX2_wishesMoreThanItsOwn 1 (fun ad => [.ref (ad a0), .int a1]) M r M' := by
  unfold f_X2_wishesMoreThanItsOwn at hf
  refine x_metI (cc := cX2_wishesMoreThanItsOwn) (maxL := 4) RX2 rfl (by decide) rfl (fun ad => Nat.le_of_ble_eq_true rfl) (fun ad v hv => ?_) (fun p l e s m args below meth c D cs ad C hr => ?_)
  · simp only [List.mem_cons, List.not_mem_nil, or_false] at hv
    rcases hv with rfl | rfl <;> rfl
  · show V p l e (rmk 1) s m args below meth c 4 D cs ad (QI below s args D cs ad r M') 0 [some (.ref (ad a0)), some (.int a1), none, none] [] M
    refine x_aload_n C dX2_wishesMoreThanItsOwn_0 rfl rfl ?_
    refine x_iload_n C dX2_wishesMoreThanItsOwn_1 rfl rfl ?_
    obtain ⟨r1, M2, e3, hf⟩ := bd_of hf
    refine x_callV (n := 1) (Cn := RX2) (T := TX2) (N := 9) (As := [.int a1]) (rest := []) (maxL := 3) (ret := (some .int)) C (c_X2_placeOf t0 e3) gX2_wishesMoreThanItsOwn_X2_placeOf rfl (by decide +kernel) ⟨Nat.le_of_ble_eq_true rfl, Nat.le_of_ble_eq_true rfl⟩ t0 (by decide) rfl rfl rfl rfl (Nat.le_of_ble_eq_true rfl) dX2_wishesMoreThanItsOwn_2 ?_
    refine x_istore_n (lv' := [some (.ref (ad a0)), some (.int a1), some (.int r1), none]) C dX2_wishesMoreThanItsOwn_5 rfl (by decide) rfl ?_
    refine x_aload_n C dX2_wishesMoreThanItsOwn_6 rfl rfl ?_
    refine x_aload_n C dX2_wishesMoreThanItsOwn_7 rfl rfl ?_
    refine x_geti (Cn := RX2) (T := TX2) (N := 9) C t0 (by decide) rfl nX2_wishesMoreThanItsOwn_2 6 (by decide) rfl kX2_wishesMoreThanItsOwn_31 rfl dX2_wishesMoreThanItsOwn_8 ?_
    obtain ⟨r4, M5, e6, hf⟩ := bd_of hf
    refine x_callV (n := 1) (Cn := RX2) (T := TX2) (N := 9) (As := [.int (M2 a0 6)]) (rest := []) (maxL := 3) (ret := (some .int)) C (c_X2_placeOf t0 e6) gX2_wishesMoreThanItsOwn_X2_placeOf rfl (by decide +kernel) ⟨Nat.le_of_ble_eq_true rfl, Nat.le_of_ble_eq_true rfl⟩ t0 (by decide) rfl rfl rfl rfl (Nat.le_of_ble_eq_true rfl) dX2_wishesMoreThanItsOwn_11 ?_
    refine x_istore_n (lv' := [some (.ref (ad a0)), some (.int a1), some (.int r1), some (.int r4)]) C dX2_wishesMoreThanItsOwn_14 rfl (by decide) rfl ?_
    refine x_iload_n C dX2_wishesMoreThanItsOwn_15 rfl rfl ?_
    refine x_bipush (v := (-5 : Int32)) C dX2_wishesMoreThanItsOwn_16 (by decide) ?_
    refine x_icmp_eq (tgt := 36) C dX2_wishesMoreThanItsOwn_18 (by decide) (fun q7 => ?_) (fun q7 => ?_)
    · have hf := ift q7 hf
      refine x_iconst (v := (0 : Int32)) C dX2_wishesMoreThanItsOwn_36 (by decide) ?_
      exact x_zret C hr rfl hf dX2_wishesMoreThanItsOwn_37
    · have hf := iff_ q7 hf
      refine x_iload_n C dX2_wishesMoreThanItsOwn_21 rfl rfl ?_
      refine x_bipush (v := (-5 : Int32)) C dX2_wishesMoreThanItsOwn_22 (by decide) ?_
      refine x_icmp_eq (tgt := 32) C dX2_wishesMoreThanItsOwn_24 (by decide) (fun q8 => ?_) (fun q8 => ?_)
      · have hf := ift q8 hf
        refine x_iconst (v := (1 : Int32)) C dX2_wishesMoreThanItsOwn_32 (by decide) ?_
        refine x_goto (tgt := 37) C dX2_wishesMoreThanItsOwn_33 (by decide) ?_
        exact x_zret C hr rfl hf dX2_wishesMoreThanItsOwn_37
      · have hf := iff_ q8 hf
        refine x_iload_n C dX2_wishesMoreThanItsOwn_27 rfl rfl ?_
        refine x_iload_n C dX2_wishesMoreThanItsOwn_28 rfl rfl ?_
        refine x_icmp_ge (tgt := 36) C dX2_wishesMoreThanItsOwn_29 (by decide) (fun q9 => ?_) (fun q9 => ?_)
        · have hf := ift q9 hf
          refine x_iconst (v := (0 : Int32)) C dX2_wishesMoreThanItsOwn_36 (by decide) ?_
          exact x_zret C hr rfl hf dX2_wishesMoreThanItsOwn_37
        · have hf := iff_ q9 hf
          refine x_iconst (v := (1 : Int32)) C dX2_wishesMoreThanItsOwn_32 (by decide) ?_
          refine x_goto (tgt := 37) C dX2_wishesMoreThanItsOwn_33 (by decide) ?_
          exact x_zret C hr rfl hf dX2_wishesMoreThanItsOwn_37

set_option maxHeartbeats 4000000 in
set_option maxRecDepth 100000 in
theorem c_X3_digitAtHand  {M : Mem} {r : Int32} {M' : Mem}  (hf : f_X3_digitAtHand  M = some (r, M')) : CnI yX3_digitAtHand wsX3_digitAtHand 1 (fun ad => [.ref (ad 243)]) M r M' := by
  unfold f_X3_digitAtHand at hf
  refine x_metI (cc := cX3_digitAtHand) (maxL := 2) RX3 rfl (by decide) rfl (fun ad => Nat.le_of_ble_eq_true rfl) (fun ad v hv => ?_) (fun p l e s m args below meth c D cs ad C hr => ?_)
  · simp only [List.mem_cons, List.not_mem_nil, or_false] at hv
    rcases hv with rfl <;> rfl
  · show V p l e (rmk 1) s m args below meth c 2 D cs ad (QI below s args D cs ad r M') 0 [some (.ref (ad 243)), none] [] M
    refine x_aload_n C dX3_digitAtHand_0 rfl rfl ?_
    obtain ⟨r1, M2, e3, hf⟩ := bd_of hf
    refine x_callV (n := 0) (Cn := RX3) (T := TX3) (N := 7) (As := []) (rest := []) (maxL := 1) (ret := (some .int)) C (c_X3_atHand  e3) gX3_digitAtHand_X3_atHand rfl (by decide +kernel) ⟨Nat.le_of_ble_eq_true rfl, Nat.le_of_ble_eq_true rfl⟩ tg_243 (by decide) rfl rfl rfl rfl (Nat.le_of_ble_eq_true rfl) dX3_digitAtHand_1 ?_
    refine x_istore_n (lv' := [some (.ref (ad 243)), some (.int r1)]) C dX3_digitAtHand_4 rfl (by decide) rfl ?_
    refine x_iload_n C dX3_digitAtHand_5 rfl rfl ?_
    refine x_bipush (v := (48 : Int32)) C dX3_digitAtHand_6 (by decide) ?_
    refine x_icmp_lt (tgt := 24) C dX3_digitAtHand_8 (by decide) (fun q4 => ?_) (fun q4 => ?_)
    · have hf := ift q4 hf
      refine x_bipush (v := (-5 : Int32)) C dX3_digitAtHand_24 (by decide) ?_
      exact x_iret C hr hf dX3_digitAtHand_26
    · have hf := iff_ q4 hf
      refine x_iload_n C dX3_digitAtHand_11 rfl rfl ?_
      refine x_bipush (v := (57 : Int32)) C dX3_digitAtHand_12 (by decide) ?_
      refine x_icmp_gt (tgt := 24) C dX3_digitAtHand_14 (by decide) (fun q5 => ?_) (fun q5 => ?_)
      · have hf := ift q5 hf
        refine x_bipush (v := (-5 : Int32)) C dX3_digitAtHand_24 (by decide) ?_
        exact x_iret C hr hf dX3_digitAtHand_26
      · have hf := iff_ q5 hf
        refine x_iload_n C dX3_digitAtHand_17 rfl rfl ?_
        refine x_bipush (v := (48 : Int32)) C dX3_digitAtHand_18 (by decide) ?_
        refine x_isub C dX3_digitAtHand_20 ?_
        refine x_goto (tgt := 26) C dX3_digitAtHand_21 (by decide) ?_
        exact x_iret C hr hf dX3_digitAtHand_26

theorem kX3_layLists_15 : Cond.fieldLink RX3 15 "FlatLottery$ListText" "listHousehold" "[I" ∈ wsX3_layLists := List.mem_of_getElem? (i := 2) rfl
theorem kX3_layLists_19 : Cond.fieldLink RX3 19 "FlatLottery$ListText" "listSize" "[I" ∈ wsX3_layLists := List.mem_of_getElem? (i := 5) rfl
theorem kX3_layLists_22 : Cond.fieldLink RX3 22 "FlatLottery$ListText" "listFlats" "[I" ∈ wsX3_layLists := List.mem_of_getElem? (i := 6) rfl
theorem kX3_layLists_32 : Cond.fieldLink RX3 32 "FlatLottery$ListText" "listCount" "I" ∈ wsX3_layLists := List.mem_of_getElem? (i := 1) rfl
theorem kX3_layLists_58 : Cond.fieldLink RX3 58 "FlatLottery$State" "households" "[LFlatLottery$Household;" ∈ wsX3_layLists := List.mem_of_getElem? (i := 3) rfl
theorem kX3_layLists_62 : Cond.fieldLink RX3 62 "FlatLottery$Household" "wishCount" "I" ∈ wsX3_layLists := List.mem_of_getElem? (i := 4) rfl
theorem nX3_layLists_2 : ∀ w ∈ u_ws RX2 TX2 9, w ∈ wsX3_layLists := in_r [35, 36, 37, 38, 39, 40, 41, 42, 43] (by decide +kernel)
theorem nX3_layLists_3 : ∀ w ∈ u_ws RX3 TX3 7, w ∈ wsX3_layLists := in_r [20, 21, 22, 23, 24, 25, 26] (by decide +kernel)
theorem nX3_layLists_6 : ∀ w ∈ u_ws RX6 TX6 8, w ∈ wsX3_layLists := in_r [27, 28, 29, 30, 31, 32, 33, 34] (by decide +kernel)
set_option maxHeartbeats 4000000 in
set_option maxRecDepth 100000 in
theorem cl_X3_layLists_45 {p : Program} {l : Launch} {e : Env} {s : State} {m : MethodId} {args : Array Value} {below : List Frame} {meth : Method} {c : Code} {D : va_G} {cs : Nat → ClassId} {ad : Nat → Nat} (C : Cx p s m args meth c RX3 cX3_layLists 6 wsX3_layLists D cs ad) (hr : meth.sig.returnType = none) {a2 : Int32} {a4 : Nat} {x1 : Value} {r : Int32} {M' : Mem} (t4 : tg a4 = 2) {k : Mem → Option (Int32 × Mem)} (hk : ∀ (M : Mem), k M = some (r, M') → V p l e (rmk 1) s m args below meth c 6 D cs ad (QV below s args D cs ad M') 79 [some (.ref (ad 243)), some (x1), some (.int a2), none, none, none] [] M) : ∀ (n : Nat) (a5 : Int32) (M : Mem), l_X3_layLists_45 a2 a4 k n a5 M = some (r, M') → V p l e (rmk 1) s m args below meth c 6 D cs ad (QV below s args D cs ad M') 45 [some (.ref (ad 243)), some (x1), some (.int a2), none, some (.ref (ad a4)), some (.int a5)] [] M := by
  intro n
  induction n with
  | zero => intro a5 M hf; cases hf
  | succ n ih =>
    intro a5 M hf
    rw [l_X3_layLists_45_s] at hf
    refine x_iload C dX3_layLists_45 rfl ?_
    refine x_aload_n C dX3_layLists_47 rfl rfl ?_
    refine x_getr (Cn := RX3) (T := TX3) (N := 7) C tg_243 (by decide) rfl nX3_layLists_3 4 (by decide) rfl kX3_layLists_19 rfl dX3_layLists_48 246 rfl ?_
    refine x_iload_n C dX3_layLists_51 rfl rfl ?_
    obtain ⟨g11, hf⟩ := ck_of hf
    refine x_iald (j := (a2).toNatClampNeg) C tg_246 tl_246 g11 rfl dX3_layLists_52 ?_
    refine x_icmp_ge (tgt := 79) C dX3_layLists_53 (by decide) (fun q12 => ?_) (fun q12 => ?_)
    · have hf := ift q12 hf
      exact x_weak (hk _ hf) [0, 1, 2] rfl
    · have hf := iff_ q12 hf
      refine x_aload C dX3_layLists_56 rfl ?_
      refine x_aload_n C dX3_layLists_58 rfl rfl ?_
      refine x_getr (Cn := RX3) (T := TX3) (N := 7) C tg_243 (by decide) rfl nX3_layLists_3 5 (by decide) rfl kX3_layLists_22 rfl dX3_layLists_59 247 rfl ?_
      refine x_iload_n C dX3_layLists_62 rfl rfl ?_
      refine x_bipush (v := (6 : Int32)) C dX3_layLists_63 (by decide) ?_
      refine x_imul C dX3_layLists_65 ?_
      refine x_iload C dX3_layLists_66 rfl ?_
      refine x_iadd C dX3_layLists_68 ?_
      obtain ⟨g13, hf⟩ := ck_of hf
      refine x_iald (j := (((a2 * (6 : Int32)) + a5)).toNatClampNeg) C tg_247 tl_247 g13 rfl dX3_layLists_69 ?_
      obtain ⟨r14, M15, e16, hf⟩ := bd_of hf
      refine x_callVv (n := 1) (Cn := RX2) (T := TX2) (N := 9) (As := [.int (M 247 (((a2 * (6 : Int32)) + a5)).toNatClampNeg)]) (rest := []) (maxL := 2) (ret := none) C (c_X2_addWish t4 e16) gX3_layLists_X2_addWish rfl (by decide +kernel) ⟨Nat.le_of_ble_eq_true rfl, Nat.le_of_ble_eq_true rfl⟩ t4 (by decide) rfl rfl rfl rfl (Nat.le_of_ble_eq_true rfl) dX3_layLists_70 ?_
      refine x_iinc (d := (1 : Int32)) (v := (a5 + (1 : Int32))) (lv' := [some (.ref (ad 243)), some (x1), some (.int a2), none, some (.ref (ad a4)), some (.int (a5 + (1 : Int32)))]) C dX3_layLists_73 rfl (by decide) rfl (by decide) rfl ?_
      refine x_goto (tgt := 45) C dX3_layLists_76 (by decide) ?_
      exact x_weak (ih _ _ hf) [0, 1, 2, 4, 5] rfl

set_option maxHeartbeats 4000000 in
set_option maxRecDepth 100000 in
theorem cl_X3_layLists_2 {p : Program} {l : Launch} {e : Env} {s : State} {m : MethodId} {args : Array Value} {below : List Frame} {meth : Method} {c : Code} {D : va_G} {cs : Nat → ClassId} {ad : Nat → Nat} (C : Cx p s m args meth c RX3 cX3_layLists 6 wsX3_layLists D cs ad) (hr : meth.sig.returnType = none) {a1 : Nat} {r : Int32} {M' : Mem} (t1 : tg a1 = 6) : ∀ (n : Nat) (a2 : Int32) (M : Mem), l_X3_layLists_2 a1 n a2 M = some (r, M') → V p l e (rmk 1) s m args below meth c 6 D cs ad (QV below s args D cs ad M') 2 [some (.ref (ad 243)), some (.ref (ad a1)), some (.int a2), none, none, none] [] M := by
  intro n
  induction n with
  | zero => intro a2 M hf; cases hf
  | succ n ih =>
    intro a2 M hf
    rw [l_X3_layLists_2_s] at hf
    refine x_iload_n C dX3_layLists_2 rfl rfl ?_
    refine x_aload_n C dX3_layLists_3 rfl rfl ?_
    refine x_geti (Cn := RX3) (T := TX3) (N := 7) C tg_243 (by decide) rfl nX3_layLists_3 2 (by decide) rfl kX3_layLists_32 rfl dX3_layLists_4 ?_
    refine x_icmp_ge (tgt := 85) C dX3_layLists_7 (by decide) (fun q1 => ?_) (fun q1 => ?_)
    · have hf := ift q1 hf
      exact x_vret C hr hf dX3_layLists_85
    · have hf := iff_ q1 hf
      refine x_aload_n C dX3_layLists_10 rfl rfl ?_
      refine x_getr (Cn := RX3) (T := TX3) (N := 7) C tg_243 (by decide) rfl nX3_layLists_3 3 (by decide) rfl kX3_layLists_15 rfl dX3_layLists_11 245 rfl ?_
      refine x_iload_n C dX3_layLists_14 rfl rfl ?_
      obtain ⟨g2, hf⟩ := ck_of hf
      refine x_iald (j := (a2).toNatClampNeg) C tg_245 tl_245 g2 rfl dX3_layLists_15 ?_
      refine x_istore_n (lv' := [some (.ref (ad 243)), some (.ref (ad a1)), some (.int a2), some (.int (M 245 (a2).toNatClampNeg)), none, none]) C dX3_layLists_16 rfl (by decide) rfl ?_
      refine x_aload_n C dX3_layLists_17 rfl rfl ?_
      refine x_iload_n C dX3_layLists_18 rfl rfl ?_
      obtain ⟨r3, M4, e5, hf⟩ := bd_of hf
      refine x_callV (n := 1) (Cn := RX6) (T := TX6) (N := 8) (As := [.int (M 245 (a2).toNatClampNeg)]) (rest := []) (maxL := 2) (ret := (some .boolean)) C (c_X6_hasHousehold t1 e5) gX3_layLists_X6_hasHousehold rfl (by decide +kernel) ⟨Nat.le_of_ble_eq_true rfl, Nat.le_of_ble_eq_true rfl⟩ t1 (by decide) rfl rfl rfl rfl (Nat.le_of_ble_eq_true rfl) dX3_layLists_19 ?_
      refine x_if_ne (tgt := 28) C dX3_layLists_22 (by decide) (fun q6 => ?_) (fun q6 => ?_)
      · have hf := ift q6 hf
        refine x_goto (tgt := 79) C dX3_layLists_25 (by decide) ?_
        refine x_iinc (d := (1 : Int32)) (v := (a2 + (1 : Int32))) (lv' := [some (.ref (ad 243)), some (.ref (ad a1)), some (.int (a2 + (1 : Int32))), some (.int (M 245 (a2).toNatClampNeg)), none, none]) C dX3_layLists_79 rfl (by decide) rfl (by decide) rfl ?_
        refine x_goto (tgt := 2) C dX3_layLists_82 (by decide) ?_
        exact x_weak (ih _ _ hf) [0, 1, 2] rfl
      · have hf := iff_ q6 hf
        refine x_aload_n C dX3_layLists_28 rfl rfl ?_
        refine x_getr (Cn := RX6) (T := TX6) (N := 8) C t1 (by decide) rfl nX3_layLists_6 1 (by decide) rfl kX3_layLists_58 rfl dX3_layLists_29 (a1 + 2) rfl ?_
        refine x_iload_n C dX3_layLists_32 rfl rfl ?_
        obtain ⟨g7, hf⟩ := ck_of hf
        have w8 : (a1 + 2) + 14 + 2 * ((M 245 (a2).toNatClampNeg)).toNatClampNeg = (a1 + 16 + 2 * ((M 245 (a2).toNatClampNeg)).toNatClampNeg) := by omega
        have u9 : tg (a1 + 16 + 2 * ((M 245 (a2).toNatClampNeg)).toNatClampNeg) = 2 := te_H (x := (M 245 (a2).toNatClampNeg)) (tf_6_1 t1) g7 w8
        refine x_aaldH (j := ((M 245 (a2).toNatClampNeg)).toNatClampNeg) C (tf_6_1 t1) (tl_6_1 t1) g7 rfl dX3_layLists_33 (a1 + 16 + 2 * ((M 245 (a2).toNatClampNeg)).toNatClampNeg) w8 ?_
        refine x_astore (lv' := [some (.ref (ad 243)), some (.ref (ad a1)), some (.int a2), some (.int (M 245 (a2).toNatClampNeg)), some (.ref (ad (a1 + 16 + 2 * ((M 245 (a2).toNatClampNeg)).toNatClampNeg))), none]) C dX3_layLists_34 (by decide) rfl ?_
        refine x_aload C dX3_layLists_36 rfl ?_
        refine x_iconst (v := (0 : Int32)) C dX3_layLists_38 (by decide) ?_
        refine x_puti (ty := .int) (Cn := RX2) (T := TX2) (N := 9) C u9 (by decide) rfl nX3_layLists_2 tyX2 tyX2_ok nmX2 1 (by decide) rfl kX3_layLists_62 rfl rfl (by decide +kernel) rfl rfl dX3_layLists_39 ?_
        refine x_gen hf (fun M10 hf => ?_)
        refine x_iconst (v := (0 : Int32)) C dX3_layLists_42 (by decide) ?_
        refine x_istore (lv' := [some (.ref (ad 243)), some (.ref (ad a1)), some (.int a2), some (.int (M 245 (a2).toNatClampNeg)), some (.ref (ad (a1 + 16 + 2 * ((M 245 (a2).toNatClampNeg)).toNatClampNeg))), some (.int (0 : Int32))]) C dX3_layLists_43 (by decide) rfl ?_
        refine x_weak (cl_X3_layLists_45 C hr u9 (fun M17 hf => ?_) _ _ _ hf) [0, 1, 2, 4, 5] rfl
        refine x_iinc (d := (1 : Int32)) (v := (a2 + (1 : Int32))) (lv' := [some (.ref (ad 243)), some (.ref (ad a1)), some (.int (a2 + (1 : Int32))), none, none, none]) C dX3_layLists_79 rfl (by decide) rfl (by decide) rfl ?_
        refine x_goto (tgt := 2) C dX3_layLists_82 (by decide) ?_
        exact x_weak (ih _ _ hf) [0, 1, 2] rfl

set_option maxHeartbeats 4000000 in
set_option maxRecDepth 100000 in
theorem c_X3_layLists {a1 : Nat} {M : Mem} {r : Int32} {M' : Mem} (t1 : tg a1 = 6) (hf : f_X3_layLists a1 M = some (r, M')) : CnV yX3_layLists wsX3_layLists 1 (fun ad => [.ref (ad 243), .ref (ad a1)]) M M' := by
  unfold f_X3_layLists at hf
  refine x_metV (cc := cX3_layLists) (maxL := 6) RX3 rfl (by decide) rfl (fun ad => Nat.le_of_ble_eq_true rfl) (fun ad v hv => ?_) (fun p l e s m args below meth c D cs ad C hr => ?_)
  · simp only [List.mem_cons, List.not_mem_nil, or_false] at hv
    rcases hv with rfl | rfl <;> rfl
  · show V p l e (rmk 1) s m args below meth c 6 D cs ad (QV below s args D cs ad M') 0 [some (.ref (ad 243)), some (.ref (ad a1)), none, none, none, none] [] M
    refine x_iconst (v := (0 : Int32)) C dX3_layLists_0 (by decide) ?_
    refine x_istore_n (lv' := [some (.ref (ad 243)), some (.ref (ad a1)), some (.int (0 : Int32)), none, none, none]) C dX3_layLists_1 rfl (by decide) rfl ?_
    exact x_weak (cl_X3_layLists_2 C hr t1 _ _ _ hf) [0, 1, 2] rfl

theorem kX3_namesOnlyKnown_15 : Cond.fieldLink RX3 15 "FlatLottery$ListText" "listHousehold" "[I" ∈ wsX3_namesOnlyKnown := List.mem_of_getElem? (i := 2) rfl
theorem kX3_namesOnlyKnown_19 : Cond.fieldLink RX3 19 "FlatLottery$ListText" "listSize" "[I" ∈ wsX3_namesOnlyKnown := List.mem_of_getElem? (i := 3) rfl
theorem kX3_namesOnlyKnown_22 : Cond.fieldLink RX3 22 "FlatLottery$ListText" "listFlats" "[I" ∈ wsX3_namesOnlyKnown := List.mem_of_getElem? (i := 4) rfl
theorem kX3_namesOnlyKnown_32 : Cond.fieldLink RX3 32 "FlatLottery$ListText" "listCount" "I" ∈ wsX3_namesOnlyKnown := List.mem_of_getElem? (i := 1) rfl
theorem nX3_namesOnlyKnown_3 : ∀ w ∈ u_ws RX3 TX3 7, w ∈ wsX3_namesOnlyKnown := in_r [16, 17, 18, 19, 20, 21, 22] (by decide +kernel)
set_option maxHeartbeats 4000000 in
set_option maxRecDepth 100000 in
theorem cl_X3_namesOnlyKnown_27 {p : Program} {l : Launch} {e : Env} {s : State} {m : MethodId} {args : Array Value} {below : List Frame} {meth : Method} {c : Code} {D : va_G} {cs : Nat → ClassId} {ad : Nat → Nat} (C : Cx p s m args meth c RX3 cX3_namesOnlyKnown 4 wsX3_namesOnlyKnown D cs ad) (hr : meth.sig.returnType = some .boolean) {a1 : Nat} {a2 : Int32} {r : Int32} {M' : Mem} (t1 : tg a1 = 6) {k : Mem → Option (Int32 × Mem)} (hk : ∀ (M : Mem), k M = some (r, M') → V p l e (rmk 1) s m args below meth c 4 D cs ad (QI below s args D cs ad r M') 63 [some (.ref (ad 243)), some (.ref (ad a1)), some (.int a2), none] [] M) : ∀ (n : Nat) (a3 : Int32) (M : Mem), l_X3_namesOnlyKnown_27 a1 a2 k n a3 M = some (r, M') → V p l e (rmk 1) s m args below meth c 4 D cs ad (QI below s args D cs ad r M') 27 [some (.ref (ad 243)), some (.ref (ad a1)), some (.int a2), some (.int a3)] [] M := by
  intro n
  induction n with
  | zero => intro a3 M hf; cases hf
  | succ n ih =>
    intro a3 M hf
    rw [l_X3_namesOnlyKnown_27_s] at hf
    refine x_iload_n C dX3_namesOnlyKnown_27 rfl rfl ?_
    refine x_aload_n C dX3_namesOnlyKnown_28 rfl rfl ?_
    refine x_getr (Cn := RX3) (T := TX3) (N := 7) C tg_243 (by decide) rfl nX3_namesOnlyKnown_3 4 (by decide) rfl kX3_namesOnlyKnown_19 rfl dX3_namesOnlyKnown_29 246 rfl ?_
    refine x_iload_n C dX3_namesOnlyKnown_32 rfl rfl ?_
    obtain ⟨g7, hf⟩ := ck_of hf
    refine x_iald (j := (a2).toNatClampNeg) C tg_246 tl_246 g7 rfl dX3_namesOnlyKnown_33 ?_
    refine x_icmp_ge (tgt := 63) C dX3_namesOnlyKnown_34 (by decide) (fun q8 => ?_) (fun q8 => ?_)
    · have hf := ift q8 hf
      exact x_weak (hk _ hf) [0, 1, 2] rfl
    · have hf := iff_ q8 hf
      refine x_aload_n C dX3_namesOnlyKnown_37 rfl rfl ?_
      refine x_aload_n C dX3_namesOnlyKnown_38 rfl rfl ?_
      refine x_getr (Cn := RX3) (T := TX3) (N := 7) C tg_243 (by decide) rfl nX3_namesOnlyKnown_3 5 (by decide) rfl kX3_namesOnlyKnown_22 rfl dX3_namesOnlyKnown_39 247 rfl ?_
      refine x_iload_n C dX3_namesOnlyKnown_42 rfl rfl ?_
      refine x_bipush (v := (6 : Int32)) C dX3_namesOnlyKnown_43 (by decide) ?_
      refine x_imul C dX3_namesOnlyKnown_45 ?_
      refine x_iload_n C dX3_namesOnlyKnown_46 rfl rfl ?_
      refine x_iadd C dX3_namesOnlyKnown_47 ?_
      obtain ⟨g9, hf⟩ := ck_of hf
      refine x_iald (j := (((a2 * (6 : Int32)) + a3)).toNatClampNeg) C tg_247 tl_247 g9 rfl dX3_namesOnlyKnown_48 ?_
      obtain ⟨r10, M11, e12, hf⟩ := bd_of hf
      refine x_callV (n := 1) (Cn := RX6) (T := TX6) (N := 8) (As := [.int (M 247 (((a2 * (6 : Int32)) + a3)).toNatClampNeg)]) (rest := []) (maxL := 2) (ret := (some .boolean)) C (c_X6_hasFlat t1 e12) gX3_namesOnlyKnown_X6_hasFlat rfl (by decide +kernel) ⟨Nat.le_of_ble_eq_true rfl, Nat.le_of_ble_eq_true rfl⟩ t1 (by decide) rfl rfl rfl rfl (Nat.le_of_ble_eq_true rfl) dX3_namesOnlyKnown_49 ?_
      refine x_if_ne (tgt := 57) C dX3_namesOnlyKnown_52 (by decide) (fun q13 => ?_) (fun q13 => ?_)
      · have hf := ift q13 hf
        refine x_iconst (v := (0 : Int32)) C dX3_namesOnlyKnown_55 (by decide) ?_
        exact x_zret C hr rfl hf dX3_namesOnlyKnown_56
      · have hf := iff_ q13 hf
        refine x_iinc (d := (1 : Int32)) (v := (a3 + (1 : Int32))) (lv' := [some (.ref (ad 243)), some (.ref (ad a1)), some (.int a2), some (.int (a3 + (1 : Int32)))]) C dX3_namesOnlyKnown_57 rfl (by decide) rfl (by decide) rfl ?_
        refine x_goto (tgt := 27) C dX3_namesOnlyKnown_60 (by decide) ?_
        exact x_weak (ih _ _ hf) [0, 1, 2, 3] rfl

set_option maxHeartbeats 4000000 in
set_option maxRecDepth 100000 in
theorem cl_X3_namesOnlyKnown_2 {p : Program} {l : Launch} {e : Env} {s : State} {m : MethodId} {args : Array Value} {below : List Frame} {meth : Method} {c : Code} {D : va_G} {cs : Nat → ClassId} {ad : Nat → Nat} (C : Cx p s m args meth c RX3 cX3_namesOnlyKnown 4 wsX3_namesOnlyKnown D cs ad) (hr : meth.sig.returnType = some .boolean) {a1 : Nat} {r : Int32} {M' : Mem} (t1 : tg a1 = 6) : ∀ (n : Nat) (a2 : Int32) (M : Mem), l_X3_namesOnlyKnown_2 a1 n a2 M = some (r, M') → V p l e (rmk 1) s m args below meth c 4 D cs ad (QI below s args D cs ad r M') 2 [some (.ref (ad 243)), some (.ref (ad a1)), some (.int a2), none] [] M := by
  intro n
  induction n with
  | zero => intro a2 M hf; cases hf
  | succ n ih =>
    intro a2 M hf
    rw [l_X3_namesOnlyKnown_2_s] at hf
    refine x_iload_n C dX3_namesOnlyKnown_2 rfl rfl ?_
    refine x_aload_n C dX3_namesOnlyKnown_3 rfl rfl ?_
    refine x_geti (Cn := RX3) (T := TX3) (N := 7) C tg_243 (by decide) rfl nX3_namesOnlyKnown_3 2 (by decide) rfl kX3_namesOnlyKnown_32 rfl dX3_namesOnlyKnown_4 ?_
    refine x_icmp_ge (tgt := 69) C dX3_namesOnlyKnown_7 (by decide) (fun q1 => ?_) (fun q1 => ?_)
    · have hf := ift q1 hf
      refine x_iconst (v := (1 : Int32)) C dX3_namesOnlyKnown_69 (by decide) ?_
      exact x_zret C hr rfl hf dX3_namesOnlyKnown_70
    · have hf := iff_ q1 hf
      refine x_aload_n C dX3_namesOnlyKnown_10 rfl rfl ?_
      refine x_aload_n C dX3_namesOnlyKnown_11 rfl rfl ?_
      refine x_getr (Cn := RX3) (T := TX3) (N := 7) C tg_243 (by decide) rfl nX3_namesOnlyKnown_3 3 (by decide) rfl kX3_namesOnlyKnown_15 rfl dX3_namesOnlyKnown_12 245 rfl ?_
      refine x_iload_n C dX3_namesOnlyKnown_15 rfl rfl ?_
      obtain ⟨g2, hf⟩ := ck_of hf
      refine x_iald (j := (a2).toNatClampNeg) C tg_245 tl_245 g2 rfl dX3_namesOnlyKnown_16 ?_
      obtain ⟨r3, M4, e5, hf⟩ := bd_of hf
      refine x_callV (n := 1) (Cn := RX6) (T := TX6) (N := 8) (As := [.int (M 245 (a2).toNatClampNeg)]) (rest := []) (maxL := 2) (ret := (some .boolean)) C (c_X6_hasHousehold t1 e5) gX3_namesOnlyKnown_X6_hasHousehold rfl (by decide +kernel) ⟨Nat.le_of_ble_eq_true rfl, Nat.le_of_ble_eq_true rfl⟩ t1 (by decide) rfl rfl rfl rfl (Nat.le_of_ble_eq_true rfl) dX3_namesOnlyKnown_17 ?_
      refine x_if_ne (tgt := 25) C dX3_namesOnlyKnown_20 (by decide) (fun q6 => ?_) (fun q6 => ?_)
      · have hf := ift q6 hf
        refine x_iconst (v := (0 : Int32)) C dX3_namesOnlyKnown_23 (by decide) ?_
        exact x_zret C hr rfl hf dX3_namesOnlyKnown_24
      · have hf := iff_ q6 hf
        refine x_iconst (v := (0 : Int32)) C dX3_namesOnlyKnown_25 (by decide) ?_
        refine x_istore_n (lv' := [some (.ref (ad 243)), some (.ref (ad a1)), some (.int a2), some (.int (0 : Int32))]) C dX3_namesOnlyKnown_26 rfl (by decide) rfl ?_
        refine x_weak (cl_X3_namesOnlyKnown_27 C hr t1 (fun M14 hf => ?_) _ _ _ hf) [0, 1, 2, 3] rfl
        refine x_iinc (d := (1 : Int32)) (v := (a2 + (1 : Int32))) (lv' := [some (.ref (ad 243)), some (.ref (ad a1)), some (.int (a2 + (1 : Int32))), none]) C dX3_namesOnlyKnown_63 rfl (by decide) rfl (by decide) rfl ?_
        refine x_goto (tgt := 2) C dX3_namesOnlyKnown_66 (by decide) ?_
        exact x_weak (ih _ _ hf) [0, 1, 2] rfl

set_option maxHeartbeats 4000000 in
set_option maxRecDepth 100000 in
theorem c_X3_namesOnlyKnown {a1 : Nat} {M : Mem} {r : Int32} {M' : Mem} (t1 : tg a1 = 6) (hf : f_X3_namesOnlyKnown a1 M = some (r, M')) : CnI yX3_namesOnlyKnown wsX3_namesOnlyKnown 1 (fun ad => [.ref (ad 243), .ref (ad a1)]) M r M' := by
  unfold f_X3_namesOnlyKnown at hf
  refine x_metI (cc := cX3_namesOnlyKnown) (maxL := 4) RX3 rfl (by decide) rfl (fun ad => Nat.le_of_ble_eq_true rfl) (fun ad v hv => ?_) (fun p l e s m args below meth c D cs ad C hr => ?_)
  · simp only [List.mem_cons, List.not_mem_nil, or_false] at hv
    rcases hv with rfl | rfl <;> rfl
  · show V p l e (rmk 1) s m args below meth c 4 D cs ad (QI below s args D cs ad r M') 0 [some (.ref (ad 243)), some (.ref (ad a1)), none, none] [] M
    refine x_iconst (v := (0 : Int32)) C dX3_namesOnlyKnown_0 (by decide) ?_
    refine x_istore_n (lv' := [some (.ref (ad 243)), some (.ref (ad a1)), some (.int (0 : Int32)), none]) C dX3_namesOnlyKnown_1 rfl (by decide) rfl ?_
    exact x_weak (cl_X3_namesOnlyKnown_2 C hr t1 _ _ _ hf) [0, 1, 2] rfl

theorem kX5_isInRing_21 : Cond.fieldLink RX5 21 "FlatLottery$Rings" "size" "I" ∈ wsX5_isInRing := List.mem_of_getElem? (i := 1) rfl
theorem nX5_isInRing_5 : ∀ w ∈ u_ws RX5 TX5 2, w ∈ wsX5_isInRing := in_r [8, 9] (by decide +kernel)
set_option maxHeartbeats 4000000 in
set_option maxRecDepth 100000 in
theorem cl_X5_isInRing_4 {p : Program} {l : Launch} {e : Env} {s : State} {m : MethodId} {args : Array Value} {below : List Frame} {meth : Method} {c : Code} {D : va_G} {cs : Nat → ClassId} {ad : Nat → Nat} (C : Cx p s m args meth c RX5 cX5_isInRing 4 wsX5_isInRing D cs ad) (hr : meth.sig.returnType = some .boolean) {a1 : Int32} {r : Int32} {M' : Mem}  : ∀ (n : Nat) (a2 : Int32) (a3 : Int32) (M : Mem), l_X5_isInRing_4 a1 n a2 a3 M = some (r, M') → V p l e (rmk 1) s m args below meth c 4 D cs ad (QI below s args D cs ad r M') 4 [some (.ref (ad 248)), some (.int a1), some (.int a2), some (.int a3)] [] M := by
  intro n
  induction n with
  | zero => intro a2 a3 M hf; cases hf
  | succ n ih =>
    intro a2 a3 M hf
    rw [l_X5_isInRing_4_s] at hf
    refine x_iload_n C dX5_isInRing_4 rfl rfl ?_
    refine x_aload_n C dX5_isInRing_5 rfl rfl ?_
    refine x_geti (Cn := RX5) (T := TX5) (N := 2) C tg_248 (by decide) rfl nX5_isInRing_5 1 (by decide) rfl kX5_isInRing_21 rfl dX5_isInRing_6 ?_
    refine x_icmp_ge (tgt := 31) C dX5_isInRing_9 (by decide) (fun q1 => ?_) (fun q1 => ?_)
    · have hf := ift q1 hf
      refine x_iconst (v := (0 : Int32)) C dX5_isInRing_31 (by decide) ?_
      exact x_zret C hr rfl hf dX5_isInRing_32
    · have hf := iff_ q1 hf
      refine x_aload_n C dX5_isInRing_12 rfl rfl ?_
      refine x_iload_n C dX5_isInRing_13 rfl rfl ?_
      obtain ⟨r2, M3, e4, hf⟩ := bd_of hf
      refine x_callV (n := 1) (Cn := RX5) (T := TX5) (N := 2) (As := [.int a2]) (rest := []) (maxL := 2) (ret := (some .int)) C (c_X5_after  e4) gX5_isInRing_X5_after rfl (by decide +kernel) ⟨Nat.le_of_ble_eq_true rfl, Nat.le_of_ble_eq_true rfl⟩ tg_248 (by decide) rfl rfl rfl rfl (Nat.le_of_ble_eq_true rfl) dX5_isInRing_14 ?_
      refine x_istore_n (lv' := [some (.ref (ad 248)), some (.int a1), some (.int r2), some (.int a3)]) C dX5_isInRing_17 rfl (by decide) rfl ?_
      refine x_iload_n C dX5_isInRing_18 rfl rfl ?_
      refine x_iload_n C dX5_isInRing_19 rfl rfl ?_
      refine x_icmp_ne (tgt := 25) C dX5_isInRing_20 (by decide) (fun q5 => ?_) (fun q5 => ?_)
      · have hf := ift q5 hf
        refine x_iconst (v := (1 : Int32)) C dX5_isInRing_23 (by decide) ?_
        exact x_zret C hr rfl hf dX5_isInRing_24
      · have hf := iff_ q5 hf
        refine x_iinc (d := (1 : Int32)) (v := (a3 + (1 : Int32))) (lv' := [some (.ref (ad 248)), some (.int a1), some (.int r2), some (.int (a3 + (1 : Int32)))]) C dX5_isInRing_25 rfl (by decide) rfl (by decide) rfl ?_
        refine x_goto (tgt := 4) C dX5_isInRing_28 (by decide) ?_
        exact x_weak (ih _ _ _ hf) [0, 1, 2, 3] rfl

set_option maxHeartbeats 4000000 in
set_option maxRecDepth 100000 in
theorem c_X5_isInRing {a1 : Int32} {M : Mem} {r : Int32} {M' : Mem}  (hf : f_X5_isInRing a1 M = some (r, M')) : CnI yX5_isInRing wsX5_isInRing 1 (fun ad => [.ref (ad 248), .int a1]) M r M' := by
  unfold f_X5_isInRing at hf
  refine x_metI (cc := cX5_isInRing) (maxL := 4) RX5 rfl (by decide) rfl (fun ad => Nat.le_of_ble_eq_true rfl) (fun ad v hv => ?_) (fun p l e s m args below meth c D cs ad C hr => ?_)
  · simp only [List.mem_cons, List.not_mem_nil, or_false] at hv
    rcases hv with rfl | rfl <;> rfl
  · show V p l e (rmk 1) s m args below meth c 4 D cs ad (QI below s args D cs ad r M') 0 [some (.ref (ad 248)), some (.int a1), none, none] [] M
    refine x_iload_n C dX5_isInRing_0 rfl rfl ?_
    refine x_istore_n (lv' := [some (.ref (ad 248)), some (.int a1), some (.int a1), none]) C dX5_isInRing_1 rfl (by decide) rfl ?_
    refine x_iconst (v := (0 : Int32)) C dX5_isInRing_2 (by decide) ?_
    refine x_istore_n (lv' := [some (.ref (ad 248)), some (.int a1), some (.int a1), some (.int (0 : Int32))]) C dX5_isInRing_3 rfl (by decide) rfl ?_
    exact x_weak (cl_X5_isInRing_4 C hr  _ _ _ _ hf) [0, 1, 2, 3] rfl

theorem kX5_swapRingOf_21 : Cond.fieldLink RX5 21 "FlatLottery$Rings" "size" "I" ∈ wsX5_swapRingOf := List.mem_of_getElem? (i := 3) rfl
theorem kX5_swapRingOf_24 : Cond.fieldLink RX5 24 "FlatLottery$State" "households" "[LFlatLottery$Household;" ∈ wsX5_swapRingOf := List.mem_of_getElem? (i := 1) rfl
theorem kX5_swapRingOf_52 : Cond.fieldLink RX5 52 "FlatLottery$Household" "held" "I" ∈ wsX5_swapRingOf := List.mem_of_getElem? (i := 2) rfl
theorem nX5_swapRingOf_2 : ∀ w ∈ u_ws RX2 TX2 9, w ∈ wsX5_swapRingOf := in_r [18, 19, 20, 21, 22, 23, 24, 25, 26] (by decide +kernel)
theorem nX5_swapRingOf_5 : ∀ w ∈ u_ws RX5 TX5 2, w ∈ wsX5_swapRingOf := in_r [27, 28] (by decide +kernel)
theorem nX5_swapRingOf_6 : ∀ w ∈ u_ws RX6 TX6 8, w ∈ wsX5_swapRingOf := in_r [10, 11, 12, 13, 14, 15, 16, 17] (by decide +kernel)
set_option maxHeartbeats 4000000 in
set_option maxRecDepth 100000 in
theorem cl_X5_swapRingOf_16 {p : Program} {l : Launch} {e : Env} {s : State} {m : MethodId} {args : Array Value} {below : List Frame} {meth : Method} {c : Code} {D : va_G} {cs : Nat → ClassId} {ad : Nat → Nat} (C : Cx p s m args meth c RX5 cX5_swapRingOf 7 wsX5_swapRingOf D cs ad) (hr : meth.sig.returnType = some .int) {a1 : Int32} {a2 : Nat} {a3 : Int32} {r : Int32} {M' : Mem} (t2 : tg a2 = 6) : ∀ (n : Nat) (a4 : Int32) (a5 : Int32) (M : Mem), l_X5_swapRingOf_16 a1 a2 a3 n a4 a5 M = some (r, M') → V p l e (rmk 1) s m args below meth c 7 D cs ad (QI below s args D cs ad r M') 16 [some (.ref (ad 248)), some (.int a1), some (.ref (ad a2)), some (.int a3), some (.int a4), some (.int a5), none] [] M := by
  intro n
  induction n with
  | zero => intro a4 a5 M hf; cases hf
  | succ n ih =>
    intro a4 a5 M hf
    rw [l_X5_swapRingOf_16_s] at hf
    refine x_iload C dX5_swapRingOf_16 rfl ?_
    refine x_aload_n C dX5_swapRingOf_18 rfl rfl ?_
    refine x_geti (Cn := RX5) (T := TX5) (N := 2) C tg_248 (by decide) rfl nX5_swapRingOf_5 1 (by decide) rfl kX5_swapRingOf_21 rfl dX5_swapRingOf_19 ?_
    refine x_icmp_gt (tgt := 90) C dX5_swapRingOf_22 (by decide) (fun q4 => ?_) (fun q4 => ?_)
    · have hf := ift q4 hf
      refine x_aload_n C dX5_swapRingOf_90 rfl rfl ?_
      refine x_geti (Cn := RX5) (T := TX5) (N := 2) C tg_248 (by decide) rfl nX5_swapRingOf_5 1 (by decide) rfl kX5_swapRingOf_21 rfl dX5_swapRingOf_91 ?_
      exact x_iret C hr hf dX5_swapRingOf_94
    · have hf := iff_ q4 hf
      refine x_aload_n C dX5_swapRingOf_25 rfl rfl ?_
      refine x_iload C dX5_swapRingOf_26 rfl ?_
      obtain ⟨r5, M6, e7, hf⟩ := bd_of hf
      refine x_callV (n := 1) (Cn := RX5) (T := TX5) (N := 2) (As := [.int a4]) (rest := []) (maxL := 2) (ret := (some .int)) C (c_X5_after  e7) gX5_swapRingOf_X5_after rfl (by decide +kernel) ⟨Nat.le_of_ble_eq_true rfl, Nat.le_of_ble_eq_true rfl⟩ tg_248 (by decide) rfl rfl rfl rfl (Nat.le_of_ble_eq_true rfl) dX5_swapRingOf_28 ?_
      refine x_istore (lv' := [some (.ref (ad 248)), some (.int a1), some (.ref (ad a2)), some (.int a3), some (.int a4), some (.int a5), some (.int r5)]) C dX5_swapRingOf_31 (by decide) rfl ?_
      refine x_iload C dX5_swapRingOf_33 rfl ?_
      refine x_bipush (v := (-5 : Int32)) C dX5_swapRingOf_35 (by decide) ?_
      refine x_icmp_eq (tgt := 46) C dX5_swapRingOf_37 (by decide) (fun q8 => ?_) (fun q8 => ?_)
      · have hf := ift q8 hf
        refine x_aload_n C dX5_swapRingOf_46 rfl rfl ?_
        refine x_getr (Cn := RX6) (T := TX6) (N := 8) C t2 (by decide) rfl nX5_swapRingOf_6 1 (by decide) rfl kX5_swapRingOf_24 rfl dX5_swapRingOf_47 (a2 + 2) rfl ?_
        refine x_iload C dX5_swapRingOf_50 rfl ?_
        obtain ⟨g9, hf⟩ := ck_of hf
        have w10 : (a2 + 2) + 14 + 2 * (a4).toNatClampNeg = (a2 + 16 + 2 * (a4).toNatClampNeg) := by omega
        have u11 : tg (a2 + 16 + 2 * (a4).toNatClampNeg) = 2 := te_H (x := a4) (tf_6_1 t2) g9 w10
        refine x_aaldH (j := (a4).toNatClampNeg) C (tf_6_1 t2) (tl_6_1 t2) g9 rfl dX5_swapRingOf_52 (a2 + 16 + 2 * (a4).toNatClampNeg) w10 ?_
        refine x_iload_n C dX5_swapRingOf_53 rfl rfl ?_
        refine x_puti (ty := .int) (Cn := RX2) (T := TX2) (N := 9) C u11 (by decide) rfl nX5_swapRingOf_2 tyX2 tyX2_ok nmX2 6 (by decide) rfl kX5_swapRingOf_52 rfl rfl (by decide +kernel) rfl rfl dX5_swapRingOf_54 ?_
        refine x_gen hf (fun M12 hf => ?_)
        refine x_iload C dX5_swapRingOf_57 rfl ?_
        exact x_iret C hr hf dX5_swapRingOf_59
      · have hf := iff_ q8 hf
        refine x_iload C dX5_swapRingOf_40 rfl ?_
        refine x_iload_n C dX5_swapRingOf_42 rfl rfl ?_
        refine x_icmp_ne (tgt := 60) C dX5_swapRingOf_43 (by decide) (fun q13 => ?_) (fun q13 => ?_)
        · have hf := ift q13 hf
          refine x_aload_n C dX5_swapRingOf_46 rfl rfl ?_
          refine x_getr (Cn := RX6) (T := TX6) (N := 8) C t2 (by decide) rfl nX5_swapRingOf_6 1 (by decide) rfl kX5_swapRingOf_24 rfl dX5_swapRingOf_47 (a2 + 2) rfl ?_
          refine x_iload C dX5_swapRingOf_50 rfl ?_
          obtain ⟨g14, hf⟩ := ck_of hf
          have w15 : (a2 + 2) + 14 + 2 * (a4).toNatClampNeg = (a2 + 16 + 2 * (a4).toNatClampNeg) := by omega
          have u16 : tg (a2 + 16 + 2 * (a4).toNatClampNeg) = 2 := te_H (x := a4) (tf_6_1 t2) g14 w15
          refine x_aaldH (j := (a4).toNatClampNeg) C (tf_6_1 t2) (tl_6_1 t2) g14 rfl dX5_swapRingOf_52 (a2 + 16 + 2 * (a4).toNatClampNeg) w15 ?_
          refine x_iload_n C dX5_swapRingOf_53 rfl rfl ?_
          refine x_puti (ty := .int) (Cn := RX2) (T := TX2) (N := 9) C u16 (by decide) rfl nX5_swapRingOf_2 tyX2 tyX2_ok nmX2 6 (by decide) rfl kX5_swapRingOf_52 rfl rfl (by decide +kernel) rfl rfl dX5_swapRingOf_54 ?_
          refine x_gen hf (fun M17 hf => ?_)
          refine x_iload C dX5_swapRingOf_57 rfl ?_
          exact x_iret C hr hf dX5_swapRingOf_59
        · have hf := iff_ q13 hf
          refine x_aload_n C dX5_swapRingOf_60 rfl rfl ?_
          refine x_getr (Cn := RX6) (T := TX6) (N := 8) C t2 (by decide) rfl nX5_swapRingOf_6 1 (by decide) rfl kX5_swapRingOf_24 rfl dX5_swapRingOf_61 (a2 + 2) rfl ?_
          refine x_iload C dX5_swapRingOf_64 rfl ?_
          obtain ⟨g18, hf⟩ := ck_of hf
          have w19 : (a2 + 2) + 14 + 2 * (a4).toNatClampNeg = (a2 + 16 + 2 * (a4).toNatClampNeg) := by omega
          have u20 : tg (a2 + 16 + 2 * (a4).toNatClampNeg) = 2 := te_H (x := a4) (tf_6_1 t2) g18 w19
          refine x_aaldH (j := (a4).toNatClampNeg) C (tf_6_1 t2) (tl_6_1 t2) g18 rfl dX5_swapRingOf_66 (a2 + 16 + 2 * (a4).toNatClampNeg) w19 ?_
          refine x_aload_n C dX5_swapRingOf_67 rfl rfl ?_
          refine x_getr (Cn := RX6) (T := TX6) (N := 8) C t2 (by decide) rfl nX5_swapRingOf_6 1 (by decide) rfl kX5_swapRingOf_24 rfl dX5_swapRingOf_68 (a2 + 2) rfl ?_
          refine x_iload C dX5_swapRingOf_71 rfl ?_
          obtain ⟨g21, hf⟩ := ck_of hf
          have w22 : (a2 + 2) + 14 + 2 * (r5).toNatClampNeg = (a2 + 16 + 2 * (r5).toNatClampNeg) := by omega
          have u23 : tg (a2 + 16 + 2 * (r5).toNatClampNeg) = 2 := te_H (x := r5) (tf_6_1 t2) g21 w22
          refine x_aaldH (j := (r5).toNatClampNeg) C (tf_6_1 t2) (tl_6_1 t2) g21 rfl dX5_swapRingOf_73 (a2 + 16 + 2 * (r5).toNatClampNeg) w22 ?_
          refine x_geti (Cn := RX2) (T := TX2) (N := 9) C u23 (by decide) rfl nX5_swapRingOf_2 6 (by decide) rfl kX5_swapRingOf_52 rfl dX5_swapRingOf_74 ?_
          refine x_puti (ty := .int) (Cn := RX2) (T := TX2) (N := 9) C u20 (by decide) rfl nX5_swapRingOf_2 tyX2 tyX2_ok nmX2 6 (by decide) rfl kX5_swapRingOf_52 rfl rfl (by decide +kernel) rfl rfl dX5_swapRingOf_77 ?_
          refine x_gen hf (fun M24 hf => ?_)
          refine x_iload C dX5_swapRingOf_80 rfl ?_
          refine x_istore (lv' := [some (.ref (ad 248)), some (.int a1), some (.ref (ad a2)), some (.int a3), some (.int r5), some (.int a5), some (.int r5)]) C dX5_swapRingOf_82 (by decide) rfl ?_
          refine x_iinc (d := (1 : Int32)) (v := (a5 + (1 : Int32))) (lv' := [some (.ref (ad 248)), some (.int a1), some (.ref (ad a2)), some (.int a3), some (.int r5), some (.int (a5 + (1 : Int32))), some (.int r5)]) C dX5_swapRingOf_84 rfl (by decide) rfl (by decide) rfl ?_
          refine x_goto (tgt := 16) C dX5_swapRingOf_87 (by decide) ?_
          exact x_weak (ih _ _ _ hf) [0, 1, 2, 3, 4, 5] rfl

set_option maxHeartbeats 4000000 in
set_option maxRecDepth 100000 in
theorem c_X5_swapRingOf {a1 : Int32} {a2 : Nat} {M : Mem} {r : Int32} {M' : Mem} (t2 : tg a2 = 6) (hf : f_X5_swapRingOf a1 a2 M = some (r, M')) : CnI yX5_swapRingOf wsX5_swapRingOf 1 (fun ad => [.ref (ad 248), .int a1, .ref (ad a2)]) M r M' := by
  unfold f_X5_swapRingOf at hf
  refine x_metI (cc := cX5_swapRingOf) (maxL := 7) RX5 rfl (by decide) rfl (fun ad => Nat.le_of_ble_eq_true rfl) (fun ad v hv => ?_) (fun p l e s m args below meth c D cs ad C hr => ?_)
  · simp only [List.mem_cons, List.not_mem_nil, or_false] at hv
    rcases hv with rfl | rfl | rfl <;> rfl
  · show V p l e (rmk 1) s m args below meth c 7 D cs ad (QI below s args D cs ad r M') 0 [some (.ref (ad 248)), some (.int a1), some (.ref (ad a2)), none, none, none, none] [] M
    refine x_aload_n C dX5_swapRingOf_0 rfl rfl ?_
    refine x_getr (Cn := RX6) (T := TX6) (N := 8) C t2 (by decide) rfl nX5_swapRingOf_6 1 (by decide) rfl kX5_swapRingOf_24 rfl dX5_swapRingOf_1 (a2 + 2) rfl ?_
    refine x_iload_n C dX5_swapRingOf_4 rfl rfl ?_
    obtain ⟨g1, hf⟩ := ck_of hf
    have w2 : (a2 + 2) + 14 + 2 * (a1).toNatClampNeg = (a2 + 16 + 2 * (a1).toNatClampNeg) := by omega
    have u3 : tg (a2 + 16 + 2 * (a1).toNatClampNeg) = 2 := te_H (x := a1) (tf_6_1 t2) g1 w2
    refine x_aaldH (j := (a1).toNatClampNeg) C (tf_6_1 t2) (tl_6_1 t2) g1 rfl dX5_swapRingOf_5 (a2 + 16 + 2 * (a1).toNatClampNeg) w2 ?_
    refine x_geti (Cn := RX2) (T := TX2) (N := 9) C u3 (by decide) rfl nX5_swapRingOf_2 6 (by decide) rfl kX5_swapRingOf_52 rfl dX5_swapRingOf_6 ?_
    refine x_istore_n (lv' := [some (.ref (ad 248)), some (.int a1), some (.ref (ad a2)), some (.int (M (a2 + 16 + 2 * (a1).toNatClampNeg) 6)), none, none, none]) C dX5_swapRingOf_9 rfl (by decide) rfl ?_
    refine x_iload_n C dX5_swapRingOf_10 rfl rfl ?_
    refine x_istore (lv' := [some (.ref (ad 248)), some (.int a1), some (.ref (ad a2)), some (.int (M (a2 + 16 + 2 * (a1).toNatClampNeg) 6)), some (.int a1), none, none]) C dX5_swapRingOf_11 (by decide) rfl ?_
    refine x_iconst (v := (1 : Int32)) C dX5_swapRingOf_13 (by decide) ?_
    refine x_istore (lv' := [some (.ref (ad 248)), some (.int a1), some (.ref (ad a2)), some (.int (M (a2 + 16 + 2 * (a1).toNatClampNeg) 6)), some (.int a1), some (.int (1 : Int32)), none]) C dX5_swapRingOf_14 (by decide) rfl ?_
    exact x_weak (cl_X5_swapRingOf_16 C hr t2 _ _ _ _ hf) [0, 1, 2, 3, 4, 5] rfl

theorem kX6_copyFrom_11 : Cond.fieldLink RX6 11 "FlatLottery$State" "flats" "[LFlatLottery$Flat;" ∈ wsX6_copyFrom := List.mem_of_getElem? (i := 2) rfl
theorem kX6_copyFrom_19 : Cond.fieldLink RX6 19 "FlatLottery$State" "households" "[LFlatLottery$Household;" ∈ wsX6_copyFrom := List.mem_of_getElem? (i := 4) rfl
theorem kX6_copyFrom_29 : Cond.fieldLink RX6 29 "FlatLottery$State" "flatCount" "I" ∈ wsX6_copyFrom := List.mem_of_getElem? (i := 1) rfl
theorem kX6_copyFrom_37 : Cond.fieldLink RX6 37 "FlatLottery$State" "householdCount" "I" ∈ wsX6_copyFrom := List.mem_of_getElem? (i := 3) rfl
theorem kX6_copyFrom_43 : Cond.fieldLink RX6 43 "FlatLottery$State" "rounds" "I" ∈ wsX6_copyFrom := List.mem_of_getElem? (i := 5) rfl
theorem kX6_copyFrom_46 : Cond.fieldLink RX6 46 "FlatLottery$State" "refused" "I" ∈ wsX6_copyFrom := List.mem_of_getElem? (i := 6) rfl
theorem kX6_copyFrom_49 : Cond.fieldLink RX6 49 "FlatLottery$State" "declined" "I" ∈ wsX6_copyFrom := List.mem_of_getElem? (i := 7) rfl
theorem nX6_copyFrom_6 : ∀ w ∈ u_ws RX6 TX6 8, w ∈ wsX6_copyFrom := in_r [29, 30, 31, 32, 33, 34, 35, 36] (by decide +kernel)
set_option maxHeartbeats 4000000 in
set_option maxRecDepth 100000 in
theorem cl_X6_copyFrom_10 {p : Program} {l : Launch} {e : Env} {s : State} {m : MethodId} {args : Array Value} {below : List Frame} {meth : Method} {c : Code} {D : va_G} {cs : Nat → ClassId} {ad : Nat → Nat} (C : Cx p s m args meth c RX6 cX6_copyFrom 3 wsX6_copyFrom D cs ad) (hr : meth.sig.returnType = none) {a0 : Nat} {a1 : Nat} {r : Int32} {M' : Mem} (t0 : tg a0 = 6) (t1 : tg a1 = 6) {k : Mem → Option (Int32 × Mem)} (hk : ∀ (M : Mem), k M = some (r, M') → V p l e (rmk 1) s m args below meth c 3 D cs ad (QV below s args D cs ad M') 39 [some (.ref (ad a0)), some (.ref (ad a1)), none] [] M) : ∀ (n : Nat) (a2 : Int32) (M : Mem), l_X6_copyFrom_10 a0 a1 k n a2 M = some (r, M') → V p l e (rmk 1) s m args below meth c 3 D cs ad (QV below s args D cs ad M') 10 [some (.ref (ad a0)), some (.ref (ad a1)), some (.int a2)] [] M := by
  intro n
  induction n with
  | zero => intro a2 M hf; cases hf
  | succ n ih =>
    intro a2 M hf
    rw [l_X6_copyFrom_10_s] at hf
    refine x_iload_n C dX6_copyFrom_10 rfl rfl ?_
    refine x_aload_n C dX6_copyFrom_11 rfl rfl ?_
    refine x_geti (Cn := RX6) (T := TX6) (N := 8) C t0 (by decide) rfl nX6_copyFrom_6 2 (by decide) rfl kX6_copyFrom_29 rfl dX6_copyFrom_12 ?_
    refine x_icmp_ge (tgt := 39) C dX6_copyFrom_15 (by decide) (fun q2 => ?_) (fun q2 => ?_)
    · have hf := ift q2 hf
      exact x_weak (hk _ hf) [0, 1] rfl
    · have hf := iff_ q2 hf
      refine x_aload_n C dX6_copyFrom_18 rfl rfl ?_
      refine x_getr (Cn := RX6) (T := TX6) (N := 8) C t0 (by decide) rfl nX6_copyFrom_6 0 (by decide) rfl kX6_copyFrom_11 rfl dX6_copyFrom_19 (a0 + 1) rfl ?_
      refine x_iload_n C dX6_copyFrom_22 rfl rfl ?_
      obtain ⟨g3, hf⟩ := ck_of hf
      have w4 : (a0 + 1) + 3 + (a2).toNatClampNeg = (a0 + 4 + (a2).toNatClampNeg) := by omega
      have u5 : tg (a0 + 4 + (a2).toNatClampNeg) = 0 := te_F (x := a2) (tf_6_0 t0) g3 w4
      refine x_aaldF (j := (a2).toNatClampNeg) C (tf_6_0 t0) (tl_6_0 t0) g3 rfl dX6_copyFrom_23 (a0 + 4 + (a2).toNatClampNeg) w4 ?_
      refine x_aload_n C dX6_copyFrom_24 rfl rfl ?_
      refine x_getr (Cn := RX6) (T := TX6) (N := 8) C t1 (by decide) rfl nX6_copyFrom_6 0 (by decide) rfl kX6_copyFrom_11 rfl dX6_copyFrom_25 (a1 + 1) rfl ?_
      refine x_iload_n C dX6_copyFrom_28 rfl rfl ?_
      obtain ⟨g6, hf⟩ := ck_of hf
      have w7 : (a1 + 1) + 3 + (a2).toNatClampNeg = (a1 + 4 + (a2).toNatClampNeg) := by omega
      have u8 : tg (a1 + 4 + (a2).toNatClampNeg) = 0 := te_F (x := a2) (tf_6_0 t1) g6 w7
      refine x_aaldF (j := (a2).toNatClampNeg) C (tf_6_0 t1) (tl_6_0 t1) g6 rfl dX6_copyFrom_29 (a1 + 4 + (a2).toNatClampNeg) w7 ?_
      obtain ⟨r9, M10, e11, hf⟩ := bd_of hf
      refine x_callVv (n := 1) (Cn := RX0) (T := TX0) (N := 2) (As := [.ref (ad (a1 + 4 + (a2).toNatClampNeg))]) (rest := []) (maxL := 2) (ret := none) C (c_X0_copyFrom u5 u8 e11) gX6_copyFrom_X0_copyFrom rfl (by decide +kernel) ⟨Nat.le_of_ble_eq_true rfl, Nat.le_of_ble_eq_true rfl⟩ u5 (by decide) rfl rfl rfl rfl (Nat.le_of_ble_eq_true rfl) dX6_copyFrom_30 ?_
      refine x_iinc (d := (1 : Int32)) (v := (a2 + (1 : Int32))) (lv' := [some (.ref (ad a0)), some (.ref (ad a1)), some (.int (a2 + (1 : Int32)))]) C dX6_copyFrom_33 rfl (by decide) rfl (by decide) rfl ?_
      refine x_goto (tgt := 10) C dX6_copyFrom_36 (by decide) ?_
      exact x_weak (ih _ _ hf) [0, 1, 2] rfl

set_option maxHeartbeats 4000000 in
set_option maxRecDepth 100000 in
theorem cl_X6_copyFrom_49 {p : Program} {l : Launch} {e : Env} {s : State} {m : MethodId} {args : Array Value} {below : List Frame} {meth : Method} {c : Code} {D : va_G} {cs : Nat → ClassId} {ad : Nat → Nat} (C : Cx p s m args meth c RX6 cX6_copyFrom 3 wsX6_copyFrom D cs ad) (hr : meth.sig.returnType = none) {a0 : Nat} {a1 : Nat} {r : Int32} {M' : Mem} (t0 : tg a0 = 6) (t1 : tg a1 = 6) : ∀ (n : Nat) (a2 : Int32) (M : Mem), l_X6_copyFrom_49 a0 a1 n a2 M = some (r, M') → V p l e (rmk 1) s m args below meth c 3 D cs ad (QV below s args D cs ad M') 49 [some (.ref (ad a0)), some (.ref (ad a1)), some (.int a2)] [] M := by
  intro n
  induction n with
  | zero => intro a2 M hf; cases hf
  | succ n ih =>
    intro a2 M hf
    rw [l_X6_copyFrom_49_s] at hf
    refine x_iload_n C dX6_copyFrom_49 rfl rfl ?_
    refine x_aload_n C dX6_copyFrom_50 rfl rfl ?_
    refine x_geti (Cn := RX6) (T := TX6) (N := 8) C t0 (by decide) rfl nX6_copyFrom_6 3 (by decide) rfl kX6_copyFrom_37 rfl dX6_copyFrom_51 ?_
    refine x_icmp_ge (tgt := 78) C dX6_copyFrom_54 (by decide) (fun q14 => ?_) (fun q14 => ?_)
    · have hf := ift q14 hf
      refine x_aload_n C dX6_copyFrom_78 rfl rfl ?_
      refine x_aload_n C dX6_copyFrom_79 rfl rfl ?_
      refine x_geti (Cn := RX6) (T := TX6) (N := 8) C t1 (by decide) rfl nX6_copyFrom_6 4 (by decide) rfl kX6_copyFrom_43 rfl dX6_copyFrom_80 ?_
      refine x_puti (ty := .int) (Cn := RX6) (T := TX6) (N := 8) C t0 (by decide) rfl nX6_copyFrom_6 tyX6 tyX6_ok nmX6 4 (by decide) rfl kX6_copyFrom_43 rfl rfl (by decide +kernel) rfl rfl dX6_copyFrom_83 ?_
      refine x_gen hf (fun M15 hf => ?_)
      refine x_aload_n C dX6_copyFrom_86 rfl rfl ?_
      refine x_aload_n C dX6_copyFrom_87 rfl rfl ?_
      refine x_geti (Cn := RX6) (T := TX6) (N := 8) C t1 (by decide) rfl nX6_copyFrom_6 5 (by decide) rfl kX6_copyFrom_46 rfl dX6_copyFrom_88 ?_
      refine x_puti (ty := .int) (Cn := RX6) (T := TX6) (N := 8) C t0 (by decide) rfl nX6_copyFrom_6 tyX6 tyX6_ok nmX6 5 (by decide) rfl kX6_copyFrom_46 rfl rfl (by decide +kernel) rfl rfl dX6_copyFrom_91 ?_
      refine x_gen hf (fun M16 hf => ?_)
      refine x_aload_n C dX6_copyFrom_94 rfl rfl ?_
      refine x_aload_n C dX6_copyFrom_95 rfl rfl ?_
      refine x_geti (Cn := RX6) (T := TX6) (N := 8) C t1 (by decide) rfl nX6_copyFrom_6 6 (by decide) rfl kX6_copyFrom_49 rfl dX6_copyFrom_96 ?_
      refine x_puti (ty := .int) (Cn := RX6) (T := TX6) (N := 8) C t0 (by decide) rfl nX6_copyFrom_6 tyX6 tyX6_ok nmX6 6 (by decide) rfl kX6_copyFrom_49 rfl rfl (by decide +kernel) rfl rfl dX6_copyFrom_99 ?_
      refine x_gen hf (fun M17 hf => ?_)
      exact x_vret C hr hf dX6_copyFrom_102
    · have hf := iff_ q14 hf
      refine x_aload_n C dX6_copyFrom_57 rfl rfl ?_
      refine x_getr (Cn := RX6) (T := TX6) (N := 8) C t0 (by decide) rfl nX6_copyFrom_6 1 (by decide) rfl kX6_copyFrom_19 rfl dX6_copyFrom_58 (a0 + 2) rfl ?_
      refine x_iload_n C dX6_copyFrom_61 rfl rfl ?_
      obtain ⟨g18, hf⟩ := ck_of hf
      have w19 : (a0 + 2) + 14 + 2 * (a2).toNatClampNeg = (a0 + 16 + 2 * (a2).toNatClampNeg) := by omega
      have u20 : tg (a0 + 16 + 2 * (a2).toNatClampNeg) = 2 := te_H (x := a2) (tf_6_1 t0) g18 w19
      refine x_aaldH (j := (a2).toNatClampNeg) C (tf_6_1 t0) (tl_6_1 t0) g18 rfl dX6_copyFrom_62 (a0 + 16 + 2 * (a2).toNatClampNeg) w19 ?_
      refine x_aload_n C dX6_copyFrom_63 rfl rfl ?_
      refine x_getr (Cn := RX6) (T := TX6) (N := 8) C t1 (by decide) rfl nX6_copyFrom_6 1 (by decide) rfl kX6_copyFrom_19 rfl dX6_copyFrom_64 (a1 + 2) rfl ?_
      refine x_iload_n C dX6_copyFrom_67 rfl rfl ?_
      obtain ⟨g21, hf⟩ := ck_of hf
      have w22 : (a1 + 2) + 14 + 2 * (a2).toNatClampNeg = (a1 + 16 + 2 * (a2).toNatClampNeg) := by omega
      have u23 : tg (a1 + 16 + 2 * (a2).toNatClampNeg) = 2 := te_H (x := a2) (tf_6_1 t1) g21 w22
      refine x_aaldH (j := (a2).toNatClampNeg) C (tf_6_1 t1) (tl_6_1 t1) g21 rfl dX6_copyFrom_68 (a1 + 16 + 2 * (a2).toNatClampNeg) w22 ?_
      obtain ⟨r24, M25, e26, hf⟩ := bd_of hf
      refine x_callVv (n := 1) (Cn := RX2) (T := TX2) (N := 9) (As := [.ref (ad (a1 + 16 + 2 * (a2).toNatClampNeg))]) (rest := []) (maxL := 3) (ret := none) C (c_X2_copyFrom u20 u23 e26) gX6_copyFrom_X2_copyFrom rfl (by decide +kernel) ⟨Nat.le_of_ble_eq_true rfl, Nat.le_of_ble_eq_true rfl⟩ u20 (by decide) rfl rfl rfl rfl (Nat.le_of_ble_eq_true rfl) dX6_copyFrom_69 ?_
      refine x_iinc (d := (1 : Int32)) (v := (a2 + (1 : Int32))) (lv' := [some (.ref (ad a0)), some (.ref (ad a1)), some (.int (a2 + (1 : Int32)))]) C dX6_copyFrom_72 rfl (by decide) rfl (by decide) rfl ?_
      refine x_goto (tgt := 49) C dX6_copyFrom_75 (by decide) ?_
      exact x_weak (ih _ _ hf) [0, 1, 2] rfl

set_option maxHeartbeats 4000000 in
set_option maxRecDepth 100000 in
theorem c_X6_copyFrom {a0 : Nat} {a1 : Nat} {M : Mem} {r : Int32} {M' : Mem} (t0 : tg a0 = 6) (t1 : tg a1 = 6) (hf : f_X6_copyFrom a0 a1 M = some (r, M')) : CnV yX6_copyFrom wsX6_copyFrom 1 (fun ad => [.ref (ad a0), .ref (ad a1)]) M M' := by
  unfold f_X6_copyFrom at hf
  refine x_metV (cc := cX6_copyFrom) (maxL := 3) RX6 rfl (by decide) rfl (fun ad => Nat.le_of_ble_eq_true rfl) (fun ad v hv => ?_) (fun p l e s m args below meth c D cs ad C hr => ?_)
  · simp only [List.mem_cons, List.not_mem_nil, or_false] at hv
    rcases hv with rfl | rfl <;> rfl
  · show V p l e (rmk 1) s m args below meth c 3 D cs ad (QV below s args D cs ad M') 0 [some (.ref (ad a0)), some (.ref (ad a1)), none] [] M
    refine x_aload_n C dX6_copyFrom_0 rfl rfl ?_
    refine x_aload_n C dX6_copyFrom_1 rfl rfl ?_
    refine x_geti (Cn := RX6) (T := TX6) (N := 8) C t1 (by decide) rfl nX6_copyFrom_6 2 (by decide) rfl kX6_copyFrom_29 rfl dX6_copyFrom_2 ?_
    refine x_puti (ty := .int) (Cn := RX6) (T := TX6) (N := 8) C t0 (by decide) rfl nX6_copyFrom_6 tyX6 tyX6_ok nmX6 2 (by decide) rfl kX6_copyFrom_29 rfl rfl (by decide +kernel) rfl rfl dX6_copyFrom_5 ?_
    refine x_gen hf (fun M1 hf => ?_)
    refine x_iconst (v := (0 : Int32)) C dX6_copyFrom_8 (by decide) ?_
    refine x_istore_n (lv' := [some (.ref (ad a0)), some (.ref (ad a1)), some (.int (0 : Int32))]) C dX6_copyFrom_9 rfl (by decide) rfl ?_
    refine x_weak (cl_X6_copyFrom_10 C hr t0 t1 (fun M12 hf => ?_) _ _ _ hf) [0, 1, 2] rfl
    refine x_aload_n C dX6_copyFrom_39 rfl rfl ?_
    refine x_aload_n C dX6_copyFrom_40 rfl rfl ?_
    refine x_geti (Cn := RX6) (T := TX6) (N := 8) C t1 (by decide) rfl nX6_copyFrom_6 3 (by decide) rfl kX6_copyFrom_37 rfl dX6_copyFrom_41 ?_
    refine x_puti (ty := .int) (Cn := RX6) (T := TX6) (N := 8) C t0 (by decide) rfl nX6_copyFrom_6 tyX6 tyX6_ok nmX6 3 (by decide) rfl kX6_copyFrom_37 rfl rfl (by decide +kernel) rfl rfl dX6_copyFrom_44 ?_
    refine x_gen hf (fun M13 hf => ?_)
    refine x_iconst (v := (0 : Int32)) C dX6_copyFrom_47 (by decide) ?_
    refine x_istore_n (lv' := [some (.ref (ad a0)), some (.ref (ad a1)), some (.int (0 : Int32))]) C dX6_copyFrom_48 rfl (by decide) rfl ?_
    exact x_weak (cl_X6_copyFrom_49 C hr t0 t1 _ _ _ hf) [0, 1, 2] rfl

theorem kX6_isCrowded_11 : Cond.fieldLink RX6 11 "FlatLottery$State" "flats" "[LFlatLottery$Flat;" ∈ wsX6_isCrowded := List.mem_of_getElem? (i := 3) rfl
theorem kX6_isCrowded_52 : Cond.fieldLink RX6 52 "FlatLottery$Household" "held" "I" ∈ wsX6_isCrowded := List.mem_of_getElem? (i := 1) rfl
theorem kX6_isCrowded_114 : Cond.fieldLink RX6 114 "FlatLottery$Household" "members" "I" ∈ wsX6_isCrowded := List.mem_of_getElem? (i := 2) rfl
theorem kX6_isCrowded_117 : Cond.fieldLink RX6 117 "FlatLottery$Flat" "rooms" "I" ∈ wsX6_isCrowded := List.mem_of_getElem? (i := 4) rfl
theorem nX6_isCrowded_0 : ∀ w ∈ u_ws RX0 TX0 2, w ∈ wsX6_isCrowded := in_r [28, 29] (by decide +kernel)
theorem nX6_isCrowded_2 : ∀ w ∈ u_ws RX2 TX2 9, w ∈ wsX6_isCrowded := in_r [11, 12, 13, 14, 15, 16, 17, 18, 19] (by decide +kernel)
theorem nX6_isCrowded_6 : ∀ w ∈ u_ws RX6 TX6 8, w ∈ wsX6_isCrowded := in_r [20, 21, 22, 23, 24, 25, 26, 27] (by decide +kernel)
set_option maxHeartbeats 4000000 in
set_option maxRecDepth 100000 in
theorem c_X6_isCrowded {a0 : Nat} {a1 : Nat} {M : Mem} {r : Int32} {M' : Mem} (t0 : tg a0 = 6) (t1 : tg a1 = 2) (hf : f_X6_isCrowded a0 a1 M = some (r, M')) : CnI yX6_isCrowded wsX6_isCrowded 1 (fun ad => [.ref (ad a0), .ref (ad a1)]) M r M' := by
  unfold f_X6_isCrowded at hf
  refine x_metI (cc := cX6_isCrowded) (maxL := 2) RX6 rfl (by decide) rfl (fun ad => Nat.le_of_ble_eq_true rfl) (fun ad v hv => ?_) (fun p l e s m args below meth c D cs ad C hr => ?_)
  · simp only [List.mem_cons, List.not_mem_nil, or_false] at hv
    rcases hv with rfl | rfl <;> rfl
  · show V p l e (rmk 1) s m args below meth c 2 D cs ad (QI below s args D cs ad r M') 0 [some (.ref (ad a0)), some (.ref (ad a1))] [] M
    refine x_aload_n C dX6_isCrowded_0 rfl rfl ?_
    refine x_aload_n C dX6_isCrowded_1 rfl rfl ?_
    refine x_geti (Cn := RX2) (T := TX2) (N := 9) C t1 (by decide) rfl nX6_isCrowded_2 6 (by decide) rfl kX6_isCrowded_52 rfl dX6_isCrowded_2 ?_
    obtain ⟨r1, M2, e3, hf⟩ := bd_of hf
    refine x_callV (n := 1) (Cn := RX6) (T := TX6) (N := 8) (As := [.int (M a1 6)]) (rest := []) (maxL := 2) (ret := (some .boolean)) C (c_X6_hasFlat t0 e3) gX6_isCrowded_X6_hasFlat rfl (by decide +kernel) ⟨Nat.le_of_ble_eq_true rfl, Nat.le_of_ble_eq_true rfl⟩ t0 (by decide) rfl rfl rfl rfl (Nat.le_of_ble_eq_true rfl) dX6_isCrowded_5 ?_
    refine x_if_eq (tgt := 36) C dX6_isCrowded_8 (by decide) (fun q4 => ?_) (fun q4 => ?_)
    · have hf := ift q4 hf
      refine x_iconst (v := (0 : Int32)) C dX6_isCrowded_36 (by decide) ?_
      exact x_zret C hr rfl hf dX6_isCrowded_37
    · have hf := iff_ q4 hf
      refine x_aload_n C dX6_isCrowded_11 rfl rfl ?_
      refine x_geti (Cn := RX2) (T := TX2) (N := 9) C t1 (by decide) rfl nX6_isCrowded_2 2 (by decide) rfl kX6_isCrowded_114 rfl dX6_isCrowded_12 ?_
      refine x_aload_n C dX6_isCrowded_15 rfl rfl ?_
      refine x_getr (Cn := RX6) (T := TX6) (N := 8) C t0 (by decide) rfl nX6_isCrowded_6 0 (by decide) rfl kX6_isCrowded_11 rfl dX6_isCrowded_16 (a0 + 1) rfl ?_
      refine x_aload_n C dX6_isCrowded_19 rfl rfl ?_
      refine x_geti (Cn := RX2) (T := TX2) (N := 9) C t1 (by decide) rfl nX6_isCrowded_2 6 (by decide) rfl kX6_isCrowded_52 rfl dX6_isCrowded_20 ?_
      obtain ⟨g5, hf⟩ := ck_of hf
      have w6 : (a0 + 1) + 3 + ((M2 a1 6)).toNatClampNeg = (a0 + 4 + ((M2 a1 6)).toNatClampNeg) := by omega
      have u7 : tg (a0 + 4 + ((M2 a1 6)).toNatClampNeg) = 0 := te_F (x := (M2 a1 6)) (tf_6_0 t0) g5 w6
      refine x_aaldF (j := ((M2 a1 6)).toNatClampNeg) C (tf_6_0 t0) (tl_6_0 t0) g5 rfl dX6_isCrowded_23 (a0 + 4 + ((M2 a1 6)).toNatClampNeg) w6 ?_
      refine x_geti (Cn := RX0) (T := TX0) (N := 2) C u7 (by decide) rfl nX6_isCrowded_0 0 (by decide) rfl kX6_isCrowded_117 rfl dX6_isCrowded_24 ?_
      refine x_iconst (v := (1 : Int32)) C dX6_isCrowded_27 (by decide) ?_
      refine x_iadd C dX6_isCrowded_28 ?_
      refine x_icmp_le (tgt := 36) C dX6_isCrowded_29 (by decide) (fun q8 => ?_) (fun q8 => ?_)
      · have hf := ift q8 hf
        refine x_iconst (v := (0 : Int32)) C dX6_isCrowded_36 (by decide) ?_
        exact x_zret C hr rfl hf dX6_isCrowded_37
      · have hf := iff_ q8 hf
        refine x_iconst (v := (1 : Int32)) C dX6_isCrowded_32 (by decide) ?_
        refine x_goto (tgt := 37) C dX6_isCrowded_33 (by decide) ?_
        exact x_zret C hr rfl hf dX6_isCrowded_37

theorem kX6_isEligible_11 : Cond.fieldLink RX6 11 "FlatLottery$State" "flats" "[LFlatLottery$Flat;" ∈ wsX6_isEligible := List.mem_of_getElem? (i := 1) rfl
theorem nX6_isEligible_6 : ∀ w ∈ u_ws RX6 TX6 8, w ∈ wsX6_isEligible := in_r [17, 18, 19, 20, 21, 22, 23, 24] (by decide +kernel)
set_option maxHeartbeats 4000000 in
set_option maxRecDepth 100000 in
theorem c_X6_isEligible {a0 : Nat} {a1 : Nat} {a2 : Int32} {M : Mem} {r : Int32} {M' : Mem} (t0 : tg a0 = 6) (t1 : tg a1 = 2) (hf : f_X6_isEligible a0 a1 a2 M = some (r, M')) : CnI yX6_isEligible wsX6_isEligible 1 (fun ad => [.ref (ad a0), .ref (ad a1), .int a2]) M r M' := by
  unfold f_X6_isEligible at hf
  refine x_metI (cc := cX6_isEligible) (maxL := 3) RX6 rfl (by decide) rfl (fun ad => Nat.le_of_ble_eq_true rfl) (fun ad v hv => ?_) (fun p l e s m args below meth c D cs ad C hr => ?_)
  · simp only [List.mem_cons, List.not_mem_nil, or_false] at hv
    rcases hv with rfl | rfl | rfl <;> rfl
  · show V p l e (rmk 1) s m args below meth c 3 D cs ad (QI below s args D cs ad r M') 0 [some (.ref (ad a0)), some (.ref (ad a1)), some (.int a2)] [] M
    refine x_aload_n C dX6_isEligible_0 rfl rfl ?_
    refine x_iload_n C dX6_isEligible_1 rfl rfl ?_
    obtain ⟨r1, M2, e3, hf⟩ := bd_of hf
    refine x_callV (n := 1) (Cn := RX6) (T := TX6) (N := 8) (As := [.int a2]) (rest := []) (maxL := 2) (ret := (some .boolean)) C (c_X6_hasFlat t0 e3) gX6_isEligible_X6_hasFlat rfl (by decide +kernel) ⟨Nat.le_of_ble_eq_true rfl, Nat.le_of_ble_eq_true rfl⟩ t0 (by decide) rfl rfl rfl rfl (Nat.le_of_ble_eq_true rfl) dX6_isEligible_2 ?_
    refine x_if_eq (tgt := 25) C dX6_isEligible_5 (by decide) (fun q4 => ?_) (fun q4 => ?_)
    · have hf := ift q4 hf
      refine x_iconst (v := (0 : Int32)) C dX6_isEligible_25 (by decide) ?_
      exact x_zret C hr rfl hf dX6_isEligible_26
    · have hf := iff_ q4 hf
      refine x_aload_n C dX6_isEligible_8 rfl rfl ?_
      refine x_aload_n C dX6_isEligible_9 rfl rfl ?_
      refine x_getr (Cn := RX6) (T := TX6) (N := 8) C t0 (by decide) rfl nX6_isEligible_6 0 (by decide) rfl kX6_isEligible_11 rfl dX6_isEligible_10 (a0 + 1) rfl ?_
      refine x_iload_n C dX6_isEligible_13 rfl rfl ?_
      obtain ⟨g5, hf⟩ := ck_of hf
      have w6 : (a0 + 1) + 3 + (a2).toNatClampNeg = (a0 + 4 + (a2).toNatClampNeg) := by omega
      have u7 : tg (a0 + 4 + (a2).toNatClampNeg) = 0 := te_F (x := a2) (tf_6_0 t0) g5 w6
      refine x_aaldF (j := (a2).toNatClampNeg) C (tf_6_0 t0) (tl_6_0 t0) g5 rfl dX6_isEligible_14 (a0 + 4 + (a2).toNatClampNeg) w6 ?_
      obtain ⟨r8, M9, e10, hf⟩ := bd_of hf
      refine x_callV (n := 1) (Cn := RX2) (T := TX2) (N := 9) (As := [.ref (ad (a0 + 4 + (a2).toNatClampNeg))]) (rest := []) (maxL := 2) (ret := (some .boolean)) C (c_X2_isEligibleFor t1 u7 e10) gX6_isEligible_X2_isEligibleFor rfl (by decide +kernel) ⟨Nat.le_of_ble_eq_true rfl, Nat.le_of_ble_eq_true rfl⟩ t1 (by decide) rfl rfl rfl rfl (Nat.le_of_ble_eq_true rfl) dX6_isEligible_15 ?_
      refine x_if_eq (tgt := 25) C dX6_isEligible_18 (by decide) (fun q11 => ?_) (fun q11 => ?_)
      · have hf := ift q11 hf
        refine x_iconst (v := (0 : Int32)) C dX6_isEligible_25 (by decide) ?_
        exact x_zret C hr rfl hf dX6_isEligible_26
      · have hf := iff_ q11 hf
        refine x_iconst (v := (1 : Int32)) C dX6_isEligible_21 (by decide) ?_
        refine x_goto (tgt := 26) C dX6_isEligible_22 (by decide) ?_
        exact x_zret C hr rfl hf dX6_isEligible_26

theorem kX6_placeInOrder_19 : Cond.fieldLink RX6 19 "FlatLottery$State" "households" "[LFlatLottery$Household;" ∈ wsX6_placeInOrder := List.mem_of_getElem? (i := 3) rfl
theorem kX6_placeInOrder_37 : Cond.fieldLink RX6 37 "FlatLottery$State" "householdCount" "I" ∈ wsX6_placeInOrder := List.mem_of_getElem? (i := 2) rfl
theorem kX6_placeInOrder_55 : Cond.fieldLink RX6 55 "FlatLottery$Household" "number" "I" ∈ wsX6_placeInOrder := List.mem_of_getElem? (i := 1) rfl
theorem nX6_placeInOrder_2 : ∀ w ∈ u_ws RX2 TX2 9, w ∈ wsX6_placeInOrder := in_r [11, 12, 13, 14, 15, 16, 17, 18, 19] (by decide +kernel)
theorem nX6_placeInOrder_6 : ∀ w ∈ u_ws RX6 TX6 8, w ∈ wsX6_placeInOrder := in_r [20, 21, 22, 23, 24, 25, 26, 27] (by decide +kernel)
set_option maxHeartbeats 4000000 in
set_option maxRecDepth 100000 in
theorem cl_X6_placeInOrder_16 {p : Program} {l : Launch} {e : Env} {s : State} {m : MethodId} {args : Array Value} {below : List Frame} {meth : Method} {c : Code} {D : va_G} {cs : Nat → ClassId} {ad : Nat → Nat} (C : Cx p s m args meth c RX6 cX6_placeInOrder 4 wsX6_placeInOrder D cs ad) (hr : meth.sig.returnType = some .int) {a0 : Nat} {a1 : Nat} {r : Int32} {M' : Mem} (t0 : tg a0 = 6) (t1 : tg a1 = 2) : ∀ (n : Nat) (a2 : Int32) (a3 : Int32) (M : Mem), l_X6_placeInOrder_16 a0 a1 n a2 a3 M = some (r, M') → V p l e (rmk 1) s m args below meth c 4 D cs ad (QI below s args D cs ad r M') 16 [some (.ref (ad a0)), some (.ref (ad a1)), some (.int a2), some (.int a3)] [] M := by
  intro n
  induction n with
  | zero => intro a2 a3 M hf; cases hf
  | succ n ih =>
    intro a2 a3 M hf
    rw [l_X6_placeInOrder_16_s] at hf
    refine x_iload_n C dX6_placeInOrder_16 rfl rfl ?_
    refine x_aload_n C dX6_placeInOrder_17 rfl rfl ?_
    refine x_geti (Cn := RX6) (T := TX6) (N := 8) C t0 (by decide) rfl nX6_placeInOrder_6 3 (by decide) rfl kX6_placeInOrder_37 rfl dX6_placeInOrder_18 ?_
    refine x_icmp_ge (tgt := 46) C dX6_placeInOrder_21 (by decide) (fun q2 => ?_) (fun q2 => ?_)
    · have hf := ift q2 hf
      refine x_iload_n C dX6_placeInOrder_46 rfl rfl ?_
      exact x_iret C hr hf dX6_placeInOrder_47
    · have hf := iff_ q2 hf
      refine x_aload_n C dX6_placeInOrder_24 rfl rfl ?_
      refine x_getr (Cn := RX6) (T := TX6) (N := 8) C t0 (by decide) rfl nX6_placeInOrder_6 1 (by decide) rfl kX6_placeInOrder_19 rfl dX6_placeInOrder_25 (a0 + 2) rfl ?_
      refine x_iload_n C dX6_placeInOrder_28 rfl rfl ?_
      obtain ⟨g3, hf⟩ := ck_of hf
      have w4 : (a0 + 2) + 14 + 2 * (a3).toNatClampNeg = (a0 + 16 + 2 * (a3).toNatClampNeg) := by omega
      have u5 : tg (a0 + 16 + 2 * (a3).toNatClampNeg) = 2 := te_H (x := a3) (tf_6_1 t0) g3 w4
      refine x_aaldH (j := (a3).toNatClampNeg) C (tf_6_1 t0) (tl_6_1 t0) g3 rfl dX6_placeInOrder_29 (a0 + 16 + 2 * (a3).toNatClampNeg) w4 ?_
      refine x_aload_n C dX6_placeInOrder_30 rfl rfl ?_
      obtain ⟨r6, M7, e8, hf⟩ := bd_of hf
      refine x_callV (n := 1) (Cn := RX2) (T := TX2) (N := 9) (As := [.ref (ad a1)]) (rest := []) (maxL := 2) (ret := (some .boolean)) C (c_X2_standsAheadOf u5 t1 e8) gX6_placeInOrder_X2_standsAheadOf rfl (by decide +kernel) ⟨Nat.le_of_ble_eq_true rfl, Nat.le_of_ble_eq_true rfl⟩ u5 (by decide) rfl rfl rfl rfl (Nat.le_of_ble_eq_true rfl) dX6_placeInOrder_31 ?_
      refine x_if_eq (tgt := 40) C dX6_placeInOrder_34 (by decide) (fun q9 => ?_) (fun q9 => ?_)
      · have hf := ift q9 hf
        refine x_iinc (d := (1 : Int32)) (v := (a3 + (1 : Int32))) (lv' := [some (.ref (ad a0)), some (.ref (ad a1)), some (.int a2), some (.int (a3 + (1 : Int32)))]) C dX6_placeInOrder_40 rfl (by decide) rfl (by decide) rfl ?_
        refine x_goto (tgt := 16) C dX6_placeInOrder_43 (by decide) ?_
        exact x_weak (ih _ _ _ hf) [0, 1, 2, 3] rfl
      · have hf := iff_ q9 hf
        refine x_iinc (d := (1 : Int32)) (v := (a2 + (1 : Int32))) (lv' := [some (.ref (ad a0)), some (.ref (ad a1)), some (.int (a2 + (1 : Int32))), some (.int a3)]) C dX6_placeInOrder_37 rfl (by decide) rfl (by decide) rfl ?_
        refine x_iinc (d := (1 : Int32)) (v := (a3 + (1 : Int32))) (lv' := [some (.ref (ad a0)), some (.ref (ad a1)), some (.int (a2 + (1 : Int32))), some (.int (a3 + (1 : Int32)))]) C dX6_placeInOrder_40 rfl (by decide) rfl (by decide) rfl ?_
        refine x_goto (tgt := 16) C dX6_placeInOrder_43 (by decide) ?_
        exact x_weak (ih _ _ _ hf) [0, 1, 2, 3] rfl

set_option maxHeartbeats 4000000 in
set_option maxRecDepth 100000 in
theorem c_X6_placeInOrder {a0 : Nat} {a1 : Nat} {M : Mem} {r : Int32} {M' : Mem} (t0 : tg a0 = 6) (t1 : tg a1 = 2) (hf : f_X6_placeInOrder a0 a1 M = some (r, M')) : CnI yX6_placeInOrder wsX6_placeInOrder 1 (fun ad => [.ref (ad a0), .ref (ad a1)]) M r M' := by
  unfold f_X6_placeInOrder at hf
  refine x_metI (cc := cX6_placeInOrder) (maxL := 4) RX6 rfl (by decide) rfl (fun ad => Nat.le_of_ble_eq_true rfl) (fun ad v hv => ?_) (fun p l e s m args below meth c D cs ad C hr => ?_)
  · simp only [List.mem_cons, List.not_mem_nil, or_false] at hv
    rcases hv with rfl | rfl <;> rfl
  · show V p l e (rmk 1) s m args below meth c 4 D cs ad (QI below s args D cs ad r M') 0 [some (.ref (ad a0)), some (.ref (ad a1)), none, none] [] M
    refine x_aload_n C dX6_placeInOrder_0 rfl rfl ?_
    refine x_geti (Cn := RX2) (T := TX2) (N := 9) C t1 (by decide) rfl nX6_placeInOrder_2 4 (by decide) rfl kX6_placeInOrder_55 rfl dX6_placeInOrder_1 ?_
    refine x_bipush (v := (-5 : Int32)) C dX6_placeInOrder_4 (by decide) ?_
    refine x_icmp_ne (tgt := 12) C dX6_placeInOrder_6 (by decide) (fun q1 => ?_) (fun q1 => ?_)
    · have hf := ift q1 hf
      refine x_bipush (v := (-5 : Int32)) C dX6_placeInOrder_9 (by decide) ?_
      exact x_iret C hr hf dX6_placeInOrder_11
    · have hf := iff_ q1 hf
      refine x_iconst (v := (0 : Int32)) C dX6_placeInOrder_12 (by decide) ?_
      refine x_istore_n (lv' := [some (.ref (ad a0)), some (.ref (ad a1)), some (.int (0 : Int32)), none]) C dX6_placeInOrder_13 rfl (by decide) rfl ?_
      refine x_iconst (v := (0 : Int32)) C dX6_placeInOrder_14 (by decide) ?_
      refine x_istore_n (lv' := [some (.ref (ad a0)), some (.ref (ad a1)), some (.int (0 : Int32)), some (.int (0 : Int32))]) C dX6_placeInOrder_15 rfl (by decide) rfl ?_
      exact x_weak (cl_X6_placeInOrder_16 C hr t0 t1 _ _ _ _ hf) [0, 1, 2, 3] rfl

theorem kX6_wishersOf_19 : Cond.fieldLink RX6 19 "FlatLottery$State" "households" "[LFlatLottery$Household;" ∈ wsX6_wishersOf := List.mem_of_getElem? (i := 2) rfl
theorem kX6_wishersOf_37 : Cond.fieldLink RX6 37 "FlatLottery$State" "householdCount" "I" ∈ wsX6_wishersOf := List.mem_of_getElem? (i := 1) rfl
theorem nX6_wishersOf_6 : ∀ w ∈ u_ws RX6 TX6 8, w ∈ wsX6_wishersOf := in_r [10, 11, 12, 13, 14, 15, 16, 17] (by decide +kernel)
set_option maxHeartbeats 4000000 in
set_option maxRecDepth 100000 in
theorem cl_X6_wishersOf_4 {p : Program} {l : Launch} {e : Env} {s : State} {m : MethodId} {args : Array Value} {below : List Frame} {meth : Method} {c : Code} {D : va_G} {cs : Nat → ClassId} {ad : Nat → Nat} (C : Cx p s m args meth c RX6 cX6_wishersOf 4 wsX6_wishersOf D cs ad) (hr : meth.sig.returnType = some .int) {a0 : Nat} {a1 : Int32} {r : Int32} {M' : Mem} (t0 : tg a0 = 6) : ∀ (n : Nat) (a2 : Int32) (a3 : Int32) (M : Mem), l_X6_wishersOf_4 a0 a1 n a2 a3 M = some (r, M') → V p l e (rmk 1) s m args below meth c 4 D cs ad (QI below s args D cs ad r M') 4 [some (.ref (ad a0)), some (.int a1), some (.int a2), some (.int a3)] [] M := by
  intro n
  induction n with
  | zero => intro a2 a3 M hf; cases hf
  | succ n ih =>
    intro a2 a3 M hf
    rw [l_X6_wishersOf_4_s] at hf
    refine x_iload_n C dX6_wishersOf_4 rfl rfl ?_
    refine x_aload_n C dX6_wishersOf_5 rfl rfl ?_
    refine x_geti (Cn := RX6) (T := TX6) (N := 8) C t0 (by decide) rfl nX6_wishersOf_6 3 (by decide) rfl kX6_wishersOf_37 rfl dX6_wishersOf_6 ?_
    refine x_icmp_ge (tgt := 39) C dX6_wishersOf_9 (by decide) (fun q1 => ?_) (fun q1 => ?_)
    · have hf := ift q1 hf
      refine x_iload_n C dX6_wishersOf_39 rfl rfl ?_
      exact x_iret C hr hf dX6_wishersOf_40
    · have hf := iff_ q1 hf
      refine x_aload_n C dX6_wishersOf_12 rfl rfl ?_
      refine x_getr (Cn := RX6) (T := TX6) (N := 8) C t0 (by decide) rfl nX6_wishersOf_6 1 (by decide) rfl kX6_wishersOf_19 rfl dX6_wishersOf_13 (a0 + 2) rfl ?_
      refine x_iload_n C dX6_wishersOf_16 rfl rfl ?_
      obtain ⟨g2, hf⟩ := ck_of hf
      have w3 : (a0 + 2) + 14 + 2 * (a3).toNatClampNeg = (a0 + 16 + 2 * (a3).toNatClampNeg) := by omega
      have u4 : tg (a0 + 16 + 2 * (a3).toNatClampNeg) = 2 := te_H (x := a3) (tf_6_1 t0) g2 w3
      refine x_aaldH (j := (a3).toNatClampNeg) C (tf_6_1 t0) (tl_6_1 t0) g2 rfl dX6_wishersOf_17 (a0 + 16 + 2 * (a3).toNatClampNeg) w3 ?_
      refine x_iload_n C dX6_wishersOf_18 rfl rfl ?_
      obtain ⟨r5, M6, e7, hf⟩ := bd_of hf
      refine x_callV (n := 1) (Cn := RX2) (T := TX2) (N := 9) (As := [.int a1]) (rest := []) (maxL := 3) (ret := (some .int)) C (c_X2_placeOf u4 e7) gX6_wishersOf_X2_placeOf rfl (by decide +kernel) ⟨Nat.le_of_ble_eq_true rfl, Nat.le_of_ble_eq_true rfl⟩ u4 (by decide) rfl rfl rfl rfl (Nat.le_of_ble_eq_true rfl) dX6_wishersOf_19 ?_
      refine x_bipush (v := (-5 : Int32)) C dX6_wishersOf_22 (by decide) ?_
      refine x_icmp_eq (tgt := 33) C dX6_wishersOf_24 (by decide) (fun q8 => ?_) (fun q8 => ?_)
      · have hf := ift q8 hf
        refine x_iinc (d := (1 : Int32)) (v := (a3 + (1 : Int32))) (lv' := [some (.ref (ad a0)), some (.int a1), some (.int a2), some (.int (a3 + (1 : Int32)))]) C dX6_wishersOf_33 rfl (by decide) rfl (by decide) rfl ?_
        refine x_goto (tgt := 4) C dX6_wishersOf_36 (by decide) ?_
        exact x_weak (ih _ _ _ hf) [0, 1, 2, 3] rfl
      · have hf := iff_ q8 hf
        refine x_iload_n C dX6_wishersOf_27 rfl rfl ?_
        refine x_iconst (v := (1 : Int32)) C dX6_wishersOf_28 (by decide) ?_
        refine x_iload_n C dX6_wishersOf_29 rfl rfl ?_
        refine x_ishl C dX6_wishersOf_30 ?_
        refine x_ior C dX6_wishersOf_31 ?_
        refine x_istore_n (lv' := [some (.ref (ad a0)), some (.int a1), some (.int (a2 ||| ((1 : Int32) <<< (a3 &&& (31 : Int32))))), some (.int a3)]) C dX6_wishersOf_32 rfl (by decide) rfl ?_
        refine x_iinc (d := (1 : Int32)) (v := (a3 + (1 : Int32))) (lv' := [some (.ref (ad a0)), some (.int a1), some (.int (a2 ||| ((1 : Int32) <<< (a3 &&& (31 : Int32))))), some (.int (a3 + (1 : Int32)))]) C dX6_wishersOf_33 rfl (by decide) rfl (by decide) rfl ?_
        refine x_goto (tgt := 4) C dX6_wishersOf_36 (by decide) ?_
        exact x_weak (ih _ _ _ hf) [0, 1, 2, 3] rfl

set_option maxHeartbeats 4000000 in
set_option maxRecDepth 100000 in
theorem c_X6_wishersOf {a0 : Nat} {a1 : Int32} {M : Mem} {r : Int32} {M' : Mem} (t0 : tg a0 = 6) (hf : f_X6_wishersOf a0 a1 M = some (r, M')) : CnI yX6_wishersOf wsX6_wishersOf 1 (fun ad => [.ref (ad a0), .int a1]) M r M' := by
  unfold f_X6_wishersOf at hf
  refine x_metI (cc := cX6_wishersOf) (maxL := 4) RX6 rfl (by decide) rfl (fun ad => Nat.le_of_ble_eq_true rfl) (fun ad v hv => ?_) (fun p l e s m args below meth c D cs ad C hr => ?_)
  · simp only [List.mem_cons, List.not_mem_nil, or_false] at hv
    rcases hv with rfl | rfl <;> rfl
  · show V p l e (rmk 1) s m args below meth c 4 D cs ad (QI below s args D cs ad r M') 0 [some (.ref (ad a0)), some (.int a1), none, none] [] M
    refine x_iconst (v := (0 : Int32)) C dX6_wishersOf_0 (by decide) ?_
    refine x_istore_n (lv' := [some (.ref (ad a0)), some (.int a1), some (.int (0 : Int32)), none]) C dX6_wishersOf_1 rfl (by decide) rfl ?_
    refine x_iconst (v := (0 : Int32)) C dX6_wishersOf_2 (by decide) ?_
    refine x_istore_n (lv' := [some (.ref (ad a0)), some (.int a1), some (.int (0 : Int32)), some (.int (0 : Int32))]) C dX6_wishersOf_3 rfl (by decide) rfl ?_
    exact x_weak (cl_X6_wishersOf_4 C hr t0 _ _ _ _ hf) [0, 1, 2, 3] rfl

theorem kX7_type_33 : Cond.fieldLink RX7 33 "FlatLottery" "text" "LFlatLottery$ListText;" ∈ wsX7_type := List.mem_of_getElem? (i := 1) rfl
theorem kX7_type_187 : Cond.fieldLink RX7 187 "FlatLottery$ListText" "length" "I" ∈ wsX7_type := List.mem_of_getElem? (i := 2) rfl
theorem nX7_type_3 : ∀ w ∈ u_ws RX3 TX3 7, w ∈ wsX7_type := in_r [17, 18, 19, 20, 21, 22, 23] (by decide +kernel)
theorem nX7_type_7 : ∀ w ∈ u_ws RX7 TX7 7, w ∈ wsX7_type := in_r [10, 11, 12, 13, 14, 15, 16] (by decide +kernel)
set_option maxHeartbeats 4000000 in
set_option maxRecDepth 100000 in
theorem c_X7_type {a1 : Int32} {M : Mem} {r : Int32} {M' : Mem}  (hf : f_X7_type a1 M = some (r, M')) : CnI yX7_type wsX7_type 1 (fun ad => [.ref (ad 0), .int a1]) M r M' := by
  unfold f_X7_type at hf
  refine x_metI (cc := cX7_type) (maxL := 2) RX7 rfl (by decide) rfl (fun ad => Nat.le_of_ble_eq_true rfl) (fun ad v hv => ?_) (fun p l e s m args below meth c D cs ad C hr => ?_)
  · simp only [List.mem_cons, List.not_mem_nil, or_false] at hv
    rcases hv with rfl | rfl <;> rfl
  · show V p l e (rmk 1) s m args below meth c 2 D cs ad (QI below s args D cs ad r M') 0 [some (.ref (ad 0)), some (.int a1)] [] M
    refine x_aload_n C dX7_type_0 rfl rfl ?_
    refine x_getr (Cn := RX7) (T := TX7) (N := 7) C tg_0 (by decide) rfl nX7_type_7 4 (by decide) rfl kX7_type_33 rfl dX7_type_1 243 rfl ?_
    refine x_iload_n C dX7_type_4 rfl rfl ?_
    obtain ⟨r1, M2, e3, hf⟩ := bd_of hf
    refine x_callV (n := 1) (Cn := RX3) (T := TX3) (N := 7) (As := [.int a1]) (rest := []) (maxL := 2) (ret := (some .boolean)) C (c_X3_append  e3) gX7_type_X3_append rfl (by decide +kernel) ⟨Nat.le_of_ble_eq_true rfl, Nat.le_of_ble_eq_true rfl⟩ tg_243 (by decide) rfl rfl rfl rfl (Nat.le_of_ble_eq_true rfl) dX7_type_5 ?_
    refine x_if_eq (tgt := 21) C dX7_type_8 (by decide) (fun q4 => ?_) (fun q4 => ?_)
    · have hf := ift q4 hf
      refine x_bipush (v := (-3 : Int32)) C dX7_type_21 (by decide) ?_
      exact x_iret C hr hf dX7_type_23
    · have hf := iff_ q4 hf
      refine x_aload_n C dX7_type_11 rfl rfl ?_
      refine x_getr (Cn := RX7) (T := TX7) (N := 7) C tg_0 (by decide) rfl nX7_type_7 4 (by decide) rfl kX7_type_33 rfl dX7_type_12 243 rfl ?_
      refine x_geti (Cn := RX3) (T := TX3) (N := 7) C tg_243 (by decide) rfl nX7_type_3 1 (by decide) rfl kX7_type_187 rfl dX7_type_15 ?_
      refine x_goto (tgt := 23) C dX7_type_18 (by decide) ?_
      exact x_iret C hr hf dX7_type_23

theorem kX7_wished_10 : Cond.fieldLink RX7 10 "FlatLottery" "state" "LFlatLottery$State;" ∈ wsX7_wished := List.mem_of_getElem? (i := 1) rfl
theorem kX7_wished_78 : Cond.fieldLink RX7 78 "FlatLottery$State" "households" "[LFlatLottery$Household;" ∈ wsX7_wished := List.mem_of_getElem? (i := 2) rfl
theorem kX7_wished_101 : Cond.fieldLink RX7 101 "FlatLottery$Household" "wishCount" "I" ∈ wsX7_wished := List.mem_of_getElem? (i := 3) rfl
theorem kX7_wished_221 : Cond.fieldLink RX7 221 "FlatLottery$Household" "wishes" "[I" ∈ wsX7_wished := List.mem_of_getElem? (i := 4) rfl
theorem nX7_wished_2 : ∀ w ∈ u_ws RX2 TX2 9, w ∈ wsX7_wished := in_r [26, 27, 28, 29, 30, 31, 32, 33, 34] (by decide +kernel)
theorem nX7_wished_6 : ∀ w ∈ u_ws RX6 TX6 8, w ∈ wsX7_wished := in_r [18, 19, 20, 21, 22, 23, 24, 25] (by decide +kernel)
theorem nX7_wished_7 : ∀ w ∈ u_ws RX7 TX7 7, w ∈ wsX7_wished := in_r [11, 12, 13, 14, 15, 16, 17] (by decide +kernel)
set_option maxHeartbeats 4000000 in
set_option maxRecDepth 100000 in
theorem c_X7_wished {a1 : Int32} {a2 : Int32} {M : Mem} {r : Int32} {M' : Mem}  (hf : f_X7_wished a1 a2 M = some (r, M')) : CnI yX7_wished wsX7_wished 1 (fun ad => [.ref (ad 0), .int a1, .int a2]) M r M' := by
  unfold f_X7_wished at hf
  refine x_metI (cc := cX7_wished) (maxL := 4) RX7 rfl (by decide) rfl (fun ad => Nat.le_of_ble_eq_true rfl) (fun ad v hv => ?_) (fun p l e s m args below meth c D cs ad C hr => ?_)
  · simp only [List.mem_cons, List.not_mem_nil, or_false] at hv
    rcases hv with rfl | rfl | rfl <;> rfl
  · show V p l e (rmk 1) s m args below meth c 4 D cs ad (QI below s args D cs ad r M') 0 [some (.ref (ad 0)), some (.int a1), some (.int a2), none] [] M
    refine x_aload_n C dX7_wished_0 rfl rfl ?_
    refine x_getr (Cn := RX7) (T := TX7) (N := 7) C tg_0 (by decide) rfl nX7_wished_7 0 (by decide) rfl kX7_wished_10 rfl dX7_wished_1 1 rfl ?_
    refine x_iload_n C dX7_wished_4 rfl rfl ?_
    obtain ⟨r1, M2, e3, hf⟩ := bd_of hf
    refine x_callV (n := 1) (Cn := RX6) (T := TX6) (N := 8) (As := [.int a1]) (rest := []) (maxL := 2) (ret := (some .boolean)) C (c_X6_hasHousehold tg_1 e3) gX7_wished_X6_hasHousehold rfl (by decide +kernel) ⟨Nat.le_of_ble_eq_true rfl, Nat.le_of_ble_eq_true rfl⟩ tg_1 (by decide) rfl rfl rfl rfl (Nat.le_of_ble_eq_true rfl) dX7_wished_5 ?_
    refine x_if_ne (tgt := 13) C dX7_wished_8 (by decide) (fun q4 => ?_) (fun q4 => ?_)
    · have hf := ift q4 hf
      refine x_iconst (v := (-1 : Int32)) C dX7_wished_11 (by decide) ?_
      exact x_iret C hr hf dX7_wished_12
    · have hf := iff_ q4 hf
      refine x_iload_n C dX7_wished_13 rfl rfl ?_
      refine x_if_ge (tgt := 20) C dX7_wished_14 (by decide) (fun q5 => ?_) (fun q5 => ?_)
      · have hf := ift q5 hf
        refine x_aload_n C dX7_wished_20 rfl rfl ?_
        refine x_getr (Cn := RX7) (T := TX7) (N := 7) C tg_0 (by decide) rfl nX7_wished_7 0 (by decide) rfl kX7_wished_10 rfl dX7_wished_21 1 rfl ?_
        refine x_getr (Cn := RX6) (T := TX6) (N := 8) C tg_1 (by decide) rfl nX7_wished_6 1 (by decide) rfl kX7_wished_78 rfl dX7_wished_24 3 rfl ?_
        refine x_iload_n C dX7_wished_27 rfl rfl ?_
        obtain ⟨g6, hf⟩ := ck_of hf
        have w7 : 3 + 14 + 2 * (a1).toNatClampNeg = (17 + 2 * (a1).toNatClampNeg) := by omega
        have u8 : tg (17 + 2 * (a1).toNatClampNeg) = 2 := te_H (x := a1) tg_3 g6 w7
        refine x_aaldH (j := (a1).toNatClampNeg) C tg_3 tl_3 g6 rfl dX7_wished_28 (17 + 2 * (a1).toNatClampNeg) w7 ?_
        refine x_astore_n (lv' := [some (.ref (ad 0)), some (.int a1), some (.int a2), some (.ref (ad (17 + 2 * (a1).toNatClampNeg)))]) C dX7_wished_29 rfl (by decide) rfl ?_
        refine x_iload_n C dX7_wished_30 rfl rfl ?_
        refine x_aload_n C dX7_wished_31 rfl rfl ?_
        refine x_geti (Cn := RX2) (T := TX2) (N := 9) C u8 (by decide) rfl nX7_wished_2 1 (by decide) rfl kX7_wished_101 rfl dX7_wished_32 ?_
        refine x_icmp_lt (tgt := 41) C dX7_wished_35 (by decide) (fun q9 => ?_) (fun q9 => ?_)
        · have hf := ift q9 hf
          refine x_aload_n C dX7_wished_41 rfl rfl ?_
          have w10 : (17 + 2 * (a1).toNatClampNeg) + 1 = (18 + 2 * (a1).toNatClampNeg) := by omega
          have u11 : tg (18 + 2 * (a1).toNatClampNeg) = 10 := by rw [← w10]; exact tf_2_0 u8
          have u12 : ln (18 + 2 * (a1).toNatClampNeg) = 6 := by rw [← w10]; exact tl_2_0 u8
          refine x_getr (Cn := RX2) (T := TX2) (N := 9) C u8 (by decide) rfl nX7_wished_2 0 (by decide) rfl kX7_wished_221 rfl dX7_wished_42 (18 + 2 * (a1).toNatClampNeg) w10 ?_
          refine x_iload_n C dX7_wished_45 rfl rfl ?_
          obtain ⟨g13, hf⟩ := ck_of hf
          refine x_iald (j := (a2).toNatClampNeg) C u11 u12 g13 rfl dX7_wished_46 ?_
          exact x_iret C hr hf dX7_wished_47
        · have hf := iff_ q9 hf
          refine x_bipush (v := (-5 : Int32)) C dX7_wished_38 (by decide) ?_
          exact x_iret C hr hf dX7_wished_40
      · have hf := iff_ q5 hf
        refine x_bipush (v := (-2 : Int32)) C dX7_wished_17 (by decide) ?_
        exact x_iret C hr hf dX7_wished_19

theorem kX8_held_7 : Cond.fieldLink RX8 7 "FlatLotteryModel" "s" "[I" ∈ wsX8_held := List.mem_of_getElem? (i := 1) rfl
theorem nX8_held_8 : ∀ w ∈ u_ws RX8 TX8 13, w ∈ wsX8_held := in_r [7, 8, 9, 10, 11, 12, 13, 14, 15, 16, 17, 18, 19] (by decide +kernel)
set_option maxHeartbeats 4000000 in
set_option maxRecDepth 100000 in
theorem cl_X8_held_4 {p : Program} {l : Launch} {e : Env} {s : State} {m : MethodId} {args : Array Value} {below : List Frame} {meth : Method} {c : Code} {D : va_G} {cs : Nat → ClassId} {ad : Nat → Nat} (C : Cx p s m args meth c RX8 cX8_held 3 wsX8_held D cs ad) (hr : meth.sig.returnType = some .int)  {r : Int32} {M' : Mem}  : ∀ (n : Nat) (a1 : Int32) (a2 : Int32) (M : Mem), l_X8_held_4 n a1 a2 M = some (r, M') → V p l e (rmk 1) s m args below meth c 3 D cs ad (QI below s args D cs ad r M') 4 [some (.ref (ad 255)), some (.int a1), some (.int a2)] [] M := by
  intro n
  induction n with
  | zero => intro a1 a2 M hf; cases hf
  | succ n ih =>
    intro a1 a2 M hf
    rw [l_X8_held_4_s] at hf
    refine x_iload_n C dX8_held_4 rfl rfl ?_
    refine x_aload_n C dX8_held_5 rfl rfl ?_
    refine x_getr (Cn := RX8) (T := TX8) (N := 13) C tg_255 (by decide) rfl nX8_held_8 0 (by decide) rfl kX8_held_7 rfl dX8_held_6 256 rfl ?_
    refine x_iconst (v := (1 : Int32)) C dX8_held_9 (by decide) ?_
    refine x_iald (j := 1) C tg_256 tl_256 (by decide) (by decide) dX8_held_10 ?_
    refine x_icmp_ge (tgt := 39) C dX8_held_11 (by decide) (fun q1 => ?_) (fun q1 => ?_)
    · have hf := ift q1 hf
      refine x_iload_n C dX8_held_39 rfl rfl ?_
      exact x_iret C hr hf dX8_held_40
    · have hf := iff_ q1 hf
      refine x_iload_n C dX8_held_14 rfl rfl ?_
      refine x_aload_n C dX8_held_15 rfl rfl ?_
      refine x_iload_n C dX8_held_16 rfl rfl ?_
      refine x_iconst (v := (4 : Int32)) C dX8_held_17 (by decide) ?_
      obtain ⟨r2, M3, e4, hf⟩ := bd_of hf
      refine x_callV (n := 2) (Cn := RX8) (T := TX8) (N := 13) (As := [.int a2, .int (4 : Int32)]) (rest := [.int a1]) (maxL := 3) (ret := (some .int)) C (c_X8_of  e4) gX8_held_X8_of rfl (by decide +kernel) ⟨Nat.le_of_ble_eq_true rfl, Nat.le_of_ble_eq_true rfl⟩ tg_255 (by decide) rfl rfl rfl rfl (Nat.le_of_ble_eq_true rfl) dX8_held_18 ?_
      refine x_bipush (v := (-5 : Int32)) C dX8_held_21 (by decide) ?_
      refine x_icmp_ne (tgt := 30) C dX8_held_23 (by decide) (fun q5 => ?_) (fun q5 => ?_)
      · have hf := ift q5 hf
        refine x_iconst (v := (0 : Int32)) C dX8_held_26 (by decide) ?_
        refine x_goto (tgt := 31) C dX8_held_27 (by decide) ?_
        refine x_iadd C dX8_held_31 ?_
        refine x_istore_n (lv' := [some (.ref (ad 255)), some (.int (a1 + (0 : Int32))), some (.int a2)]) C dX8_held_32 rfl (by decide) rfl ?_
        refine x_iinc (d := (1 : Int32)) (v := (a2 + (1 : Int32))) (lv' := [some (.ref (ad 255)), some (.int (a1 + (0 : Int32))), some (.int (a2 + (1 : Int32)))]) C dX8_held_33 rfl (by decide) rfl (by decide) rfl ?_
        refine x_goto (tgt := 4) C dX8_held_36 (by decide) ?_
        exact x_weak (ih _ _ _ hf) [0, 1, 2] rfl
      · have hf := iff_ q5 hf
        refine x_iconst (v := (1 : Int32)) C dX8_held_30 (by decide) ?_
        refine x_iadd C dX8_held_31 ?_
        refine x_istore_n (lv' := [some (.ref (ad 255)), some (.int (a1 + (1 : Int32))), some (.int a2)]) C dX8_held_32 rfl (by decide) rfl ?_
        refine x_iinc (d := (1 : Int32)) (v := (a2 + (1 : Int32))) (lv' := [some (.ref (ad 255)), some (.int (a1 + (1 : Int32))), some (.int (a2 + (1 : Int32)))]) C dX8_held_33 rfl (by decide) rfl (by decide) rfl ?_
        refine x_goto (tgt := 4) C dX8_held_36 (by decide) ?_
        exact x_weak (ih _ _ _ hf) [0, 1, 2] rfl

set_option maxHeartbeats 4000000 in
set_option maxRecDepth 100000 in
theorem c_X8_held  {M : Mem} {r : Int32} {M' : Mem}  (hf : f_X8_held  M = some (r, M')) : CnI yX8_held wsX8_held 1 (fun ad => [.ref (ad 255)]) M r M' := by
  unfold f_X8_held at hf
  refine x_metI (cc := cX8_held) (maxL := 3) RX8 rfl (by decide) rfl (fun ad => Nat.le_of_ble_eq_true rfl) (fun ad v hv => ?_) (fun p l e s m args below meth c D cs ad C hr => ?_)
  · simp only [List.mem_cons, List.not_mem_nil, or_false] at hv
    rcases hv with rfl <;> rfl
  · show V p l e (rmk 1) s m args below meth c 3 D cs ad (QI below s args D cs ad r M') 0 [some (.ref (ad 255)), none, none] [] M
    refine x_iconst (v := (0 : Int32)) C dX8_held_0 (by decide) ?_
    refine x_istore_n (lv' := [some (.ref (ad 255)), some (.int (0 : Int32)), none]) C dX8_held_1 rfl (by decide) rfl ?_
    refine x_iconst (v := (0 : Int32)) C dX8_held_2 (by decide) ?_
    refine x_istore_n (lv' := [some (.ref (ad 255)), some (.int (0 : Int32)), some (.int (0 : Int32))]) C dX8_held_3 rfl (by decide) rfl ?_
    exact x_weak (cl_X8_held_4 C hr  _ _ _ _ hf) [0, 1, 2] rfl

theorem kX8_heldSet_7 : Cond.fieldLink RX8 7 "FlatLotteryModel" "s" "[I" ∈ wsX8_heldSet := List.mem_of_getElem? (i := 1) rfl
theorem nX8_heldSet_8 : ∀ w ∈ u_ws RX8 TX8 13, w ∈ wsX8_heldSet := in_r [7, 8, 9, 10, 11, 12, 13, 14, 15, 16, 17, 18, 19] (by decide +kernel)
set_option maxHeartbeats 4000000 in
set_option maxRecDepth 100000 in
theorem cl_X8_heldSet_4 {p : Program} {l : Launch} {e : Env} {s : State} {m : MethodId} {args : Array Value} {below : List Frame} {meth : Method} {c : Code} {D : va_G} {cs : Nat → ClassId} {ad : Nat → Nat} (C : Cx p s m args meth c RX8 cX8_heldSet 3 wsX8_heldSet D cs ad) (hr : meth.sig.returnType = some .int)  {r : Int32} {M' : Mem}  : ∀ (n : Nat) (a1 : Int32) (a2 : Int32) (M : Mem), l_X8_heldSet_4 n a1 a2 M = some (r, M') → V p l e (rmk 1) s m args below meth c 3 D cs ad (QI below s args D cs ad r M') 4 [some (.ref (ad 255)), some (.int a1), some (.int a2)] [] M := by
  intro n
  induction n with
  | zero => intro a1 a2 M hf; cases hf
  | succ n ih =>
    intro a1 a2 M hf
    rw [l_X8_heldSet_4_s] at hf
    refine x_iload_n C dX8_heldSet_4 rfl rfl ?_
    refine x_aload_n C dX8_heldSet_5 rfl rfl ?_
    refine x_getr (Cn := RX8) (T := TX8) (N := 13) C tg_255 (by decide) rfl nX8_heldSet_8 0 (by decide) rfl kX8_heldSet_7 rfl dX8_heldSet_6 256 rfl ?_
    refine x_iconst (v := (1 : Int32)) C dX8_heldSet_9 (by decide) ?_
    refine x_iald (j := 1) C tg_256 tl_256 (by decide) (by decide) dX8_heldSet_10 ?_
    refine x_icmp_ge (tgt := 46) C dX8_heldSet_11 (by decide) (fun q1 => ?_) (fun q1 => ?_)
    · have hf := ift q1 hf
      refine x_iload_n C dX8_heldSet_46 rfl rfl ?_
      exact x_iret C hr hf dX8_heldSet_47
    · have hf := iff_ q1 hf
      refine x_iload_n C dX8_heldSet_14 rfl rfl ?_
      refine x_aload_n C dX8_heldSet_15 rfl rfl ?_
      refine x_iload_n C dX8_heldSet_16 rfl rfl ?_
      refine x_iconst (v := (4 : Int32)) C dX8_heldSet_17 (by decide) ?_
      obtain ⟨r2, M3, e4, hf⟩ := bd_of hf
      refine x_callV (n := 2) (Cn := RX8) (T := TX8) (N := 13) (As := [.int a2, .int (4 : Int32)]) (rest := [.int a1]) (maxL := 3) (ret := (some .int)) C (c_X8_of  e4) gX8_heldSet_X8_of rfl (by decide +kernel) ⟨Nat.le_of_ble_eq_true rfl, Nat.le_of_ble_eq_true rfl⟩ tg_255 (by decide) rfl rfl rfl rfl (Nat.le_of_ble_eq_true rfl) dX8_heldSet_18 ?_
      refine x_bipush (v := (-5 : Int32)) C dX8_heldSet_21 (by decide) ?_
      refine x_icmp_ne (tgt := 30) C dX8_heldSet_23 (by decide) (fun q5 => ?_) (fun q5 => ?_)
      · have hf := ift q5 hf
        refine x_iconst (v := (0 : Int32)) C dX8_heldSet_26 (by decide) ?_
        refine x_goto (tgt := 38) C dX8_heldSet_27 (by decide) ?_
        refine x_ior C dX8_heldSet_38 ?_
        refine x_istore_n (lv' := [some (.ref (ad 255)), some (.int (a1 ||| (0 : Int32))), some (.int a2)]) C dX8_heldSet_39 rfl (by decide) rfl ?_
        refine x_iinc (d := (1 : Int32)) (v := (a2 + (1 : Int32))) (lv' := [some (.ref (ad 255)), some (.int (a1 ||| (0 : Int32))), some (.int (a2 + (1 : Int32)))]) C dX8_heldSet_40 rfl (by decide) rfl (by decide) rfl ?_
        refine x_goto (tgt := 4) C dX8_heldSet_43 (by decide) ?_
        exact x_weak (ih _ _ _ hf) [0, 1, 2] rfl
      · have hf := iff_ q5 hf
        refine x_iconst (v := (1 : Int32)) C dX8_heldSet_30 (by decide) ?_
        refine x_aload_n C dX8_heldSet_31 rfl rfl ?_
        refine x_iload_n C dX8_heldSet_32 rfl rfl ?_
        refine x_iconst (v := (4 : Int32)) C dX8_heldSet_33 (by decide) ?_
        obtain ⟨r6, M7, e8, hf⟩ := bd_of hf
        refine x_callV (n := 2) (Cn := RX8) (T := TX8) (N := 13) (As := [.int a2, .int (4 : Int32)]) (rest := [.int (1 : Int32), .int a1]) (maxL := 3) (ret := (some .int)) C (c_X8_of  e8) gX8_heldSet_X8_of rfl (by decide +kernel) ⟨Nat.le_of_ble_eq_true rfl, Nat.le_of_ble_eq_true rfl⟩ tg_255 (by decide) rfl rfl rfl rfl (Nat.le_of_ble_eq_true rfl) dX8_heldSet_34 ?_
        refine x_ishl C dX8_heldSet_37 ?_
        refine x_ior C dX8_heldSet_38 ?_
        refine x_istore_n (lv' := [some (.ref (ad 255)), some (.int (a1 ||| ((1 : Int32) <<< (r6 &&& (31 : Int32))))), some (.int a2)]) C dX8_heldSet_39 rfl (by decide) rfl ?_
        refine x_iinc (d := (1 : Int32)) (v := (a2 + (1 : Int32))) (lv' := [some (.ref (ad 255)), some (.int (a1 ||| ((1 : Int32) <<< (r6 &&& (31 : Int32))))), some (.int (a2 + (1 : Int32)))]) C dX8_heldSet_40 rfl (by decide) rfl (by decide) rfl ?_
        refine x_goto (tgt := 4) C dX8_heldSet_43 (by decide) ?_
        exact x_weak (ih _ _ _ hf) [0, 1, 2] rfl

set_option maxHeartbeats 4000000 in
set_option maxRecDepth 100000 in
theorem c_X8_heldSet  {M : Mem} {r : Int32} {M' : Mem}  (hf : f_X8_heldSet  M = some (r, M')) : CnI yX8_heldSet wsX8_heldSet 1 (fun ad => [.ref (ad 255)]) M r M' := by
  unfold f_X8_heldSet at hf
  refine x_metI (cc := cX8_heldSet) (maxL := 3) RX8 rfl (by decide) rfl (fun ad => Nat.le_of_ble_eq_true rfl) (fun ad v hv => ?_) (fun p l e s m args below meth c D cs ad C hr => ?_)
  · simp only [List.mem_cons, List.not_mem_nil, or_false] at hv
    rcases hv with rfl <;> rfl
  · show V p l e (rmk 1) s m args below meth c 3 D cs ad (QI below s args D cs ad r M') 0 [some (.ref (ad 255)), none, none] [] M
    refine x_iconst (v := (0 : Int32)) C dX8_heldSet_0 (by decide) ?_
    refine x_istore_n (lv' := [some (.ref (ad 255)), some (.int (0 : Int32)), none]) C dX8_heldSet_1 rfl (by decide) rfl ?_
    refine x_iconst (v := (0 : Int32)) C dX8_heldSet_2 (by decide) ?_
    refine x_istore_n (lv' := [some (.ref (ad 255)), some (.int (0 : Int32)), some (.int (0 : Int32))]) C dX8_heldSet_3 rfl (by decide) rfl ?_
    exact x_weak (cl_X8_heldSet_4 C hr  _ _ _ _ hf) [0, 1, 2] rfl

