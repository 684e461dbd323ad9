/-! PRINTED BY wip/tools/gen_ctor.py: the constructors -/
def zrow : Nat → Nat → Int32 := fun _ _ => 0
theorem xb_true : XB (fun _ => True) := ⟨fun _ _ _ h => h, fun _ _ _ h => h⟩
set_option maxHeartbeats 4000000 in
set_option maxRecDepth 100000 in
theorem cc_X0_init {b : Nat} {ad : Nat → Nat} {ce : Nat → va_E} (h0 : ce b = .inr (0, [.int 0, .int 0])) : CnC yX0_init wsX0_init 1 0 0 (fun _ => True) b (b + 1) ad ce (b + 1) [(0, 0)] zrow := by
  refine y_met (cc := cX0_init) (maxL := 1) RX0 rfl rfl (by decide) rfl (by decide) (fun p l e s m args below meth c D cs A C hr hXs => ?_)
  refine y_aload_n C dX0_init_0 rfl rfl ?_
  refine y_obj C (List.mem_of_getElem? (i := 1) rfl) (List.mem_of_getElem? (i := 2) rfl) (List.mem_of_getElem? (i := 3) rfl) dX0_init_1 ⟨Nat.le_of_ble_eq_true rfl, Nat.le_of_ble_eq_true rfl⟩ ?_
  exact y_vret C hr (fun i hi => rfl) (fun i hi hib => rfl) (sgm.one (okc_eq (fun ad2 h => by rw [h0]; rfl))) ⟨_, h0⟩ rfl rfl dX0_init_4

theorem nX2_init_2 : ∀ w ∈ u_ws RX2 TX2 9, w ∈ wsX2_init := in_r [6, 7, 8, 9, 10, 11, 12, 13, 14] (by decide +kernel)
set_option maxHeartbeats 4000000 in
set_option maxRecDepth 100000 in
theorem cc_X2_init {b : Nat} {ad : Nat → Nat} {ce : Nat → va_E} (h0 : ce b = .inr (2, [.null, .int 0, .int 0, .int 0, .int 0, .int 0, .int 0, .int 0, .int 0])) : CnC yX2_init wsX2_init 1 1 6 (fun _ => True) b (b + 1) ad ce (b + 2) ([(2, 0)] ++ [(10, 6)]) zrow := by
  refine y_met (cc := cX2_init) (maxL := 1) RX2 rfl rfl (by decide) rfl (by decide) (fun p l e s m args below meth c D cs A C hr hXs => ?_)
  refine y_aload_n C dX2_init_0 rfl rfl ?_
  refine y_obj C (List.mem_of_getElem? (i := 1) rfl) (List.mem_of_getElem? (i := 2) rfl) (List.mem_of_getElem? (i := 3) rfl) dX2_init_1 ⟨Nat.le_of_ble_eq_true rfl, Nat.le_of_ble_eq_true rfl⟩ ?_
  refine y_aload_n C dX2_init_4 rfl rfl ?_
  refine y_bipush (v := (6 : Int32)) C dX2_init_5 (by decide) ?_
  refine y_newa (ty := .int) C 0 rfl rfl (List.mem_of_getElem? (i := 4) rfl) rfl (N := 6) (by decide) (by decide) (Nat.le_of_ble_eq_true rfl) (Nat.le_of_ble_eq_true rfl) (Nat.le_of_ble_eq_true rfl) dX2_init_7 (fun q1 => ?_)
  refine y_putF (i := b) (t := 2) (fs := [.null, .int 0, .int 0, .int 0, .int 0, .int 0, .int 0, .int 0, .int 0]) (ty := tyX2 0) C (by omega) (by rw [fset_ne (by omega)]) (he := (by rw [fset_ne (by omega), h0])) rfl nX2_init_2 tyX2 tyX2_ok nmX2 0 (by decide) (List.mem_of_getElem? (i := 5) rfl) rfl rfl rfl (tyX2_ok 0 (by decide)) rfl rfl (Nat.le_of_ble_eq_true rfl) dX2_init_9 ?_
  refine y_vret C hr (fun i hi => (by rw [fset_ne (by omega)])) (fun i hi hib => (by rw [fset_ne (by omega), fset_ne (by omega)])) ?_ ⟨_, (by rw [fset_eq]; rfl)⟩ rfl rfl dX2_init_12
  exact sgm.app (sgm.one (okc_eq (fun ad2 h => by rw [fset_eq]; show (.inr (2, [.ref q1, .int 0, .int 0, .int 0, .int 0, .int 0, .int 0, .int 0, .int 0]) : va_E) = .inr (2, [.ref (ad2 (b + 1)), .int 0, .int 0, .int 0, .int 0, .int 0, .int 0, .int 0, .int 0]); rw [h (b + 1) (by omega), fset_eq]))) (b2 := b + 1) (sgm.one (okc_int' (t := 10) (by rw [fset_ne (by omega), fset_eq]; rfl) (by decide))) rfl

theorem nX3_init_3 : ∀ w ∈ u_ws RX3 TX3 7, w ∈ wsX3_init := in_r [10, 11, 12, 13, 14, 15, 16] (by decide +kernel)
set_option maxHeartbeats 4000000 in
set_option maxRecDepth 100000 in
theorem cc_X3_init {b : Nat} {ad : Nat → Nat} {ce : Nat → va_E} (h0 : ce b = .inr (3, [.null, .int 0, .int 0, .null, .null, .null, .int 0])) : CnC yX3_init wsX3_init 1 4 188 (fun _ => True) b (b + 1) ad ce (b + 5) ([(3, 0)] ++ [(11, 60)] ++ [(10, 16)] ++ [(10, 16)] ++ [(10, 96)]) zrow := by
  refine y_met (cc := cX3_init) (maxL := 1) RX3 rfl rfl (by decide) rfl (by decide) (fun p l e s m args below meth c D cs A C hr hXs => ?_)
  refine y_aload_n C dX3_init_0 rfl rfl ?_
  refine y_obj C (List.mem_of_getElem? (i := 1) rfl) (List.mem_of_getElem? (i := 2) rfl) (List.mem_of_getElem? (i := 3) rfl) dX3_init_1 ⟨Nat.le_of_ble_eq_true rfl, Nat.le_of_ble_eq_true rfl⟩ ?_
  refine y_aload_n C dX3_init_4 rfl rfl ?_
  refine y_bipush (v := (60 : Int32)) C dX3_init_5 (by decide) ?_
  refine y_newa (ty := .char) C 1 rfl rfl (List.mem_of_getElem? (i := 4) rfl) rfl (N := 60) (by decide) (by decide) (Nat.le_of_ble_eq_true rfl) (Nat.le_of_ble_eq_true rfl) (Nat.le_of_ble_eq_true rfl) dX3_init_7 (fun q1 => ?_)
  refine y_putF (i := b) (t := 3) (fs := [.null, .int 0, .int 0, .null, .null, .null, .int 0]) (ty := tyX3 0) C (by omega) (by rw [fset_ne (by omega)]) (he := (by rw [fset_ne (by omega), h0])) rfl nX3_init_3 tyX3 tyX3_ok nmX3 0 (by decide) (List.mem_of_getElem? (i := 5) rfl) rfl rfl rfl (tyX3_ok 0 (by decide)) rfl rfl (Nat.le_of_ble_eq_true rfl) dX3_init_9 ?_
  refine y_aload_n C dX3_init_12 rfl rfl ?_
  refine y_bipush (v := (16 : Int32)) C dX3_init_13 (by decide) ?_
  refine y_newa (ty := .int) C 0 rfl rfl (List.mem_of_getElem? (i := 6) rfl) rfl (N := 16) (by decide) (by decide) (Nat.le_of_ble_eq_true rfl) (Nat.le_of_ble_eq_true rfl) (Nat.le_of_ble_eq_true rfl) dX3_init_15 (fun q2 => ?_)
  refine y_putF (i := b) (t := 3) (fs := [.ref q1, .int 0, .int 0, .null, .null, .null, .int 0]) (ty := tyX3 3) C (by omega) (by rw [fset_ne (by omega), fset_ne (by omega)]) (he := (by rw [fset_ne (by omega), fset_eq]; rfl)) rfl nX3_init_3 tyX3 tyX3_ok nmX3 3 (by decide) (List.mem_of_getElem? (i := 7) rfl) rfl rfl rfl (tyX3_ok 3 (by decide)) rfl rfl (Nat.le_of_ble_eq_true rfl) dX3_init_17 ?_
  refine y_aload_n C dX3_init_20 rfl rfl ?_
  refine y_bipush (v := (16 : Int32)) C dX3_init_21 (by decide) ?_
  refine y_newa (ty := .int) C 0 rfl rfl (List.mem_of_getElem? (i := 6) rfl) rfl (N := 16) (by decide) (by decide) (Nat.le_of_ble_eq_true rfl) (Nat.le_of_ble_eq_true rfl) (Nat.le_of_ble_eq_true rfl) dX3_init_23 (fun q3 => ?_)
  refine y_putF (i := b) (t := 3) (fs := [.ref q1, .int 0, .int 0, .ref q2, .null, .null, .int 0]) (ty := tyX3 4) C (by omega) (by rw [fset_ne (by omega), fset_ne (by omega), fset_ne (by omega)]) (he := (by rw [fset_ne (by omega), fset_eq]; rfl)) rfl nX3_init_3 tyX3 tyX3_ok nmX3 4 (by decide) (List.mem_of_getElem? (i := 8) rfl) rfl rfl rfl (tyX3_ok 4 (by decide)) rfl rfl (Nat.le_of_ble_eq_true rfl) dX3_init_25 ?_
  refine y_aload_n C dX3_init_28 rfl rfl ?_
  refine y_bipush (v := (96 : Int32)) C dX3_init_29 (by decide) ?_
  refine y_newa (ty := .int) C 0 rfl rfl (List.mem_of_getElem? (i := 6) rfl) rfl (N := 96) (by decide) (by decide) (Nat.le_of_ble_eq_true rfl) (Nat.le_of_ble_eq_true rfl) (Nat.le_of_ble_eq_true rfl) dX3_init_31 (fun q4 => ?_)
  refine y_putF (i := b) (t := 3) (fs := [.ref q1, .int 0, .int 0, .ref q2, .ref q3, .null, .int 0]) (ty := tyX3 5) C (by omega) (by rw [fset_ne (by omega), fset_ne (by omega), fset_ne (by omega), fset_ne (by omega)]) (he := (by rw [fset_ne (by omega), fset_eq]; rfl)) rfl nX3_init_3 tyX3 tyX3_ok nmX3 5 (by decide) (List.mem_of_getElem? (i := 9) rfl) rfl rfl rfl (tyX3_ok 5 (by decide)) rfl rfl (Nat.le_of_ble_eq_true rfl) dX3_init_33 ?_
  refine y_vret C hr (fun i hi => (by rw [fset_ne (by omega), fset_ne (by omega), fset_ne (by omega), fset_ne (by omega)])) (fun i hi hib => (by rw [fset_ne (by omega), fset_ne (by omega), fset_ne (by omega), fset_ne (by omega), fset_ne (by omega), fset_ne (by omega), fset_ne (by omega), fset_ne (by omega)])) ?_ ⟨_, (by rw [fset_eq]; rfl)⟩ rfl rfl dX3_init_36
  exact sgm.app (sgm.app (sgm.app (sgm.app (sgm.one (okc_eq (fun ad2 h => by rw [fset_eq]; show (.inr (3, [.ref q1, .int 0, .int 0, .ref q2, .ref q3, .ref q4, .int 0]) : va_E) = .inr (3, [.ref (ad2 (b + 1)), .int 0, .int 0, .ref (ad2 (b + 2)), .ref (ad2 (b + 3)), .ref (ad2 (b + 4)), .int 0]); rw [h (b + 1) (by omega), fset_ne (by omega), fset_ne (by omega), fset_ne (by omega), fset_eq, h (b + 2) (by omega), fset_ne (by omega), fset_ne (by omega), fset_eq, h (b + 3) (by omega), fset_ne (by omega), fset_eq, h (b + 4) (by omega), fset_eq]))) (b2 := b + 1) (sgm.one (okc_int' (t := 11) (by rw [fset_ne (by omega), fset_ne (by omega), fset_ne (by omega), fset_ne (by omega), fset_ne (by omega), fset_ne (by omega), fset_ne (by omega), fset_eq]; rfl) (by decide))) rfl) (b2 := b + 2) (sgm.one (okc_int' (t := 10) (by rw [fset_ne (by omega), fset_ne (by omega), fset_ne (by omega), fset_ne (by omega), fset_ne (by omega), fset_eq]; rfl) (by decide))) rfl) (b2 := b + 3) (sgm.one (okc_int' (t := 10) (by rw [fset_ne (by omega), fset_ne (by omega), fset_ne (by omega), fset_eq]; rfl) (by decide))) rfl) (b2 := b + 4) (sgm.one (okc_int' (t := 10) (by rw [fset_ne (by omega), fset_eq]; rfl) (by decide))) rfl

theorem nX4_init_4 : ∀ w ∈ u_ws RX4 TX4 4, w ∈ wsX4_init := in_r [9, 10, 11, 12] (by decide +kernel)
set_option maxHeartbeats 4000000 in
set_option maxRecDepth 100000 in
theorem cc_X4_init {b : Nat} {ad : Nat → Nat} {ce : Nat → va_E} (h0 : ce b = .inr (4, [.null, .null, .null, .null])) : CnC yX4_init wsX4_init 1 4 48 (fun _ => True) b (b + 1) ad ce (b + 5) ([(4, 0)] ++ [(10, 12)] ++ [(10, 12)] ++ [(10, 12)] ++ [(10, 12)]) zrow := by
  refine y_met (cc := cX4_init) (maxL := 1) RX4 rfl rfl (by decide) rfl (by decide) (fun p l e s m args below meth c D cs A C hr hXs => ?_)
  refine y_aload_n C dX4_init_0 rfl rfl ?_
  refine y_obj C (List.mem_of_getElem? (i := 1) rfl) (List.mem_of_getElem? (i := 2) rfl) (List.mem_of_getElem? (i := 3) rfl) dX4_init_1 ⟨Nat.le_of_ble_eq_true rfl, Nat.le_of_ble_eq_true rfl⟩ ?_
  refine y_aload_n C dX4_init_4 rfl rfl ?_
  refine y_bipush (v := (12 : Int32)) C dX4_init_5 (by decide) ?_
  refine y_newa (ty := .int) C 0 rfl rfl (List.mem_of_getElem? (i := 4) rfl) rfl (N := 12) (by decide) (by decide) (Nat.le_of_ble_eq_true rfl) (Nat.le_of_ble_eq_true rfl) (Nat.le_of_ble_eq_true rfl) dX4_init_7 (fun q1 => ?_)
  refine y_putF (i := b) (t := 4) (fs := [.null, .null, .null, .null]) (ty := tyX4 0) C (by omega) (by rw [fset_ne (by omega)]) (he := (by rw [fset_ne (by omega), h0])) rfl nX4_init_4 tyX4 tyX4_ok nmX4 0 (by decide) (List.mem_of_getElem? (i := 5) rfl) rfl rfl rfl (tyX4_ok 0 (by decide)) rfl rfl (Nat.le_of_ble_eq_true rfl) dX4_init_9 ?_
  refine y_aload_n C dX4_init_12 rfl rfl ?_
  refine y_bipush (v := (12 : Int32)) C dX4_init_13 (by decide) ?_
  refine y_newa (ty := .int) C 0 rfl rfl (List.mem_of_getElem? (i := 4) rfl) rfl (N := 12) (by decide) (by decide) (Nat.le_of_ble_eq_true rfl) (Nat.le_of_ble_eq_true rfl) (Nat.le_of_ble_eq_true rfl) dX4_init_15 (fun q2 => ?_)
  refine y_putF (i := b) (t := 4) (fs := [.ref q1, .null, .null, .null]) (ty := tyX4 1) C (by omega) (by rw [fset_ne (by omega), fset_ne (by omega)]) (he := (by rw [fset_ne (by omega), fset_eq]; rfl)) rfl nX4_init_4 tyX4 tyX4_ok nmX4 1 (by decide) (List.mem_of_getElem? (i := 6) rfl) rfl rfl rfl (tyX4_ok 1 (by decide)) rfl rfl (Nat.le_of_ble_eq_true rfl) dX4_init_17 ?_
  refine y_aload_n C dX4_init_20 rfl rfl ?_
  refine y_bipush (v := (12 : Int32)) C dX4_init_21 (by decide) ?_
  refine y_newa (ty := .int) C 0 rfl rfl (List.mem_of_getElem? (i := 4) rfl) rfl (N := 12) (by decide) (by decide) (Nat.le_of_ble_eq_true rfl) (Nat.le_of_ble_eq_true rfl) (Nat.le_of_ble_eq_true rfl) dX4_init_23 (fun q3 => ?_)
  refine y_putF (i := b) (t := 4) (fs := [.ref q1, .ref q2, .null, .null]) (ty := tyX4 2) C (by omega) (by rw [fset_ne (by omega), fset_ne (by omega), fset_ne (by omega)]) (he := (by rw [fset_ne (by omega), fset_eq]; rfl)) rfl nX4_init_4 tyX4 tyX4_ok nmX4 2 (by decide) (List.mem_of_getElem? (i := 7) rfl) rfl rfl rfl (tyX4_ok 2 (by decide)) rfl rfl (Nat.le_of_ble_eq_true rfl) dX4_init_25 ?_
  refine y_aload_n C dX4_init_28 rfl rfl ?_
  refine y_bipush (v := (12 : Int32)) C dX4_init_29 (by decide) ?_
  refine y_newa (ty := .int) C 0 rfl rfl (List.mem_of_getElem? (i := 4) rfl) rfl (N := 12) (by decide) (by decide) (Nat.le_of_ble_eq_true rfl) (Nat.le_of_ble_eq_true rfl) (Nat.le_of_ble_eq_true rfl) dX4_init_31 (fun q4 => ?_)
  refine y_putF (i := b) (t := 4) (fs := [.ref q1, .ref q2, .ref q3, .null]) (ty := tyX4 3) C (by omega) (by rw [fset_ne (by omega), fset_ne (by omega), fset_ne (by omega), fset_ne (by omega)]) (he := (by rw [fset_ne (by omega), fset_eq]; rfl)) rfl nX4_init_4 tyX4 tyX4_ok nmX4 3 (by decide) (List.mem_of_getElem? (i := 8) rfl) rfl rfl rfl (tyX4_ok 3 (by decide)) rfl rfl (Nat.le_of_ble_eq_true rfl) dX4_init_33 ?_
  refine y_vret C hr (fun i hi => (by rw [fset_ne (by omega), fset_ne (by omega), fset_ne (by omega), fset_ne (by omega)])) (fun i hi hib => (by rw [fset_ne (by omega), fset_ne (by omega), fset_ne (by omega), fset_ne (by omega), fset_ne (by omega), fset_ne (by omega), fset_ne (by omega), fset_ne (by omega)])) ?_ ⟨_, (by rw [fset_eq]; rfl)⟩ rfl rfl dX4_init_36
  exact sgm.app (sgm.app (sgm.app (sgm.app (sgm.one (okc_eq (fun ad2 h => by rw [fset_eq]; show (.inr (4, [.ref q1, .ref q2, .ref q3, .ref q4]) : va_E) = .inr (4, [.ref (ad2 (b + 1)), .ref (ad2 (b + 2)), .ref (ad2 (b + 3)), .ref (ad2 (b + 4))]); rw [h (b + 1) (by omega), fset_ne (by omega), fset_ne (by omega), fset_ne (by omega), fset_eq, h (b + 2) (by omega), fset_ne (by omega), fset_ne (by omega), fset_eq, h (b + 3) (by omega), fset_ne (by omega), fset_eq, h (b + 4) (by omega), fset_eq]))) (b2 := b + 1) (sgm.one (okc_int' (t := 10) (by rw [fset_ne (by omega), fset_ne (by omega), fset_ne (by omega), fset_ne (by omega), fset_ne (by omega), fset_ne (by omega), fset_ne (by omega), fset_eq]; rfl) (by decide))) rfl) (b2 := b + 2) (sgm.one (okc_int' (t := 10) (by rw [fset_ne (by omega), fset_ne (by omega), fset_ne (by omega), fset_ne (by omega), fset_ne (by omega), fset_eq]; rfl) (by decide))) rfl) (b2 := b + 3) (sgm.one (okc_int' (t := 10) (by rw [fset_ne (by omega), fset_ne (by omega), fset_ne (by omega), fset_eq]; rfl) (by decide))) rfl) (b2 := b + 4) (sgm.one (okc_int' (t := 10) (by rw [fset_ne (by omega), fset_eq]; rfl) (by decide))) rfl

theorem nX5_init_5 : ∀ w ∈ u_ws RX5 TX5 2, w ∈ wsX5_init := in_r [6, 7] (by decide +kernel)
set_option maxHeartbeats 4000000 in
set_option maxRecDepth 100000 in
theorem cc_X5_init {b : Nat} {ad : Nat → Nat} {ce : Nat → va_E} (h0 : ce b = .inr (5, [.null, .int 0])) : CnC yX5_init wsX5_init 1 1 12 (fun _ => True) b (b + 1) ad ce (b + 2) ([(5, 0)] ++ [(10, 12)]) zrow := by
  refine y_met (cc := cX5_init) (maxL := 1) RX5 rfl rfl (by decide) rfl (by decide) (fun p l e s m args below meth c D cs A C hr hXs => ?_)
  refine y_aload_n C dX5_init_0 rfl rfl ?_
  refine y_obj C (List.mem_of_getElem? (i := 1) rfl) (List.mem_of_getElem? (i := 2) rfl) (List.mem_of_getElem? (i := 3) rfl) dX5_init_1 ⟨Nat.le_of_ble_eq_true rfl, Nat.le_of_ble_eq_true rfl⟩ ?_
  refine y_aload_n C dX5_init_4 rfl rfl ?_
  refine y_bipush (v := (12 : Int32)) C dX5_init_5 (by decide) ?_
  refine y_newa (ty := .int) C 0 rfl rfl (List.mem_of_getElem? (i := 4) rfl) rfl (N := 12) (by decide) (by decide) (Nat.le_of_ble_eq_true rfl) (Nat.le_of_ble_eq_true rfl) (Nat.le_of_ble_eq_true rfl) dX5_init_7 (fun q1 => ?_)
  refine y_putF (i := b) (t := 5) (fs := [.null, .int 0]) (ty := tyX5 0) C (by omega) (by rw [fset_ne (by omega)]) (he := (by rw [fset_ne (by omega), h0])) rfl nX5_init_5 tyX5 tyX5_ok nmX5 0 (by decide) (List.mem_of_getElem? (i := 5) rfl) rfl rfl rfl (tyX5_ok 0 (by decide)) rfl rfl (Nat.le_of_ble_eq_true rfl) dX5_init_9 ?_
  refine y_vret C hr (fun i hi => (by rw [fset_ne (by omega)])) (fun i hi hib => (by rw [fset_ne (by omega), fset_ne (by omega)])) ?_ ⟨_, (by rw [fset_eq]; rfl)⟩ rfl rfl dX5_init_12
  exact sgm.app (sgm.one (okc_eq (fun ad2 h => by rw [fset_eq]; show (.inr (5, [.ref q1, .int 0]) : va_E) = .inr (5, [.ref (ad2 (b + 1)), .int 0]); rw [h (b + 1) (by omega), fset_eq]))) (b2 := b + 1) (sgm.one (okc_int' (t := 10) (by rw [fset_ne (by omega), fset_eq]; rfl) (by decide))) rfl

theorem nX6_init_6 : ∀ w ∈ u_ws RX6 TX6 8, w ∈ wsX6_init := in_r [21, 22, 23, 24, 25, 26, 27, 28] (by decide +kernel)
def XS : State → Prop := fun U => va_Nw (.methodLinkNest RX6 27 yX0_init "FlatLottery") U ∧ va_Nw (.methodLinkNest RX6 28 yX2_init "FlatLottery") U ∧ va_AO RX0 U ∧ va_AO RX2 U
theorem xb_XS : XB XS := ⟨fun s U hW h => ⟨va_Nw.warmM hW h.1, va_Nw.warmM hW h.2.1, va_AO.moved hW.alike h.2.2.1, va_AO.moved hW.alike h.2.2.2⟩, fun U U' q h => ⟨va_Nw.same rfl q h.1, va_Nw.same rfl q h.2.1, va_AO.moved (q ▸ Vm.Alike.refl U.vm) h.2.2.1, va_AO.moved (q ▸ Vm.Alike.refl U.vm) h.2.2.2⟩⟩
def lyHs (j : Nat) : List (Nat × Nat) := (List.replicate j [((2 : Nat), (0 : Nat)), (10, 6)]).flatten
theorem lyHs_s (j : Nat) : lyHs (j + 1) = lyHs j ++ ([(2, 0)] ++ [(10, 6)]) := by
  unfold lyHs
  rw [List.replicate_succ', List.flatten_append]
  simp
theorem lyHs_len (j : Nat) : (lyHs j).length = 2 * j := by
  induction j with
  | zero => rfl
  | succ j ih => rw [lyHs_s, List.length_append, ih]; simp only [List.length_append, List.length_cons, List.length_nil]; omega
theorem ly_st_eq : ly_st = [(6, 0)] ++ ([(13, 12)] ++ ([(14, 12)] ++ ([(10, 12)] ++ (List.replicate 12 (0, 0) ++ lyHs 12)))) := by decide +kernel
def bState (ad : Nat → Nat) (b : Nat) : va_E := .inr (6, [.ref (ad (b + 1)), .ref (ad (b + 2)), .int 0, .int 0, .int 0, .int 0, .int 0, .ref (ad (b + 3))])

theorem nX6_init_0 : ∀ w ∈ u_ws RX0 TX0 2, w ∈ wsX6_init := in_r [29, 30] (by decide +kernel)
theorem nX6_init_2 : ∀ w ∈ u_ws RX2 TX2 9, w ∈ wsX6_init := in_r [31, 32, 33, 34, 35, 36, 37, 38, 39] (by decide +kernel)
set_option maxHeartbeats 4000000 in
set_option maxRecDepth 100000 in
theorem st_loop2 {p : Program} {l : Launch} {e : Env} {s : State} {m : MethodId} {args : Array Value} {below : List Frame} {meth : Method} {c : Code} {D : va_G} {cs : Nat → ClassId} {A : Nat → Prop} (C : CxC p s m args meth c RX6 cX6_init 2 wsX6_init D cs A) (hr : meth.sig.returnType = none) (hXs : XS s) {b : Nat} {ad0 : Nat → Nat} {ce0 : Nat → va_E} : ∀ (d j n : Nat) (ad : Nat → Nat) (ce : Nat → va_E) (f : Nat → Option Nat), j + d = 12 → n = b + 16 + 2 * j → (∀ i, i < b + 1 → ad i = ad0 i) → (∀ i, i < b → ce i = ce0 i) → ce b = bState ad b → ce (b + 2) = .inl (cs 4, 12, .inr (.inr (.inr (.inr f)))) → (∀ i, i < j → f i = some (ad (b + 16 + 2 * i))) → okc cs n ad (ce (b + 1)) (b + 1) 13 12 (zrow (b + 1)) → sgm cs n ad ce (b + 3) ([(10, 12)] ++ (List.replicate 12 (0, 0) ++ lyHs j)) zrow →
    VC p l e (rmC 2 39 240) s m args below meth c 2 D A (QC below s args D cs A 39 240 b (b + 1) ad0 ce0 (b + 40) ly_st zrow) (15 + 2 * j) (60 + 15 * j) 59 [some (.ref (ad0 b)), some (.int (nI j))] [] n ad ce := by
  intro d
  induction d with
  | zero =>
    intro j n ad ce f hj hn ha hc hb hq hf h13 hsg
    have hj12 : j = 12 := by omega
    subst hj12
    subst hn
    refine y_iload_n C dX6_init_59 rfl rfl ?_
    refine y_bipush (v := (12 : Int32)) C dX6_init_60 (by decide) ?_
    refine y_icmp_ge (tgt := 84) C dX6_init_62 (by decide) (fun _ => ?_) (fun z => absurd (by decide : (12 : Int32) ≤ nI 12) z)
    refine y_vret C hr ha (fun i hi hib => hc i (by omega)) ?_ ⟨_, hb⟩ rfl rfl dX6_init_84
    rw [ly_st_eq]
    refine sgm.app (sgm.one (okc_eq fun ad2 h => ?_)) (sgm.app (sgm.one h13) (sgm.app (sgm.one ?_) hsg rfl) rfl) rfl
    · rw [hb]
      show bState ad b = .inr (6, [.ref (ad2 (b + 1)), .ref (ad2 (b + 2)), .int 0, .int 0, .int 0, .int 0, .int 0, .ref (ad2 (b + 3))])
      rw [h (b + 1) (by omega), h (b + 2) (by omega), h (b + 3) (by omega)]
      rfl
    · show okc cs _ ad (ce (b + 2)) (b + 2) 14 12 (zrow (b + 2))
      rw [hq]
      refine okc_ref (t := 14) (by decide) (fun i hi => ?_)
      rw [rfo14]
      refine ⟨by omega, ?_⟩
      rw [hf i hi]
  | succ d ih =>
    intro j n ad ce f hj hn ha hc hb hq hf h13 hsg
    refine y_iload_n C dX6_init_59 rfl rfl ?_
    refine y_bipush (v := (12 : Int32)) C dX6_init_60 (by decide) ?_
    refine y_icmp_ge (tgt := 84) C dX6_init_62 (by decide) (fun z => ?_) (fun _ => ?_)
    · exact absurd z (nI_ge (b := 12) (by omega) (by decide))
    refine y_aload_n C dX6_init_65 rfl rfl ?_
    refine y_get (Cn := RX6) (T := TX6) (N := 8) (i := b) C (by omega) (ha b (by omega)) hb rfl nX6_init_6 1 (by decide) (v := .ref (ad (b + 2))) rfl (List.mem_of_getElem? (i := 7) rfl) rfl dX6_init_66 ?_
    refine y_iload_n C dX6_init_69 rfl rfl ?_
    refine y_new (t := 2) (fs := [.null, .int 0, .int 0, .int 0, .int 0, .int 0, .int 0, .int 0, .int 0]) C rfl nX6_init_2 tyX2 tyX2_ok (List.mem_of_getElem? (i := 6) rfl) (List.mem_of_getElem? (i := 12) rfl) (List.mem_of_getElem? (i := 13) rfl) (fun k hk => by rcases (show k = 0 ∨ k = 1 ∨ k = 2 ∨ k = 3 ∨ k = 4 ∨ k = 5 ∨ k = 6 ∨ k = 7 ∨ k = 8 by omega) with rfl | rfl | rfl | rfl | rfl | rfl | rfl | rfl | rfl <;> rfl) (by show 15 + 2 * j + 1 ≤ 39; omega) (by show 60 + 15 * j + 9 ≤ 240; omega) dX6_init_70 (fun q => ?_)
    refine y_dup C dX6_init_73 rfl ?_
    refine y_callN (maxL := 1) (b := n) C (cc_X2_init (b := n) fset_eq) gX6_init_X2_init_n28 rfl (List.mem_of_getElem? (i := 13) rfl) hXs.2.1 (List.mem_of_getElem? (i := 17) rfl) rfl (by decide +kernel) ⟨Nat.le_of_ble_eq_true rfl, Nat.le_of_ble_eq_true rfl⟩ xb_true trivial fset_eq (Nat.le_of_ble_eq_true rfl) dX6_init_74 ⟨by show 15 + 2 * j + 1 + 1 ≤ 39; omega, by show 60 + 15 * j + 9 + 6 ≤ 240; omega⟩ (fun ad2 ce2 e1 e2 e3 e4 => ?_)
    obtain ⟨vs, e4⟩ := e4
    have aE : ∀ i, i < n → ad2 i = ad i := fun i hi => (e1 i (by omega)).trans (fset_ne (by omega))
    have cE : ∀ i, i < n → ce2 i = ce i := fun i hi => (e2 i (by omega) (by omega)).trans (fset_ne (by omega))
    have aN : ad2 n = q := (e1 n (by omega)).trans fset_eq
    refine y_astq (i := b + 2) (v := n) (t := 4) (r := (RX2, TX2, 9)) C (by omega) (aE (b + 2) (by omega)) ((cE (b + 2) (by omega)).trans hq) rfl (by omega) aN e4 rfl (vp_in_nI (by omega) (by decide)) dX6_init_77 ?_
    rw [nI_clamp (show j < 2 ^ 31 by omega)]
    refine y_iinc (d := (1 : Int32)) (v := nI (j + 1)) C dX6_init_78 rfl (by decide) (nI_1 j) (by decide) rfl ?_
    refine y_goto (tgt := 59) C dX6_init_81 (by decide) ?_
    refine ih (j + 1) (n + 2) ad2 (fset ce2 (b + 2) (.inl (cs 4, 12, .inr (.inr (.inr (.inr (va_up f j (some q)))))))) (va_up f j (some q)) (by omega) (by omega) (fun i hi => (aE i (by omega)).trans (ha i hi)) (fun i hi => (fset_ne (by omega)).trans ((cE i (by omega)).trans (hc i hi))) ?_ fset_eq (fun i hi => ?_) ?_ ?_
    · rw [fset_ne (by omega), cE b (by omega), hb]
      unfold bState
      rw [aE (b + 1) (by omega), aE (b + 2) (by omega), aE (b + 3) (by omega)]
    · unfold va_up
      by_cases hi2 : i = j
      · rw [if_pos hi2, hi2, ← aN, hn]
      · rw [if_neg hi2, hf i (by omega), aE _ (by omega)]
    · rw [fset_ne (by omega), cE (b + 1) (by omega)]
      exact h13.mono (by omega) aE
    · rw [lyHs_s, ← List.append_assoc (List.replicate 12 ((0 : Nat), (0 : Nat))), ← List.append_assoc]
      refine sgm.app (b2 := n) (hsg.mono (by omega) aE (fun k hk => ?_)) (e3.mono (Nat.le_refl _) (fun _ _ => rfl) (fun k hk => ?_)) ?_
      · simp only [List.length_append, List.length_cons, List.length_nil, List.length_replicate, lyHs_len] at hk
        rw [fset_ne (by omega), cE _ (by omega)]
      · rw [fset_ne (by omega)]
      · simp only [List.length_append, List.length_cons, List.length_nil, List.length_replicate, lyHs_len]
        omega

set_option maxHeartbeats 4000000 in
set_option maxRecDepth 100000 in
theorem st_loop1 {p : Program} {l : Launch} {e : Env} {s : State} {m : MethodId} {args : Array Value} {below : List Frame} {meth : Method} {c : Code} {D : va_G} {cs : Nat → ClassId} {A : Nat → Prop} (C : CxC p s m args meth c RX6 cX6_init 2 wsX6_init D cs A) (hr : meth.sig.returnType = none) (hXs : XS s) {b : Nat} {ad0 : Nat → Nat} {ce0 : Nat → va_E} : ∀ (d j n : Nat) (ad : Nat → Nat) (ce : Nat → va_E) (f : Nat → Option Nat), j + d = 12 → n = b + 4 + j → (∀ i, i < b + 1 → ad i = ad0 i) → (∀ i, i < b → ce i = ce0 i) → ce b = bState ad b → ce (b + 1) = .inl (cs 3, 12, .inr (.inr (.inr (.inr f)))) → (∀ i, i < j → f i = some (ad (b + 4 + i))) → ce (b + 2) = .inl (cs 4, 12, .inr (.inr (.inr (.inr (fun _ => none))))) → sgm cs n ad ce (b + 3) ([(10, 12)] ++ List.replicate j (0, 0)) zrow →
    VC p l e (rmC 2 39 240) s m args below meth c 2 D A (QC below s args D cs A 39 240 b (b + 1) ad0 ce0 (b + 40) ly_st zrow) (3 + j) (36 + 2 * j) 32 [some (.ref (ad0 b)), some (.int (nI j))] [] n ad ce := by
  intro d
  induction d with
  | zero =>
    intro j n ad ce f hj hn ha hc hb hq hf h14 hsg
    have hj12 : j = 12 := by omega
    subst hj12
    subst hn
    refine y_iload_n C dX6_init_32 rfl rfl ?_
    refine y_bipush (v := (12 : Int32)) C dX6_init_33 (by decide) ?_
    refine y_icmp_ge (tgt := 57) C dX6_init_35 (by decide) (fun _ => ?_) (fun z => absurd (by decide : (12 : Int32) ≤ nI 12) z)
    refine y_iconst (v := (0 : Int32)) C dX6_init_57 (by decide) ?_
    refine y_istore_n (lv' := [some (.ref (ad0 b)), some (.int (nI 0))]) C dX6_init_58 rfl (by decide) rfl ?_
    refine st_loop2 C hr hXs 12 0 (b + 4 + 12) ad ce (fun _ => none) rfl (by omega) ha hc hb h14 (fun i hi => absurd hi (Nat.not_lt_zero _)) ?_ hsg
    rw [hq]
    refine okc_ref (t := 13) (by decide) (fun i hi => ?_)
    rw [rfo13]
    refine ⟨by omega, ?_⟩
    rw [hf i hi]
  | succ d ih =>
    intro j n ad ce f hj hn ha hc hb hq hf h14 hsg
    refine y_iload_n C dX6_init_32 rfl rfl ?_
    refine y_bipush (v := (12 : Int32)) C dX6_init_33 (by decide) ?_
    refine y_icmp_ge (tgt := 57) C dX6_init_35 (by decide) (fun z => ?_) (fun _ => ?_)
    · exact absurd z (nI_ge (b := 12) (by omega) (by decide))
    refine y_aload_n C dX6_init_38 rfl rfl ?_
    refine y_get (Cn := RX6) (T := TX6) (N := 8) (i := b) C (by omega) (ha b (by omega)) hb rfl nX6_init_6 0 (by decide) (v := .ref (ad (b + 1))) rfl (List.mem_of_getElem? (i := 5) rfl) rfl dX6_init_39 ?_
    refine y_iload_n C dX6_init_42 rfl rfl ?_
    refine y_new (t := 0) (fs := [.int 0, .int 0]) C rfl nX6_init_0 tyX0 tyX0_ok (List.mem_of_getElem? (i := 4) rfl) (List.mem_of_getElem? (i := 10) rfl) (List.mem_of_getElem? (i := 11) rfl) (fun k hk => by rcases (show k = 0 ∨ k = 1 by omega) with rfl | rfl <;> rfl) (by show 3 + j + 1 ≤ 39; omega) (by show 36 + 2 * j + 2 ≤ 240; omega) dX6_init_43 (fun q => ?_)
    refine y_dup C dX6_init_46 rfl ?_
    refine y_callN (maxL := 1) (b := n) C (cc_X0_init (b := n) fset_eq) gX6_init_X0_init_n27 rfl (List.mem_of_getElem? (i := 11) rfl) hXs.1 (List.mem_of_getElem? (i := 14) rfl) rfl (by decide +kernel) ⟨Nat.le_of_ble_eq_true rfl, Nat.le_of_ble_eq_true rfl⟩ xb_true trivial fset_eq (Nat.le_of_ble_eq_true rfl) dX6_init_47 ⟨by show 3 + j + 1 + 0 ≤ 39; omega, by show 36 + 2 * j + 2 + 0 ≤ 240; omega⟩ (fun ad2 ce2 e1 e2 e3 e4 => ?_)
    obtain ⟨vs, e4⟩ := e4
    have aE : ∀ i, i < n → ad2 i = ad i := fun i hi => (e1 i (by omega)).trans (fset_ne (by omega))
    have cE : ∀ i, i < n → ce2 i = ce i := fun i hi => (e2 i (by omega) (by omega)).trans (fset_ne (by omega))
    have aN : ad2 n = q := (e1 n (by omega)).trans fset_eq
    refine y_astq (i := b + 1) (v := n) (t := 3) (r := (RX0, TX0, 2)) C (by omega) (aE (b + 1) (by omega)) ((cE (b + 1) (by omega)).trans hq) rfl (by omega) aN e4 rfl (vp_in_nI (by omega) (by decide)) dX6_init_50 ?_
    rw [nI_clamp (show j < 2 ^ 31 by omega)]
    refine y_iinc (d := (1 : Int32)) (v := nI (j + 1)) C dX6_init_51 rfl (by decide) (nI_1 j) (by decide) rfl ?_
    refine y_goto (tgt := 32) C dX6_init_54 (by decide) ?_
    refine ih (j + 1) (n + 1) ad2 (fset ce2 (b + 1) (.inl (cs 3, 12, .inr (.inr (.inr (.inr (va_up f j (some q)))))))) (va_up f j (some q)) (by omega) (by omega) (fun i hi => (aE i (by omega)).trans (ha i hi)) (fun i hi => (fset_ne (by omega)).trans ((cE i (by omega)).trans (hc i hi))) ?_ fset_eq (fun i hi => ?_) ?_ ?_
    · rw [fset_ne (by omega), cE b (by omega), hb]
      unfold bState
      rw [aE (b + 1) (by omega), aE (b + 2) (by omega), aE (b + 3) (by omega)]
    · unfold va_up
      by_cases hi2 : i = j
      · rw [if_pos hi2, hi2, ← aN, hn]
      · rw [if_neg hi2, hf i (by omega), aE _ (by omega)]
    · rw [fset_ne (by omega), cE (b + 2) (by omega)]
      exact h14
    · rw [List.replicate_succ', ← List.append_assoc]
      refine sgm.app (b2 := n) (hsg.mono (by omega) aE (fun k hk => ?_)) (e3.mono (Nat.le_refl _) (fun _ _ => rfl) (fun k hk => ?_)) ?_
      · simp only [List.length_append, List.length_cons, List.length_nil, List.length_replicate] at hk
        rw [fset_ne (by omega), cE _ (by omega)]
      · rw [fset_ne (by omega)]
      · simp only [List.length_append, List.length_cons, List.length_nil, List.length_replicate]
        omega

set_option maxHeartbeats 4000000 in
set_option maxRecDepth 100000 in
theorem cc_X6_init {b : Nat} {ad : Nat → Nat} {ce : Nat → va_E} (h0 : ce b = .inr (6, [.null, .null, .int 0, .int 0, .int 0, .int 0, .int 0, .null])) : CnC yX6_init wsX6_init 2 39 240 XS b (b + 1) ad ce (b + 40) ly_st zrow := by
  refine y_met (cc := cX6_init) (maxL := 2) RX6 rfl rfl (by decide) rfl (by decide) (fun p l e s m args below meth c D cs A C hr hXs => ?_)
  refine y_aload_n C dX6_init_0 rfl rfl ?_
  refine y_obj C (List.mem_of_getElem? (i := 1) rfl) (List.mem_of_getElem? (i := 2) rfl) (List.mem_of_getElem? (i := 3) rfl) dX6_init_1 ⟨Nat.le_of_ble_eq_true rfl, Nat.le_of_ble_eq_true rfl⟩ ?_
  refine y_aload_n C dX6_init_4 rfl rfl ?_
  refine y_bipush (v := (12 : Int32)) C dX6_init_5 (by decide) ?_
  refine y_newq (Cn := RX0) (N := 12) C 3 rfl (List.mem_of_getElem? (i := 4) rfl) hXs.2.2.1 (by decide) (by decide) (Nat.le_of_ble_eq_true rfl) (Nat.le_of_ble_eq_true rfl) (Nat.le_of_ble_eq_true rfl) dX6_init_7 (fun q1 => ?_)
  refine y_putF (i := b) (t := 6) (fs := [.null, .null, .int 0, .int 0, .int 0, .int 0, .int 0, .null]) (ty := tyX6 0) C (by omega) (by rw [fset_ne (by omega)]) (he := (by rw [fset_ne (by omega), h0])) rfl nX6_init_6 tyX6 tyX6_ok nmX6 0 (by decide) (List.mem_of_getElem? (i := 5) rfl) rfl rfl rfl (tyX6_ok 0 (by decide)) rfl rfl (Nat.le_of_ble_eq_true rfl) dX6_init_10 ?_
  refine y_aload_n C dX6_init_13 rfl rfl ?_
  refine y_bipush (v := (12 : Int32)) C dX6_init_14 (by decide) ?_
  refine y_newq (Cn := RX2) (N := 12) C 4 rfl (List.mem_of_getElem? (i := 6) rfl) hXs.2.2.2 (by decide) (by decide) (Nat.le_of_ble_eq_true rfl) (Nat.le_of_ble_eq_true rfl) (Nat.le_of_ble_eq_true rfl) dX6_init_16 (fun q2 => ?_)
  refine y_putF (i := b) (t := 6) (fs := [.ref q1, .null, .int 0, .int 0, .int 0, .int 0, .int 0, .null]) (ty := tyX6 1) C (by omega) (by rw [fset_ne (by omega), fset_ne (by omega)]) (he := (by rw [fset_ne (by omega), fset_eq]; rfl)) rfl nX6_init_6 tyX6 tyX6_ok nmX6 1 (by decide) (List.mem_of_getElem? (i := 7) rfl) rfl rfl rfl (tyX6_ok 1 (by decide)) rfl rfl (Nat.le_of_ble_eq_true rfl) dX6_init_19 ?_
  refine y_aload_n C dX6_init_22 rfl rfl ?_
  refine y_bipush (v := (12 : Int32)) C dX6_init_23 (by decide) ?_
  refine y_newa (ty := .int) C 0 rfl rfl (List.mem_of_getElem? (i := 8) rfl) rfl (N := 12) (by decide) (by decide) (Nat.le_of_ble_eq_true rfl) (Nat.le_of_ble_eq_true rfl) (Nat.le_of_ble_eq_true rfl) dX6_init_25 (fun q3 => ?_)
  refine y_putF (i := b) (t := 6) (fs := [.ref q1, .ref q2, .int 0, .int 0, .int 0, .int 0, .int 0, .null]) (ty := tyX6 7) C (by omega) (by rw [fset_ne (by omega), fset_ne (by omega), fset_ne (by omega)]) (he := (by rw [fset_ne (by omega), fset_eq]; rfl)) rfl nX6_init_6 tyX6 tyX6_ok nmX6 7 (by decide) (List.mem_of_getElem? (i := 9) rfl) rfl rfl rfl (tyX6_ok 7 (by decide)) rfl rfl (Nat.le_of_ble_eq_true rfl) dX6_init_27 ?_
  refine y_iconst (v := (0 : Int32)) C dX6_init_30 (by decide) ?_
  refine y_istore_n (lv' := [some (.ref (ad b)), some (.int (nI 0))]) C dX6_init_31 rfl (by decide) rfl ?_
  refine st_loop1 C hr hXs 12 0 (b + 4) _ _ (fun _ => none) rfl (by omega) (fun i hi => by rw [fset_ne (by omega), fset_ne (by omega), fset_ne (by omega)]) (fun i hi => by rw [fset_ne (by omega), fset_ne (by omega), fset_ne (by omega), fset_ne (by omega), fset_ne (by omega), fset_ne (by omega)]) ?_ ?_ (fun i hi => absurd hi (Nat.not_lt_zero _)) ?_ ?_
  · rw [fset_eq]
    unfold bState
    rw [fset_ne (by omega), fset_ne (by omega), fset_eq, fset_ne (by omega), fset_eq, fset_eq]
    rfl
  · rw [fset_ne (by omega), fset_ne (by omega), fset_ne (by omega), fset_ne (by omega), fset_ne (by omega), fset_eq]
  · rw [fset_ne (by omega), fset_ne (by omega), fset_ne (by omega), fset_eq]
  · refine sgm.app (L2 := []) (sgm.one ?_) sgm.nil rfl
    refine okc_int' (t := 10) ?_ (by decide)
    rw [fset_ne (by omega), fset_eq]
    rfl

