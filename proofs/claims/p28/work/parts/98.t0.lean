/-! faultOf -/
theorem gN_tyW {g : Gh} {w : Int64} : gN (tyW g w) ≤ gN g + 8 := by
  unfold tyW
  have n1 := tyc_N (g := g) (c := sg w 56)
  have n2 := tyc_N (g := tyc g (sg w 56)) (c := sg w 48)
  have n3 := tyc_N (g := tyc (tyc g (sg w 56)) (sg w 48)) (c := sg w 40)
  have n4 := tyc_N (g := tyc (tyc (tyc g (sg w 56)) (sg w 48)) (sg w 40)) (c := sg w 32)
  have n5 := tyc_N (g := tyc (tyc (tyc (tyc g (sg w 56)) (sg w 48)) (sg w 40)) (sg w 32)) (c := sg w 24)
  have n6 := tyc_N (g := tyc (tyc (tyc (tyc (tyc g (sg w 56)) (sg w 48)) (sg w 40)) (sg w 32)) (sg w 24)) (c := sg w 16)
  have n7 := tyc_N (g := tyc (tyc (tyc (tyc (tyc (tyc g (sg w 56)) (sg w 48)) (sg w 40)) (sg w 32)) (sg w 24)) (sg w 16)) (c := sg w 8)
  have n8 := tyc_N (g := tyc (tyc (tyc (tyc (tyc (tyc (tyc g (sg w 56)) (sg w 48)) (sg w 40)) (sg w 32)) (sg w 24)) (sg w 16)) (sg w 8)) (c := sg w 0)
  omega
set_option maxHeartbeats 2000000 in
theorem c_faultOf {one other : Int64} {g' : Gh} {told r : Int32} (h : StG f_X7_readLists (tyW (tyW g0 one) other) told g') (hr0 : (if told = -1 then (-1 : Int32) else -100 - told) = r) : CoI yL_faultOf wq_faultOf 6 255 1762 [.long one, .long other] r := by
  have n0 : gN g0 = 0 := rfl
  have n1 := gN_tyW (g := g0) (w := one)
  refine q_metO (cc := cL_faultOf) (maxL := 6) (ret := .int) rfl (by decide) rfl (Nat.le_of_ble_eq_true rfl) (fun p l e s m args below meth c D cs C hXL hr => ?_)
  show VX p l e (rmC 6 255 1762) s m args below meth c 6 D (fun q => s.heap.size ≤ q) 0 0 _ (fun _ => True) 0 [(0, .long one), (2, .long other)] []
  refine q_new C hXL ⟨Nat.le_of_ble_eq_true rfl, Nat.le_of_ble_eq_true rfl⟩ ⟨Nat.le_of_ble_eq_true rfl, Nat.le_of_ble_eq_true rfl⟩ (fun _ h => h) (Nat.le_of_ble_eq_true rfl) dL_faultOf_0 dL_faultOf_3 dL_faultOf_4 (fun ad => ?_)
  refine q_astore C dL_faultOf_7 (by decide) rfl ?_
  refine q_aload C dL_faultOf_9 0 rfl ?_
  refine q_lload_n C dL_faultOf_11 rfl 1 rfl ?_
  refine q_callSI (n := 2) (As := [.ref (ad 0), .long one]) (maxL := 6) (ret := some .boolean) C (c_types (g := g0) one (by omega)) qG_Ltypes rfl (by decide +kernel) ⟨Nat.le_of_ble_eq_true rfl, Nat.le_of_ble_eq_true rfl⟩ ⟨Nat.le_of_ble_eq_true rfl, Nat.le_of_ble_eq_true rfl⟩ rfl rfl rfl (Nat.le_of_ble_eq_true rfl) dL_faultOf_12 ?_
  refine q_if_eq_f C 27 dL_faultOf_15 (by decide) (by decide) ?_
  refine q_aload C dL_faultOf_18 0 rfl ?_
  refine q_lload_n C dL_faultOf_20 rfl 2 rfl ?_
  refine q_callSI (n := 2) (As := [.ref (ad 0), .long other]) (maxL := 6) (ret := some .boolean) C (c_types (g := tyW g0 one) other (by omega)) qG_Ltypes rfl (by decide +kernel) ⟨Nat.le_of_ble_eq_true rfl, Nat.le_of_ble_eq_true rfl⟩ ⟨Nat.le_of_ble_eq_true rfl, Nat.le_of_ble_eq_true rfl⟩ rfl rfl rfl (Nat.le_of_ble_eq_true rfl) dL_faultOf_21 ?_
  refine q_if_ne_t C 30 dL_faultOf_24 (by decide) (by decide) ?_
  refine q_aload C dL_faultOf_30 0 rfl ?_
  refine o_readLists C h ⟨Nat.le_of_ble_eq_true rfl, Nat.le_of_ble_eq_true rfl⟩ ⟨Nat.le_of_ble_eq_true rfl, Nat.le_of_ble_eq_true rfl⟩ (Nat.le_of_ble_eq_true rfl) dL_faultOf_32 ?_
  refine q_istore C dL_faultOf_35 (by decide) rfl ?_
  refine q_iload C dL_faultOf_37 0 rfl ?_
  refine q_iconst (v := (-1 : Int32)) C dL_faultOf_39 (by decide) ?_
  by_cases ht : told = -1
  · rw [if_pos ht] at hr0
    subst hr0
    refine q_icmp_ne_f C 47 dL_faultOf_40 (by decide) ht ?_
    refine q_iconst (v := (-1 : Int32)) C dL_faultOf_43 (by decide) ?_
    refine q_goto (tgt := 52) C dL_faultOf_44 (by decide) ?_
    exact q_iretO C hr rfl ⟨Nat.le_of_ble_eq_true rfl, Nat.le_of_ble_eq_true rfl⟩ dL_faultOf_52
  · rw [if_neg ht] at hr0
    refine q_icmp_ne_t C 47 dL_faultOf_40 (by decide) ht ?_
    refine q_bipush (v := (-100 : Int32)) C dL_faultOf_47 (by decide) ?_
    refine q_iload C dL_faultOf_49 0 rfl ?_
    refine q_isub_v (v := r) C dL_faultOf_51 hr0 ?_
    exact q_iretO C hr rfl ⟨Nat.le_of_ble_eq_true rfl, Nat.le_of_ble_eq_true rfl⟩ dL_faultOf_52
theorem gK_txg {g : Gh} {n k : Nat} {x : Nat → Int32} (h : gK g = k) : gK (txg g n x) = k := h
theorem step_clear {g : Gh} {r : Int32} (h : nI (gN g) = r) : StG f_X7_clearText g r (txg g 0 (gX g)) := stG_of (t := tClear g) (fun M G C => st_clear G C) (by unfold tClear; rw [h])
theorem step_type {g : Gh} {a r : Int32} {n : Nat} (hN : gN g = n) (h : n < 60) (e : nI (n + 1) = r) : StG (f_X7_type a) g r (txg g (n + 1) (fun i => if i = n then vp_nar .char a else gX g i)) := by
  subst hN
  subst e
  exact stG_of (t := tType g a) (fun M G C => st_type G C a) (by unfold tType; rw [if_pos h])
theorem step_type60 {g : Gh} {a : Int32} (hN : gN g = 60) : StG (f_X7_type a) g (-3) g := stG_of (t := tType g a) (fun M G C => st_type G C a) (by unfold tType; rw [if_neg (by omega)])
