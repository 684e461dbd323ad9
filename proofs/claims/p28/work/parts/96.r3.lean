/-! refused, types (written by wip/p28/tools/mk_r2.py) -/
set_option maxHeartbeats 2000000 in
theorem c_refused {g : Gh} (G : GO g) (hn : 1 ≤ nf g.1) (hh : 1 ≤ nh g.1) (h1 : 1 ≤ fP g.1 0 1) : CmI yL_refused wq_refused 7 (fun ad => [.ref (ad 0)]) g 1 g := by
  refine q_metI (cc := cL_refused) (maxL := 4) (ret := .boolean) rfl (by decide) rfl (fun _ => Nat.le_of_ble_eq_true rfl) (fun p l e s m args below meth c D cs ad C hr hI => ?_)
  show VX p l e (rmk 7) s m args below meth c 4 D (AD ad) 0 0 _ (gW cs ad g []) 0 [(0, .ref (ad 0))] []
  refine q_aload_n C dL_refused_0 rfl 0 rfl ?_
  refine q_callSL (n := 1) (As := [.ref (ad 0)]) (maxL := 4) (ret := some .long) C (c_seen G) qG_Lseen rfl (by decide +kernel) ⟨Nat.le_of_ble_eq_true rfl, Nat.le_of_ble_eq_true rfl⟩ ⟨Nat.le_of_ble_eq_true rfl, Nat.le_of_ble_eq_true rfl⟩ rfl rfl rfl (Nat.le_of_ble_eq_true rfl) dL_refused_1 ?_
  refine q_lstore_n C dL_refused_4 rfl (by decide) rfl ?_
  refine q_aload_n C dL_refused_5 rfl 1 rfl ?_
  refine q_bipush (v := (11 : Int32)) C dL_refused_6 (by decide) ?_
  refine o_count C f_count_11 ⟨Nat.le_of_ble_eq_true rfl, Nat.le_of_ble_eq_true rfl⟩ ⟨Nat.le_of_ble_eq_true rfl, Nat.le_of_ble_eq_true rfl⟩ (Nat.le_of_ble_eq_true rfl) dL_refused_8 ?_
  refine q_istore_n C dL_refused_11 rfl (by decide) rfl ?_
  refine q_aload_n C dL_refused_12 rfl 2 rfl ?_
  refine q_iconst (v := (0 : Int32)) C dL_refused_13 (by decide) ?_
  refine q_callSI (n := 2) (As := [.ref (ad 0), .int 0]) (maxL := 4) (ret := some .boolean) C (c_refusesAny0 G hn hh h1) qG_LrefusesAny rfl (by decide +kernel) ⟨Nat.le_of_ble_eq_true rfl, Nat.le_of_ble_eq_true rfl⟩ ⟨Nat.le_of_ble_eq_true rfl, Nat.le_of_ble_eq_true rfl⟩ rfl rfl rfl (Nat.le_of_ble_eq_true rfl) dL_refused_14 ?_
  refine q_if_eq_f C 51 dL_refused_17 (by decide) (by decide) ?_
  refine q_aload_n C dL_refused_20 rfl 2 rfl ?_
  refine q_iconst (v := (1 : Int32)) C dL_refused_21 (by decide) ?_
  refine q_callSI (n := 2) (As := [.ref (ad 0), .int 1]) (maxL := 4) (ret := some .boolean) C (c_refusesAny1 G hn hh h1) qG_LrefusesAny rfl (by decide +kernel) ⟨Nat.le_of_ble_eq_true rfl, Nat.le_of_ble_eq_true rfl⟩ ⟨Nat.le_of_ble_eq_true rfl, Nat.le_of_ble_eq_true rfl⟩ rfl rfl rfl (Nat.le_of_ble_eq_true rfl) dL_refused_22 ?_
  refine q_if_eq_f C 51 dL_refused_25 (by decide) (by decide) ?_
  refine q_aload_n C dL_refused_28 rfl 2 rfl ?_
  refine q_callSL (n := 1) (As := [.ref (ad 0)]) (maxL := 4) (ret := some .long) C (c_seen G) qG_Lseen rfl (by decide +kernel) ⟨Nat.le_of_ble_eq_true rfl, Nat.le_of_ble_eq_true rfl⟩ ⟨Nat.le_of_ble_eq_true rfl, Nat.le_of_ble_eq_true rfl⟩ rfl rfl rfl (Nat.le_of_ble_eq_true rfl) dL_refused_29 ?_
  refine q_lload_n C dL_refused_32 rfl 1 rfl ?_
  refine q_lcmp_eq C dL_refused_33 ?_
  refine q_if_ne_f C 51 dL_refused_34 (by decide) (by decide) ?_
  refine q_aload_n C dL_refused_37 rfl 2 rfl ?_
  refine q_bipush (v := (11 : Int32)) C dL_refused_38 (by decide) ?_
  refine o_count C f_count_11 ⟨Nat.le_of_ble_eq_true rfl, Nat.le_of_ble_eq_true rfl⟩ ⟨Nat.le_of_ble_eq_true rfl, Nat.le_of_ble_eq_true rfl⟩ (Nat.le_of_ble_eq_true rfl) dL_refused_40 ?_
  refine q_iload_n C dL_refused_43 rfl 0 rfl ?_
  refine q_icmp_ne_f C 51 dL_refused_44 (by decide) rfl ?_
  refine q_iconst (v := (1 : Int32)) C dL_refused_47 (by decide) ?_
  refine q_goto (tgt := 52) C dL_refused_48 (by decide) ?_
  exact q_iret C hr rfl hI dL_refused_52
