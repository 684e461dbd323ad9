/-! types: up to eight characters -/
def sg (w : Int64) (k : Int32) : Int32 := ((w >>> (k.toInt64 &&& 63)) &&& 255).toInt32
def tyc (g : Gh) (c : Int32) : Gh := if c = 0 then g else txg g (gN g + 1) (fun i => if i = gN g then vp_nar .char ((c.toUInt32 % 65536).toInt32) else gX g i)
theorem tyc_N {g : Gh} {c : Int32} : gN g ≤ gN (tyc g c) ∧ gN (tyc g c) ≤ gN g + 1 := by
  unfold tyc
  by_cases h : c = 0
  · rw [if_pos h]
    exact ⟨Nat.le_refl _, Nat.le_succ _⟩
  · rw [if_neg h]
    exact ⟨Nat.le_succ _, Nat.le_refl _⟩
def tyW (g : Gh) (w : Int64) : Gh := tyc (tyc (tyc (tyc (tyc (tyc (tyc (tyc g (sg w 56)) (sg w 48)) (sg w 40)) (sg w 32)) (sg w 24)) (sg w 16)) (sg w 8)) (sg w 0)
section TY
variable {p : Program} {l : Launch} {e : Env} {s : State} {m : MethodId} {args : Array Value} {below : List Frame} {meth : Method} {c : Code} {D : va_G} {cs : Nat → ClassId} {ad : Nat → Nat} {Q : State → Prop} {g : Gh}
theorem types_s (C : CQ p s m args meth c cL_types 6 D cs) (w : Int64) (k k8 : Int32) (hk : ¬ k < 0) (hk8 : k + Int32.ofInt (-8) = k8) (hN : gN g < 60) (next : VX p l e (rmk 2) s m args below meth c 6 D (AD ad) 0 0 Q (gW cs ad (tyc g (sg w k)) []) 6 [(4, .int k8), (3, .int 1), (0, .ref (ad 0)), (1, .long w)] []) : VX p l e (rmk 2) s m args below meth c 6 D (AD ad) 0 0 Q (gW cs ad g []) 6 [(4, .int k), (3, .int 1), (0, .ref (ad 0)), (1, .long w)] [] := by
  have tail : VX p l e (rmk 2) s m args below meth c 6 D (AD ad) 0 0 Q (gW cs ad (tyc g (sg w k)) []) 41 [(5, .int (sg w k)), (4, .int k), (3, .int 1), (0, .ref (ad 0)), (1, .long w)] [] := by
    refine q_iconst (v := (1 : Int32)) C dL_types_41 (by decide) ?_
    refine q_goto (tgt := 46) C dL_types_42 (by decide) ?_
    refine q_istore_n C dL_types_46 rfl (by decide) rfl ?_
    refine q_iinc (v := k8) C dL_types_47 2 rfl hk8 (by decide) rfl ?_
    refine q_goto (tgt := 6) C dL_types_50 (by decide) ?_
    exact q_weak [0, 1, 3, 4] rfl next
  refine q_iload C dL_types_6 0 rfl ?_
  refine q_if_lt_f C 53 dL_types_8 (by decide) hk ?_
  refine q_lload_n C dL_types_11 rfl 3 rfl ?_
  refine q_iload C dL_types_12 0 rfl ?_
  refine q_lshr C dL_types_14 ?_
  refine q_ldc2 (v := (255 : Int64)) C qK_80 dL_types_15 ?_
  refine q_land C dL_types_18 ?_
  refine q_l2i C dL_types_19 ?_
  refine q_istore C dL_types_20 (by decide) rfl ?_
  show VX p l e (rmk 2) s m args below meth c 6 D (AD ad) 0 0 Q (gW cs ad g []) 22 [(5, .int (sg w k)), (4, .int k), (3, .int 1), (0, .ref (ad 0)), (1, .long w)] []
  refine q_iload_n C dL_types_22 rfl 2 rfl ?_
  refine q_if_eq_f C 45 dL_types_23 (by decide) (by decide) ?_
  refine q_iload C dL_types_26 0 rfl ?_
  refine q_if_eq C (tgt := 41) dL_types_28 (by decide) (fun h => ?_) (fun h => ?_)
  · have e1 : tyc g (sg w k) = g := if_pos h
    rw [e1] at tail
    exact tail
  · have e1 : tyc g (sg w k) = txg g (gN g + 1) (fun i => if i = gN g then vp_nar .char (((sg w k).toUInt32 % 65536).toInt32) else gX g i) := if_neg h
    refine q_aload_n C dL_types_31 rfl 3 rfl ?_
    refine q_iload C dL_types_32 0 rfl ?_
    refine q_i2c C dL_types_34 ?_
    refine o_type C (g' := tyc g (sg w k)) (r := nI (gN g + 1)) (stG_of (fun M G C => st_type G C _) (by unfold tType; rw [if_pos hN, e1])) ⟨Nat.le_of_ble_eq_true rfl, Nat.le_of_ble_eq_true rfl⟩ ⟨Nat.le_of_ble_eq_true rfl, Nat.le_of_ble_eq_true rfl⟩ (Nat.le_of_ble_eq_true rfl) dL_types_35 ?_
    refine q_if_le_f C 45 dL_types_38 (by decide) (fun q => ?_) tail
    have := (nIle (a := gN g + 1) (b := 0) (by omega) (by omega)).mp q
    omega
end TY
theorem c_types {g : Gh} (w : Int64) (hN : gN g + 8 ≤ 60) : CmI yL_types wq_types 2 (fun ad => [.ref (ad 0), .long w]) g 1 (tyW g w) := by
  refine q_metI (cc := cL_types) (maxL := 6) (ret := .boolean) rfl (by decide) rfl (fun _ => Nat.le_of_ble_eq_true rfl) (fun p l e s m args below meth c D cs ad C hr hI => ?_)
  show VX p l e (rmk 2) s m args below meth c 6 D (AD ad) 0 0 _ (gW cs ad g []) 0 [(0, .ref (ad 0)), (1, .long w)] []
  refine q_iconst (v := (1 : Int32)) C dL_types_0 (by decide) ?_
  refine q_istore_n C dL_types_1 rfl (by decide) rfl ?_
  refine q_bipush (v := (56 : Int32)) C dL_types_2 (by decide) ?_
  refine q_istore C dL_types_4 (by decide) rfl ?_
  have n1 := tyc_N (g := g) (c := sg w 56)
  refine types_s C w 56 48 (by decide) (by decide) (by omega) ?_
  have n2 := tyc_N (g := tyc g (sg w 56)) (c := sg w 48)
  refine types_s C w 48 40 (by decide) (by decide) (by omega) ?_
  have n3 := tyc_N (g := tyc (tyc g (sg w 56)) (sg w 48)) (c := sg w 40)
  refine types_s C w 40 32 (by decide) (by decide) (by omega) ?_
  have n4 := tyc_N (g := tyc (tyc (tyc g (sg w 56)) (sg w 48)) (sg w 40)) (c := sg w 32)
  refine types_s C w 32 24 (by decide) (by decide) (by omega) ?_
  have n5 := tyc_N (g := tyc (tyc (tyc (tyc g (sg w 56)) (sg w 48)) (sg w 40)) (sg w 32)) (c := sg w 24)
  refine types_s C w 24 16 (by decide) (by decide) (by omega) ?_
  have n6 := tyc_N (g := tyc (tyc (tyc (tyc (tyc g (sg w 56)) (sg w 48)) (sg w 40)) (sg w 32)) (sg w 24)) (c := sg w 16)
  refine types_s C w 16 8 (by decide) (by decide) (by omega) ?_
  have n7 := tyc_N (g := tyc (tyc (tyc (tyc (tyc (tyc g (sg w 56)) (sg w 48)) (sg w 40)) (sg w 32)) (sg w 24)) (sg w 16)) (c := sg w 8)
  refine types_s C w 8 0 (by decide) (by decide) (by omega) ?_
  refine types_s C w 0 (-8) (by decide) (by decide) (by omega) ?_
  refine q_iload C dL_types_6 0 rfl ?_
  refine q_if_lt_t C 53 dL_types_8 (by decide) (by decide) ?_
  refine q_iload_n C dL_types_53 rfl 1 rfl ?_
  exact q_iret C hr rfl hI dL_types_54
