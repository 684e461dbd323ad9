/-! WHAT IS SEEN (written by wip/p28/tools/mk_r2.py) -/
def cV (s : Row) : Nat → Int32
  | 0 => s 0
  | 1 => s 1
  | 2 => nI (hdN s)
  | 3 => s 2
  | 4 => nI (drN s)
  | 5 => nI (prN s 1 0 (nh s * nh s))
  | 6 => nI (prN s 2 0 (nh s * nh s))
  | 7 => nI (cntN (rgB s) 0 (nh s))
  | 8 => s 3
  | 9 => s 4
  | 10 => s 5
  | _ => 0
theorem f_count {g : Gh} {k : Nat} (hk : k < 11) : StG (f_X7_count (nI k)) g (cV g.1 k) g := stG_of (fun M G C => st_count G C (nI k)) (congrArg (fun z => (z, g)) (by
  unfold rCount
  rcases (show k = 0 ∨ k = 1 ∨ k = 2 ∨ k = 3 ∨ k = 4 ∨ k = 5 ∨ k = 6 ∨ k = 7 ∨ k = 8 ∨ k = 9 ∨ k = 10 by omega) with rfl | rfl | rfl | rfl | rfl | rfl | rfl | rfl | rfl | rfl | rfl
  · rw [if_pos (by decide)]; rfl
  · rw [if_neg (by decide), if_pos (by decide)]; rfl
  · rw [if_neg (by decide), if_neg (by decide), if_pos (by decide)]; rfl
  · rw [if_neg (by decide), if_neg (by decide), if_neg (by decide), if_pos (by decide)]; rfl
  · rw [if_neg (by decide), if_neg (by decide), if_neg (by decide), if_neg (by decide), if_pos (by decide)]; rfl
  · rw [if_neg (by decide), if_neg (by decide), if_neg (by decide), if_neg (by decide), if_neg (by decide), if_pos (by decide)]; rfl
  · rw [if_neg (by decide), if_neg (by decide), if_neg (by decide), if_neg (by decide), if_neg (by decide), if_neg (by decide), if_pos (by decide)]; rfl
  · rw [if_neg (by decide), if_neg (by decide), if_neg (by decide), if_neg (by decide), if_neg (by decide), if_neg (by decide), if_neg (by decide), if_pos (by decide)]; rfl
  · rw [if_neg (by decide), if_neg (by decide), if_neg (by decide), if_neg (by decide), if_neg (by decide), if_neg (by decide), if_neg (by decide), if_neg (by decide), if_pos (by decide)]; rfl
  · rw [if_neg (by decide), if_neg (by decide), if_neg (by decide), if_neg (by decide), if_neg (by decide), if_neg (by decide), if_neg (by decide), if_neg (by decide), if_neg (by decide), if_pos (by decide)]; rfl
  · rw [if_neg (by decide), if_neg (by decide), if_neg (by decide), if_neg (by decide), if_neg (by decide), if_neg (by decide), if_neg (by decide), if_neg (by decide), if_neg (by decide), if_neg (by decide), if_pos (by decide)]; rfl))
def foldS (f : Nat → Int32) : Nat → Nat → Int64 → Int64
  | _, 0, h => h
  | i, d + 1, h => foldS f (i + 1) d (31 * h + (f i).toInt64)
def sFl (s : Row) (k : Nat) : Int32 := rFlat s (nI k / 5) (nI k - nI k / 5 * 5)
def sHo (s : Row) (k : Nat) : Int32 := rHouse s (nI k / 10) (nI k - nI k / 10 * 10)
def sWi (s : Row) (k : Nat) : Int32 := rWished s (nI k / 6) (nI k - nI k / 6 * 6)
noncomputable def seenV (s : Row) : Int64 := 31 * foldS (sWi s) 0 (6 * nh s) (foldS (sHo s) 0 (10 * nh s) (foldS (sFl s) 0 (5 * nf s) (foldS (cV s) 0 11 7))) + (nI (moN s)).toInt64
theorem f_most {g : Gh} : StG f_X7_most g (nI (moN g.1)) g := stG_of (fun M G C => st_most G C) rfl
section SE
variable {p : Program} {l : Launch} {e : Env} {s : State} {m : MethodId} {args : Array Value} {below : List Frame} {meth : Method} {c : Code} {D : va_G} {cs : Nat → ClassId} {ad : Nat → Nat} {Q : State → Prop} {g : Gh}
theorem seen_1 (C : CQ p s m args meth c cL_seen 4 D cs) : ∀ (d i : Nat) (h : Int64), i + d = 11 → VX p l e (rmk 5) s m args below meth c 4 D (AD ad) 0 0 Q (gW cs ad g []) 31 [(3, .int (nI 11)), (1, .long (foldS (cV g.1) i d h)), (0, .ref (ad 0))] [] → VX p l e (rmk 5) s m args below meth c 4 D (AD ad) 0 0 Q (gW cs ad g []) 6 [(3, .int (nI i)), (1, .long h), (0, .ref (ad 0))] [] := by
  intro d
  induction d with
  | zero =>
    intro i h hi k
    have e1 : i = 11 := by omega
    subst e1
    refine q_iload_n C dL_seen_6 rfl 0 rfl ?_
    refine q_bipush (v := (11 : Int32)) C dL_seen_7 (by decide) ?_
    exact q_icmp_ge_t C 31 dL_seen_9 (by decide) (by decide) k
  | succ d ih =>
    intro i h hi k
    refine q_iload_n C dL_seen_6 rfl 0 rfl ?_
    refine q_bipush (v := (11 : Int32)) C dL_seen_7 (by decide) ?_
    refine q_icmp_ge_f C 31 dL_seen_9 (by decide) (fun q => absurd ((nIle (a := 11) (b := i) (by omega) (by omega)).mp q) (by omega)) ?_
    refine q_ldc2 (v := (31 : Int64)) C qK_11 dL_seen_12 ?_
    refine q_lload_n C dL_seen_15 rfl 1 rfl ?_
    refine q_lmul C dL_seen_16 ?_
    refine q_aload_n C dL_seen_17 rfl 2 rfl ?_
    refine q_iload_n C dL_seen_18 rfl 0 rfl ?_
    refine o_count C (f_count (by omega)) ⟨Nat.le_of_ble_eq_true rfl, Nat.le_of_ble_eq_true rfl⟩ ⟨Nat.le_of_ble_eq_true rfl, Nat.le_of_ble_eq_true rfl⟩ (Nat.le_of_ble_eq_true rfl) dL_seen_19 ?_
    refine q_i2l C dL_seen_22 ?_
    refine q_ladd C dL_seen_23 ?_
    refine q_lstore_n C dL_seen_24 rfl (by decide) rfl ?_
    refine q_iinc (v := nI (i + 1)) C dL_seen_25 1 rfl (nI_1 i) (by decide) rfl ?_
    refine q_goto (tgt := 6) C dL_seen_28 (by decide) ?_
    exact ih (i + 1) _ (by omega) k
theorem seen_2 (C : CQ p s m args meth c cL_seen 4 D cs) (G : GO g) : ∀ (d i : Nat) (h : Int64), i + d = 5 * (nf g.1) → VX p l e (rmk 5) s m args below meth c 4 D (AD ad) 0 0 Q (gW cs ad g []) 68 [(3, .int (nI (5 * (nf g.1)))), (1, .long (foldS (sFl g.1) i d h)), (0, .ref (ad 0))] [] → VX p l e (rmk 5) s m args below meth c 4 D (AD ad) 0 0 Q (gW cs ad g []) 33 [(3, .int (nI i)), (1, .long h), (0, .ref (ad 0))] [] := by
  have b0 := G.1.1.h0l
  have b1 := G.1.1.h1l
  intro d
  induction d with
  | zero =>
    intro i h hi k
    have e1 : i = 5 * (nf g.1) := by omega
    subst e1
    refine q_iload_n C dL_seen_33 rfl 0 rfl ?_
    refine q_iconst (v := (5 : Int32)) C dL_seen_34 (by decide) ?_
    refine q_aload_n C dL_seen_35 rfl 2 rfl ?_
    refine q_iconst (v := (0 : Int32)) C dL_seen_36 (by decide) ?_
    refine o_count C (f_count_0 G) ⟨Nat.le_of_ble_eq_true rfl, Nat.le_of_ble_eq_true rfl⟩ ⟨Nat.le_of_ble_eq_true rfl, Nat.le_of_ble_eq_true rfl⟩ (Nat.le_of_ble_eq_true rfl) dL_seen_37 ?_
    refine q_imul_v (v := nI (5 * (nf g.1))) C dL_seen_40 (by rw [show (5 : Int32) = nI 5 from rfl, pk_mul]) ?_
    exact q_icmp_ge_t C 68 dL_seen_41 (by decide) ((nIle (by omega) (by omega)).mpr (Nat.le_refl _)) k
  | succ d ih =>
    intro i h hi k
    refine q_iload_n C dL_seen_33 rfl 0 rfl ?_
    refine q_iconst (v := (5 : Int32)) C dL_seen_34 (by decide) ?_
    refine q_aload_n C dL_seen_35 rfl 2 rfl ?_
    refine q_iconst (v := (0 : Int32)) C dL_seen_36 (by decide) ?_
    refine o_count C (f_count_0 G) ⟨Nat.le_of_ble_eq_true rfl, Nat.le_of_ble_eq_true rfl⟩ ⟨Nat.le_of_ble_eq_true rfl, Nat.le_of_ble_eq_true rfl⟩ (Nat.le_of_ble_eq_true rfl) dL_seen_37 ?_
    refine q_imul_v (v := nI (5 * (nf g.1))) C dL_seen_40 (by rw [show (5 : Int32) = nI 5 from rfl, pk_mul]) ?_
    refine q_icmp_ge_f C 68 dL_seen_41 (by decide) (fun q => absurd ((nIle (by omega) (by omega)).mp q) (by omega)) ?_
    refine q_ldc2 (v := (31 : Int64)) C qK_11 dL_seen_44 ?_
    refine q_lload_n C dL_seen_47 rfl 1 rfl ?_
    refine q_lmul C dL_seen_48 ?_
    refine q_aload_n C dL_seen_49 rfl 2 rfl ?_
    refine q_iload_n C dL_seen_50 rfl 0 rfl ?_
    refine q_iconst (v := (5 : Int32)) C dL_seen_51 (by decide) ?_
    refine q_idiv C dL_seen_52 (by decide) ?_
    refine q_iload_n C dL_seen_53 rfl 0 rfl ?_
    refine q_iconst (v := (5 : Int32)) C dL_seen_54 (by decide) ?_
    refine q_irem C dL_seen_55 (by decide) ?_
    refine o_flat C (stG_of (r := sFl g.1 i) (fun M G C => st_flat G C (nI i / 5) (nI i - nI i / 5 * 5)) rfl) ⟨Nat.le_of_ble_eq_true rfl, Nat.le_of_ble_eq_true rfl⟩ ⟨Nat.le_of_ble_eq_true rfl, Nat.le_of_ble_eq_true rfl⟩ (Nat.le_of_ble_eq_true rfl) dL_seen_56 ?_
    refine q_i2l C dL_seen_59 ?_
    refine q_ladd C dL_seen_60 ?_
    refine q_lstore_n C dL_seen_61 rfl (by decide) rfl ?_
    refine q_iinc (v := nI (i + 1)) C dL_seen_62 1 rfl (nI_1 i) (by decide) rfl ?_
    refine q_goto (tgt := 33) C dL_seen_65 (by decide) ?_
    exact ih (i + 1) _ (by omega) k
theorem seen_3 (C : CQ p s m args meth c cL_seen 4 D cs) (G : GO g) : ∀ (d i : Nat) (h : Int64), i + d = 10 * (nh g.1) → VX p l e (rmk 5) s m args below meth c 4 D (AD ad) 0 0 Q (gW cs ad g []) 108 [(3, .int (nI (10 * (nh g.1)))), (1, .long (foldS (sHo g.1) i d h)), (0, .ref (ad 0))] [] → VX p l e (rmk 5) s m args below meth c 4 D (AD ad) 0 0 Q (gW cs ad g []) 70 [(3, .int (nI i)), (1, .long h), (0, .ref (ad 0))] [] := by
  have b0 := G.1.1.h0l
  have b1 := G.1.1.h1l
  intro d
  induction d with
  | zero =>
    intro i h hi k
    have e1 : i = 10 * (nh g.1) := by omega
    subst e1
    refine q_iload_n C dL_seen_70 rfl 0 rfl ?_
    refine q_bipush (v := (10 : Int32)) C dL_seen_71 (by decide) ?_
    refine q_aload_n C dL_seen_73 rfl 2 rfl ?_
    refine q_iconst (v := (1 : Int32)) C dL_seen_74 (by decide) ?_
    refine o_count C (f_count_1 G) ⟨Nat.le_of_ble_eq_true rfl, Nat.le_of_ble_eq_true rfl⟩ ⟨Nat.le_of_ble_eq_true rfl, Nat.le_of_ble_eq_true rfl⟩ (Nat.le_of_ble_eq_true rfl) dL_seen_75 ?_
    refine q_imul_v (v := nI (10 * (nh g.1))) C dL_seen_78 (by rw [show (10 : Int32) = nI 10 from rfl, pk_mul]) ?_
    exact q_icmp_ge_t C 108 dL_seen_79 (by decide) ((nIle (by omega) (by omega)).mpr (Nat.le_refl _)) k
  | succ d ih =>
    intro i h hi k
    refine q_iload_n C dL_seen_70 rfl 0 rfl ?_
    refine q_bipush (v := (10 : Int32)) C dL_seen_71 (by decide) ?_
    refine q_aload_n C dL_seen_73 rfl 2 rfl ?_
    refine q_iconst (v := (1 : Int32)) C dL_seen_74 (by decide) ?_
    refine o_count C (f_count_1 G) ⟨Nat.le_of_ble_eq_true rfl, Nat.le_of_ble_eq_true rfl⟩ ⟨Nat.le_of_ble_eq_true rfl, Nat.le_of_ble_eq_true rfl⟩ (Nat.le_of_ble_eq_true rfl) dL_seen_75 ?_
    refine q_imul_v (v := nI (10 * (nh g.1))) C dL_seen_78 (by rw [show (10 : Int32) = nI 10 from rfl, pk_mul]) ?_
    refine q_icmp_ge_f C 108 dL_seen_79 (by decide) (fun q => absurd ((nIle (by omega) (by omega)).mp q) (by omega)) ?_
    refine q_ldc2 (v := (31 : Int64)) C qK_11 dL_seen_82 ?_
    refine q_lload_n C dL_seen_85 rfl 1 rfl ?_
    refine q_lmul C dL_seen_86 ?_
    refine q_aload_n C dL_seen_87 rfl 2 rfl ?_
    refine q_iload_n C dL_seen_88 rfl 0 rfl ?_
    refine q_bipush (v := (10 : Int32)) C dL_seen_89 (by decide) ?_
    refine q_idiv C dL_seen_91 (by decide) ?_
    refine q_iload_n C dL_seen_92 rfl 0 rfl ?_
    refine q_bipush (v := (10 : Int32)) C dL_seen_93 (by decide) ?_
    refine q_irem C dL_seen_95 (by decide) ?_
    refine o_household C (stG_of (r := sHo g.1 i) (fun M G C => st_household G C (nI i / 10) (nI i - nI i / 10 * 10)) rfl) ⟨Nat.le_of_ble_eq_true rfl, Nat.le_of_ble_eq_true rfl⟩ ⟨Nat.le_of_ble_eq_true rfl, Nat.le_of_ble_eq_true rfl⟩ (Nat.le_of_ble_eq_true rfl) dL_seen_96 ?_
    refine q_i2l C dL_seen_99 ?_
    refine q_ladd C dL_seen_100 ?_
    refine q_lstore_n C dL_seen_101 rfl (by decide) rfl ?_
    refine q_iinc (v := nI (i + 1)) C dL_seen_102 1 rfl (nI_1 i) (by decide) rfl ?_
    refine q_goto (tgt := 70) C dL_seen_105 (by decide) ?_
    exact ih (i + 1) _ (by omega) k
theorem seen_4 (C : CQ p s m args meth c cL_seen 4 D cs) (G : GO g) : ∀ (d i : Nat) (h : Int64), i + d = 6 * (nh g.1) → VX p l e (rmk 5) s m args below meth c 4 D (AD ad) 0 0 Q (gW cs ad g []) 148 [(3, .int (nI (6 * (nh g.1)))), (1, .long (foldS (sWi g.1) i d h)), (0, .ref (ad 0))] [] → VX p l e (rmk 5) s m args below meth c 4 D (AD ad) 0 0 Q (gW cs ad g []) 110 [(3, .int (nI i)), (1, .long h), (0, .ref (ad 0))] [] := by
  have b0 := G.1.1.h0l
  have b1 := G.1.1.h1l
  intro d
  induction d with
  | zero =>
    intro i h hi k
    have e1 : i = 6 * (nh g.1) := by omega
    subst e1
    refine q_iload_n C dL_seen_110 rfl 0 rfl ?_
    refine q_bipush (v := (6 : Int32)) C dL_seen_111 (by decide) ?_
    refine q_aload_n C dL_seen_113 rfl 2 rfl ?_
    refine q_iconst (v := (1 : Int32)) C dL_seen_114 (by decide) ?_
    refine o_count C (f_count_1 G) ⟨Nat.le_of_ble_eq_true rfl, Nat.le_of_ble_eq_true rfl⟩ ⟨Nat.le_of_ble_eq_true rfl, Nat.le_of_ble_eq_true rfl⟩ (Nat.le_of_ble_eq_true rfl) dL_seen_115 ?_
    refine q_imul_v (v := nI (6 * (nh g.1))) C dL_seen_118 (by rw [show (6 : Int32) = nI 6 from rfl, pk_mul]) ?_
    exact q_icmp_ge_t C 148 dL_seen_119 (by decide) ((nIle (by omega) (by omega)).mpr (Nat.le_refl _)) k
  | succ d ih =>
    intro i h hi k
    refine q_iload_n C dL_seen_110 rfl 0 rfl ?_
    refine q_bipush (v := (6 : Int32)) C dL_seen_111 (by decide) ?_
    refine q_aload_n C dL_seen_113 rfl 2 rfl ?_
    refine q_iconst (v := (1 : Int32)) C dL_seen_114 (by decide) ?_
    refine o_count C (f_count_1 G) ⟨Nat.le_of_ble_eq_true rfl, Nat.le_of_ble_eq_true rfl⟩ ⟨Nat.le_of_ble_eq_true rfl, Nat.le_of_ble_eq_true rfl⟩ (Nat.le_of_ble_eq_true rfl) dL_seen_115 ?_
    refine q_imul_v (v := nI (6 * (nh g.1))) C dL_seen_118 (by rw [show (6 : Int32) = nI 6 from rfl, pk_mul]) ?_
    refine q_icmp_ge_f C 148 dL_seen_119 (by decide) (fun q => absurd ((nIle (by omega) (by omega)).mp q) (by omega)) ?_
    refine q_ldc2 (v := (31 : Int64)) C qK_11 dL_seen_122 ?_
    refine q_lload_n C dL_seen_125 rfl 1 rfl ?_
    refine q_lmul C dL_seen_126 ?_
    refine q_aload_n C dL_seen_127 rfl 2 rfl ?_
    refine q_iload_n C dL_seen_128 rfl 0 rfl ?_
    refine q_bipush (v := (6 : Int32)) C dL_seen_129 (by decide) ?_
    refine q_idiv C dL_seen_131 (by decide) ?_
    refine q_iload_n C dL_seen_132 rfl 0 rfl ?_
    refine q_bipush (v := (6 : Int32)) C dL_seen_133 (by decide) ?_
    refine q_irem C dL_seen_135 (by decide) ?_
    refine o_wished C (stG_of (r := sWi g.1 i) (fun M G C => st_wished G C (nI i / 6) (nI i - nI i / 6 * 6)) rfl) ⟨Nat.le_of_ble_eq_true rfl, Nat.le_of_ble_eq_true rfl⟩ ⟨Nat.le_of_ble_eq_true rfl, Nat.le_of_ble_eq_true rfl⟩ (Nat.le_of_ble_eq_true rfl) dL_seen_136 ?_
    refine q_i2l C dL_seen_139 ?_
    refine q_ladd C dL_seen_140 ?_
    refine q_lstore_n C dL_seen_141 rfl (by decide) rfl ?_
    refine q_iinc (v := nI (i + 1)) C dL_seen_142 1 rfl (nI_1 i) (by decide) rfl ?_
    refine q_goto (tgt := 110) C dL_seen_145 (by decide) ?_
    exact ih (i + 1) _ (by omega) k
end SE
set_option maxHeartbeats 2000000 in
theorem c_seen {g : Gh} (G : GO g) : CmL yL_seen wq_seen 5 (fun ad => [.ref (ad 0)]) g (seenV g.1) g := by
  refine q_metL (cc := cL_seen) (maxL := 4) (ret := .long) rfl (by decide) rfl (fun _ => Nat.le_of_ble_eq_true rfl) (fun p l e s m args below meth c D cs ad C hr hI => ?_)
  show VX p l e (rmk 5) s m args below meth c 4 D (AD ad) 0 0 _ (gW cs ad g []) 0 [(0, .ref (ad 0))] []
  refine q_ldc2 (v := (7 : Int64)) C qK_9 dL_seen_0 ?_
  refine q_lstore_n C dL_seen_3 rfl (by decide) rfl ?_
  refine q_iconst (v := (0 : Int32)) C dL_seen_4 (by decide) ?_
  refine q_istore_n C dL_seen_5 rfl (by decide) rfl ?_
  refine seen_1 C 11 0 7 rfl ?_
  refine q_iconst (v := (0 : Int32)) C dL_seen_31 (by decide) ?_
  refine q_istore_n C dL_seen_32 rfl (by decide) rfl ?_
  refine seen_2 C G (5 * nf g.1) 0 _ (by omega) ?_
  refine q_iconst (v := (0 : Int32)) C dL_seen_68 (by decide) ?_
  refine q_istore_n C dL_seen_69 rfl (by decide) rfl ?_
  refine seen_3 C G (10 * nh g.1) 0 _ (by omega) ?_
  refine q_iconst (v := (0 : Int32)) C dL_seen_108 (by decide) ?_
  refine q_istore_n C dL_seen_109 rfl (by decide) rfl ?_
  refine seen_4 C G (6 * nh g.1) 0 _ (by omega) ?_
  refine q_ldc2 (v := (31 : Int64)) C qK_11 dL_seen_148 ?_
  refine q_lload_n C dL_seen_151 rfl 1 rfl ?_
  refine q_lmul C dL_seen_152 ?_
  refine q_aload_n C dL_seen_153 rfl 2 rfl ?_
  refine o_most C f_most ⟨Nat.le_of_ble_eq_true rfl, Nat.le_of_ble_eq_true rfl⟩ ⟨Nat.le_of_ble_eq_true rfl, Nat.le_of_ble_eq_true rfl⟩ (Nat.le_of_ble_eq_true rfl) dL_seen_154 ?_
  refine q_i2l C dL_seen_157 ?_
  refine q_ladd C dL_seen_158 ?_
  exact q_lret C hr hI dL_seen_159
