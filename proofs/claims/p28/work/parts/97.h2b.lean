/-! homes: the walk (written by wip/p28/tools/mk_h.py) -/
set_option maxHeartbeats 8000000 in
theorem homes_4 {p : Program} {l : Launch} {e : Env} {s : State} {m : MethodId} {args : Array Value} {below : List Frame} {meth : Method} {c : Code} {D : va_G} {cs : Nat → ClassId} {Q : State → Prop} {ad : Nat → Nat} (C : CQ p s m args meth c cL_homes 3 D cs) (next : VX p l e (rmC 8 510 3524) s m args below meth c 3 D (fun q => s.heap.size ≤ q) 255 1762 Q (gW cs ad hg29 []) 993 [(0, .ref (ad 0))] []) : VX p l e (rmC 8 510 3524) s m args below meth c 3 D (fun q => s.heap.size ≤ q) 255 1762 Q (gW cs ad hg26 []) 881 [(0, .ref (ad 0))] [] := by
  refine q_aload_n C dL_homes_881 rfl 0 rfl ?_
  refine q_iconst (v := (2 : Int32)) C dL_homes_882 (by decide) ?_
  refine q_bipush (v := (8 : Int32)) C dL_homes_883 (by decide) ?_
  refine o_household C hs83 ⟨Nat.le_of_ble_eq_true rfl, Nat.le_of_ble_eq_true rfl⟩ ⟨Nat.le_of_ble_eq_true rfl, Nat.le_of_ble_eq_true rfl⟩ (Nat.le_of_ble_eq_true rfl) dL_homes_885 ?_
  refine q_if_ne_f C 991 dL_homes_888 (by decide) (by decide) ?_
  refine q_aload_n C dL_homes_891 rfl 0 rfl ?_
  refine q_bipush (v := (7 : Int32)) C dL_homes_892 (by decide) ?_
  refine o_count C hs84 ⟨Nat.le_of_ble_eq_true rfl, Nat.le_of_ble_eq_true rfl⟩ ⟨Nat.le_of_ble_eq_true rfl, Nat.le_of_ble_eq_true rfl⟩ (Nat.le_of_ble_eq_true rfl) dL_homes_894 ?_
  refine q_iconst (v := (2 : Int32)) C dL_homes_897 (by decide) ?_
  refine q_icmp_ne_f C 991 dL_homes_898 (by decide) (by decide) ?_
  refine q_aload_n C dL_homes_901 rfl 0 rfl ?_
  refine o_swap C hs85 ⟨Nat.le_of_ble_eq_true rfl, Nat.le_of_ble_eq_true rfl⟩ ⟨Nat.le_of_ble_eq_true rfl, Nat.le_of_ble_eq_true rfl⟩ (Nat.le_of_ble_eq_true rfl) dL_homes_902 ?_
  refine q_iconst (v := (2 : Int32)) C dL_homes_905 (by decide) ?_
  refine q_icmp_ne_f C 991 dL_homes_906 (by decide) (by decide) ?_
  refine q_aload_n C dL_homes_909 rfl 0 rfl ?_
  refine q_iconst (v := (0 : Int32)) C dL_homes_910 (by decide) ?_
  refine q_iconst (v := (4 : Int32)) C dL_homes_911 (by decide) ?_
  refine o_household C hs86 ⟨Nat.le_of_ble_eq_true rfl, Nat.le_of_ble_eq_true rfl⟩ ⟨Nat.le_of_ble_eq_true rfl, Nat.le_of_ble_eq_true rfl⟩ (Nat.le_of_ble_eq_true rfl) dL_homes_912 ?_
  refine q_if_ne_f C 991 dL_homes_915 (by decide) (by decide) ?_
  refine q_aload_n C dL_homes_918 rfl 0 rfl ?_
  refine q_iconst (v := (2 : Int32)) C dL_homes_919 (by decide) ?_
  refine q_iconst (v := (4 : Int32)) C dL_homes_920 (by decide) ?_
  refine o_household C hs87 ⟨Nat.le_of_ble_eq_true rfl, Nat.le_of_ble_eq_true rfl⟩ ⟨Nat.le_of_ble_eq_true rfl, Nat.le_of_ble_eq_true rfl⟩ (Nat.le_of_ble_eq_true rfl) dL_homes_921 ?_
  refine q_iconst (v := (1 : Int32)) C dL_homes_924 (by decide) ?_
  refine q_icmp_ne_f C 991 dL_homes_925 (by decide) (by decide) ?_
  refine q_aload_n C dL_homes_928 rfl 0 rfl ?_
  refine q_bipush (v := (7 : Int32)) C dL_homes_929 (by decide) ?_
  refine o_count C hs88 ⟨Nat.le_of_ble_eq_true rfl, Nat.le_of_ble_eq_true rfl⟩ ⟨Nat.le_of_ble_eq_true rfl, Nat.le_of_ble_eq_true rfl⟩ (Nat.le_of_ble_eq_true rfl) dL_homes_931 ?_
  refine q_if_ne_f C 991 dL_homes_934 (by decide) (by decide) ?_
  refine q_aload_n C dL_homes_937 rfl 0 rfl ?_
  refine q_iconst (v := (0 : Int32)) C dL_homes_938 (by decide) ?_
  refine o_moveOut C hs89 ⟨Nat.le_of_ble_eq_true rfl, Nat.le_of_ble_eq_true rfl⟩ ⟨Nat.le_of_ble_eq_true rfl, Nat.le_of_ble_eq_true rfl⟩ (Nat.le_of_ble_eq_true rfl) dL_homes_939 ?_
  refine q_if_ne_f C 991 dL_homes_942 (by decide) (by decide) ?_
  refine q_aload_n C dL_homes_945 rfl 0 rfl ?_
  refine q_iconst (v := (0 : Int32)) C dL_homes_946 (by decide) ?_
  refine o_moveOut C hs90 ⟨Nat.le_of_ble_eq_true rfl, Nat.le_of_ble_eq_true rfl⟩ ⟨Nat.le_of_ble_eq_true rfl, Nat.le_of_ble_eq_true rfl⟩ (Nat.le_of_ble_eq_true rfl) dL_homes_947 ?_
  refine q_bipush (v := (-5 : Int32)) C dL_homes_950 (by decide) ?_
  refine q_icmp_ne_f C 991 dL_homes_952 (by decide) (by decide) ?_
  refine q_aload_n C dL_homes_955 rfl 0 rfl ?_
  refine q_iconst (v := (0 : Int32)) C dL_homes_956 (by decide) ?_
  refine o_decline C hs91 ⟨Nat.le_of_ble_eq_true rfl, Nat.le_of_ble_eq_true rfl⟩ ⟨Nat.le_of_ble_eq_true rfl, Nat.le_of_ble_eq_true rfl⟩ (Nat.le_of_ble_eq_true rfl) dL_homes_957 ?_
  refine q_bipush (v := (-4 : Int32)) C dL_homes_960 (by decide) ?_
  refine q_icmp_ne_f C 991 dL_homes_962 (by decide) (by decide) ?_
  refine q_aload_n C dL_homes_965 rfl 0 rfl ?_
  refine q_iconst (v := (2 : Int32)) C dL_homes_966 (by decide) ?_
  refine o_decline C hs92 ⟨Nat.le_of_ble_eq_true rfl, Nat.le_of_ble_eq_true rfl⟩ ⟨Nat.le_of_ble_eq_true rfl, Nat.le_of_ble_eq_true rfl⟩ (Nat.le_of_ble_eq_true rfl) dL_homes_967 ?_
  refine q_iconst (v := (1 : Int32)) C dL_homes_970 (by decide) ?_
  refine q_icmp_ne_f C 991 dL_homes_971 (by decide) (by decide) ?_
  refine q_aload_n C dL_homes_974 rfl 0 rfl ?_
  refine q_iconst (v := (2 : Int32)) C dL_homes_975 (by decide) ?_
  refine q_iconst (v := (5 : Int32)) C dL_homes_976 (by decide) ?_
  refine o_household C hs93 ⟨Nat.le_of_ble_eq_true rfl, Nat.le_of_ble_eq_true rfl⟩ ⟨Nat.le_of_ble_eq_true rfl, Nat.le_of_ble_eq_true rfl⟩ (Nat.le_of_ble_eq_true rfl) dL_homes_977 ?_
  refine q_iconst (v := (1 : Int32)) C dL_homes_980 (by decide) ?_
  refine q_icmp_ne_f C 991 dL_homes_981 (by decide) (by decide) ?_
  refine q_aload_n C dL_homes_984 rfl 0 rfl ?_
  refine q_go (fun G => ?_)
  refine q_callSI (n := 1) (As := [.ref (ad 0)]) (maxL := 4) (ret := some .boolean) C (c_refused (g := hg29) G (by decide +kernel) (by decide +kernel) (by decide +kernel)) qG_Lrefused rfl (by decide +kernel) ⟨Nat.le_of_ble_eq_true rfl, Nat.le_of_ble_eq_true rfl⟩ ⟨Nat.le_of_ble_eq_true rfl, Nat.le_of_ble_eq_true rfl⟩ rfl rfl rfl (Nat.le_of_ble_eq_true rfl) dL_homes_985 ?_
  refine q_if_ne_t C 993 dL_homes_988 (by decide) (by decide) ?_
  exact next
set_option maxHeartbeats 8000000 in
theorem homes_5 {p : Program} {l : Launch} {e : Env} {s : State} {m : MethodId} {args : Array Value} {below : List Frame} {meth : Method} {c : Code} {D : va_G} {cs : Nat → ClassId} {Q : State → Prop} {ad : Nat → Nat} {x0 : Nat} (C : CQ p s m args meth c cL_homes 3 D cs) (next : VX p l e (rmC 8 510 3524) s m args below meth c 3 D (fun q => s.heap.size ≤ q) 510 3524 Q (gW cs ad hg38 []) 1046 [(2, .int (3 : Int32)), (1, .ref (ad 0)), (0, .ref x0)] []) : VX p l e (rmC 8 510 3524) s m args below meth c 3 D (fun q => s.heap.size ≤ q) 510 3524 Q (gW cs ad hg30 []) 1001 [(1, .ref (ad 0)), (0, .ref x0)] [] := by
  refine q_iconst (v := (0 : Int32)) C dL_homes_1001 (by decide) ?_
  refine q_istore_n C dL_homes_1002 rfl (by decide) rfl ?_
  refine q_iload_n C dL_homes_1003 rfl 0 rfl ?_
  refine q_bipush (v := (12 : Int32)) C dL_homes_1004 (by decide) ?_
  refine q_icmp_ge_f C 1052 dL_homes_1006 (by decide) (by decide) ?_
  refine q_aload_n C dL_homes_1009 rfl 1 rfl ?_
  refine q_iconst (v := (1 : Int32)) C dL_homes_1010 (by decide) ?_
  refine q_iload_n C dL_homes_1011 rfl 0 rfl ?_
  refine q_iconst (v := (5 : Int32)) C dL_homes_1012 (by decide) ?_
  refine q_irem_v (v := (0 : Int32)) C dL_homes_1013 (by decide) (by decide) ?_
  refine q_iadd_v (v := (1 : Int32)) C dL_homes_1014 (by decide) ?_
  refine q_iconst (v := (1 : Int32)) C dL_homes_1015 (by decide) ?_
  refine q_iload_n C dL_homes_1016 rfl 0 rfl ?_
  refine q_iadd_v (v := (1 : Int32)) C dL_homes_1017 (by decide) ?_
  refine o_addFlat C hs94 ⟨Nat.le_of_ble_eq_true rfl, Nat.le_of_ble_eq_true rfl⟩ ⟨Nat.le_of_ble_eq_true rfl, Nat.le_of_ble_eq_true rfl⟩ (Nat.le_of_ble_eq_true rfl) dL_homes_1018 ?_
  refine q_iload_n C dL_homes_1021 rfl 0 rfl ?_
  refine q_icmp_ne_f C 1044 dL_homes_1022 (by decide) (by decide) ?_
  refine q_aload_n C dL_homes_1025 rfl 1 rfl ?_
  refine q_iconst (v := (1 : Int32)) C dL_homes_1026 (by decide) ?_
  refine q_iload_n C dL_homes_1027 rfl 0 rfl ?_
  refine q_bipush (v := (9 : Int32)) C dL_homes_1028 (by decide) ?_
  refine q_irem_v (v := (0 : Int32)) C dL_homes_1030 (by decide) (by decide) ?_
  refine q_iadd_v (v := (1 : Int32)) C dL_homes_1031 (by decide) ?_
  refine q_iconst (v := (3 : Int32)) C dL_homes_1032 (by decide) ?_
  refine q_iload_n C dL_homes_1033 rfl 0 rfl ?_
  refine q_imul_v (v := (0 : Int32)) C dL_homes_1034 (by decide) ?_
  refine q_iconst (v := (3 : Int32)) C dL_homes_1035 (by decide) ?_
  refine q_iadd_v (v := (3 : Int32)) C dL_homes_1036 (by decide) ?_
  refine o_addHousehold C hs95 ⟨Nat.le_of_ble_eq_true rfl, Nat.le_of_ble_eq_true rfl⟩ ⟨Nat.le_of_ble_eq_true rfl, Nat.le_of_ble_eq_true rfl⟩ (Nat.le_of_ble_eq_true rfl) dL_homes_1037 ?_
  refine q_iload_n C dL_homes_1040 rfl 0 rfl ?_
  refine q_icmp_eq_t C 1046 dL_homes_1041 (by decide) (by decide) ?_
  refine q_iinc (v := (1 : Int32)) C dL_homes_1046 0 rfl (by decide) (by decide) rfl ?_
  refine q_goto (tgt := 1003) C dL_homes_1049 (by decide) ?_
  refine q_iload_n C dL_homes_1003 rfl 0 rfl ?_
  refine q_bipush (v := (12 : Int32)) C dL_homes_1004 (by decide) ?_
  refine q_icmp_ge_f C 1052 dL_homes_1006 (by decide) (by decide) ?_
  refine q_aload_n C dL_homes_1009 rfl 1 rfl ?_
  refine q_iconst (v := (1 : Int32)) C dL_homes_1010 (by decide) ?_
  refine q_iload_n C dL_homes_1011 rfl 0 rfl ?_
  refine q_iconst (v := (5 : Int32)) C dL_homes_1012 (by decide) ?_
  refine q_irem_v (v := (1 : Int32)) C dL_homes_1013 (by decide) (by decide) ?_
  refine q_iadd_v (v := (2 : Int32)) C dL_homes_1014 (by decide) ?_
  refine q_iconst (v := (1 : Int32)) C dL_homes_1015 (by decide) ?_
  refine q_iload_n C dL_homes_1016 rfl 0 rfl ?_
  refine q_iadd_v (v := (2 : Int32)) C dL_homes_1017 (by decide) ?_
  refine o_addFlat C hs96 ⟨Nat.le_of_ble_eq_true rfl, Nat.le_of_ble_eq_true rfl⟩ ⟨Nat.le_of_ble_eq_true rfl, Nat.le_of_ble_eq_true rfl⟩ (Nat.le_of_ble_eq_true rfl) dL_homes_1018 ?_
  refine q_iload_n C dL_homes_1021 rfl 0 rfl ?_
  refine q_icmp_ne_f C 1044 dL_homes_1022 (by decide) (by decide) ?_
  refine q_aload_n C dL_homes_1025 rfl 1 rfl ?_
  refine q_iconst (v := (1 : Int32)) C dL_homes_1026 (by decide) ?_
  refine q_iload_n C dL_homes_1027 rfl 0 rfl ?_
  refine q_bipush (v := (9 : Int32)) C dL_homes_1028 (by decide) ?_
  refine q_irem_v (v := (1 : Int32)) C dL_homes_1030 (by decide) (by decide) ?_
  refine q_iadd_v (v := (2 : Int32)) C dL_homes_1031 (by decide) ?_
  refine q_iconst (v := (3 : Int32)) C dL_homes_1032 (by decide) ?_
  refine q_iload_n C dL_homes_1033 rfl 0 rfl ?_
  refine q_imul_v (v := (3 : Int32)) C dL_homes_1034 (by decide) ?_
  refine q_iconst (v := (3 : Int32)) C dL_homes_1035 (by decide) ?_
  refine q_iadd_v (v := (6 : Int32)) C dL_homes_1036 (by decide) ?_
  refine o_addHousehold C hs97 ⟨Nat.le_of_ble_eq_true rfl, Nat.le_of_ble_eq_true rfl⟩ ⟨Nat.le_of_ble_eq_true rfl, Nat.le_of_ble_eq_true rfl⟩ (Nat.le_of_ble_eq_true rfl) dL_homes_1037 ?_
  refine q_iload_n C dL_homes_1040 rfl 0 rfl ?_
  refine q_icmp_eq_t C 1046 dL_homes_1041 (by decide) (by decide) ?_
  refine q_iinc (v := (2 : Int32)) C dL_homes_1046 0 rfl (by decide) (by decide) rfl ?_
  refine q_goto (tgt := 1003) C dL_homes_1049 (by decide) ?_
  refine q_iload_n C dL_homes_1003 rfl 0 rfl ?_
  refine q_bipush (v := (12 : Int32)) C dL_homes_1004 (by decide) ?_
  refine q_icmp_ge_f C 1052 dL_homes_1006 (by decide) (by decide) ?_
  refine q_aload_n C dL_homes_1009 rfl 1 rfl ?_
  refine q_iconst (v := (1 : Int32)) C dL_homes_1010 (by decide) ?_
  refine q_iload_n C dL_homes_1011 rfl 0 rfl ?_
  refine q_iconst (v := (5 : Int32)) C dL_homes_1012 (by decide) ?_
  refine q_irem_v (v := (2 : Int32)) C dL_homes_1013 (by decide) (by decide) ?_
  refine q_iadd_v (v := (3 : Int32)) C dL_homes_1014 (by decide) ?_
  refine q_iconst (v := (1 : Int32)) C dL_homes_1015 (by decide) ?_
  refine q_iload_n C dL_homes_1016 rfl 0 rfl ?_
  refine q_iadd_v (v := (3 : Int32)) C dL_homes_1017 (by decide) ?_
  refine o_addFlat C hs98 ⟨Nat.le_of_ble_eq_true rfl, Nat.le_of_ble_eq_true rfl⟩ ⟨Nat.le_of_ble_eq_true rfl, Nat.le_of_ble_eq_true rfl⟩ (Nat.le_of_ble_eq_true rfl) dL_homes_1018 ?_
  refine q_iload_n C dL_homes_1021 rfl 0 rfl ?_
  refine q_icmp_ne_f C 1044 dL_homes_1022 (by decide) (by decide) ?_
  refine q_aload_n C dL_homes_1025 rfl 1 rfl ?_
  refine q_iconst (v := (1 : Int32)) C dL_homes_1026 (by decide) ?_
  refine q_iload_n C dL_homes_1027 rfl 0 rfl ?_
  refine q_bipush (v := (9 : Int32)) C dL_homes_1028 (by decide) ?_
  refine q_irem_v (v := (2 : Int32)) C dL_homes_1030 (by decide) (by decide) ?_
  refine q_iadd_v (v := (3 : Int32)) C dL_homes_1031 (by decide) ?_
  refine q_iconst (v := (3 : Int32)) C dL_homes_1032 (by decide) ?_
  refine q_iload_n C dL_homes_1033 rfl 0 rfl ?_
  refine q_imul_v (v := (6 : Int32)) C dL_homes_1034 (by decide) ?_
  refine q_iconst (v := (3 : Int32)) C dL_homes_1035 (by decide) ?_
  refine q_iadd_v (v := (9 : Int32)) C dL_homes_1036 (by decide) ?_
  refine o_addHousehold C hs99 ⟨Nat.le_of_ble_eq_true rfl, Nat.le_of_ble_eq_true rfl⟩ ⟨Nat.le_of_ble_eq_true rfl, Nat.le_of_ble_eq_true rfl⟩ (Nat.le_of_ble_eq_true rfl) dL_homes_1037 ?_
  refine q_iload_n C dL_homes_1040 rfl 0 rfl ?_
  refine q_icmp_eq_t C 1046 dL_homes_1041 (by decide) (by decide) ?_
  refine q_iinc (v := (3 : Int32)) C dL_homes_1046 0 rfl (by decide) (by decide) rfl ?_
  refine q_goto (tgt := 1003) C dL_homes_1049 (by decide) ?_
  refine q_iload_n C dL_homes_1003 rfl 0 rfl ?_
  refine q_bipush (v := (12 : Int32)) C dL_homes_1004 (by decide) ?_
  refine q_icmp_ge_f C 1052 dL_homes_1006 (by decide) (by decide) ?_
  refine q_aload_n C dL_homes_1009 rfl 1 rfl ?_
  refine q_iconst (v := (1 : Int32)) C dL_homes_1010 (by decide) ?_
  refine q_iload_n C dL_homes_1011 rfl 0 rfl ?_
  refine q_iconst (v := (5 : Int32)) C dL_homes_1012 (by decide) ?_
  refine q_irem_v (v := (3 : Int32)) C dL_homes_1013 (by decide) (by decide) ?_
  refine q_iadd_v (v := (4 : Int32)) C dL_homes_1014 (by decide) ?_
  refine q_iconst (v := (1 : Int32)) C dL_homes_1015 (by decide) ?_
  refine q_iload_n C dL_homes_1016 rfl 0 rfl ?_
  refine q_iadd_v (v := (4 : Int32)) C dL_homes_1017 (by decide) ?_
  refine o_addFlat C hs100 ⟨Nat.le_of_ble_eq_true rfl, Nat.le_of_ble_eq_true rfl⟩ ⟨Nat.le_of_ble_eq_true rfl, Nat.le_of_ble_eq_true rfl⟩ (Nat.le_of_ble_eq_true rfl) dL_homes_1018 ?_
  refine q_iload_n C dL_homes_1021 rfl 0 rfl ?_
  refine q_icmp_ne_f C 1044 dL_homes_1022 (by decide) (by decide) ?_
  refine q_aload_n C dL_homes_1025 rfl 1 rfl ?_
  refine q_iconst (v := (1 : Int32)) C dL_homes_1026 (by decide) ?_
  refine q_iload_n C dL_homes_1027 rfl 0 rfl ?_
  refine q_bipush (v := (9 : Int32)) C dL_homes_1028 (by decide) ?_
  refine q_irem_v (v := (3 : Int32)) C dL_homes_1030 (by decide) (by decide) ?_
  refine q_iadd_v (v := (4 : Int32)) C dL_homes_1031 (by decide) ?_
  refine q_iconst (v := (3 : Int32)) C dL_homes_1032 (by decide) ?_
  refine q_iload_n C dL_homes_1033 rfl 0 rfl ?_
  refine q_imul_v (v := (9 : Int32)) C dL_homes_1034 (by decide) ?_
  refine q_iconst (v := (3 : Int32)) C dL_homes_1035 (by decide) ?_
  refine q_iadd_v (v := (12 : Int32)) C dL_homes_1036 (by decide) ?_
  refine o_addHousehold C hs101 ⟨Nat.le_of_ble_eq_true rfl, Nat.le_of_ble_eq_true rfl⟩ ⟨Nat.le_of_ble_eq_true rfl, Nat.le_of_ble_eq_true rfl⟩ (Nat.le_of_ble_eq_true rfl) dL_homes_1037 ?_
  refine q_iload_n C dL_homes_1040 rfl 0 rfl ?_
  refine q_icmp_eq_t C 1046 dL_homes_1041 (by decide) (by decide) ?_
  exact next
set_option maxHeartbeats 8000000 in
theorem homes_6 {p : Program} {l : Launch} {e : Env} {s : State} {m : MethodId} {args : Array Value} {below : List Frame} {meth : Method} {c : Code} {D : va_G} {cs : Nat → ClassId} {Q : State → Prop} {ad : Nat → Nat} {x0 : Nat} (C : CQ p s m args meth c cL_homes 3 D cs) (next : VX p l e (rmC 8 510 3524) s m args below meth c 3 D (fun q => s.heap.size ≤ q) 510 3524 Q (gW cs ad hg46 []) 1046 [(2, .int (7 : Int32)), (1, .ref (ad 0)), (0, .ref x0)] []) : VX p l e (rmC 8 510 3524) s m args below meth c 3 D (fun q => s.heap.size ≤ q) 510 3524 Q (gW cs ad hg38 []) 1046 [(2, .int (3 : Int32)), (1, .ref (ad 0)), (0, .ref x0)] [] := by
  refine q_iinc (v := (4 : Int32)) C dL_homes_1046 0 rfl (by decide) (by decide) rfl ?_
  refine q_goto (tgt := 1003) C dL_homes_1049 (by decide) ?_
  refine q_iload_n C dL_homes_1003 rfl 0 rfl ?_
  refine q_bipush (v := (12 : Int32)) C dL_homes_1004 (by decide) ?_
  refine q_icmp_ge_f C 1052 dL_homes_1006 (by decide) (by decide) ?_
  refine q_aload_n C dL_homes_1009 rfl 1 rfl ?_
  refine q_iconst (v := (1 : Int32)) C dL_homes_1010 (by decide) ?_
  refine q_iload_n C dL_homes_1011 rfl 0 rfl ?_
  refine q_iconst (v := (5 : Int32)) C dL_homes_1012 (by decide) ?_
  refine q_irem_v (v := (4 : Int32)) C dL_homes_1013 (by decide) (by decide) ?_
  refine q_iadd_v (v := (5 : Int32)) C dL_homes_1014 (by decide) ?_
  refine q_iconst (v := (1 : Int32)) C dL_homes_1015 (by decide) ?_
  refine q_iload_n C dL_homes_1016 rfl 0 rfl ?_
  refine q_iadd_v (v := (5 : Int32)) C dL_homes_1017 (by decide) ?_
  refine o_addFlat C hs102 ⟨Nat.le_of_ble_eq_true rfl, Nat.le_of_ble_eq_true rfl⟩ ⟨Nat.le_of_ble_eq_true rfl, Nat.le_of_ble_eq_true rfl⟩ (Nat.le_of_ble_eq_true rfl) dL_homes_1018 ?_
  refine q_iload_n C dL_homes_1021 rfl 0 rfl ?_
  refine q_icmp_ne_f C 1044 dL_homes_1022 (by decide) (by decide) ?_
  refine q_aload_n C dL_homes_1025 rfl 1 rfl ?_
  refine q_iconst (v := (1 : Int32)) C dL_homes_1026 (by decide) ?_
  refine q_iload_n C dL_homes_1027 rfl 0 rfl ?_
  refine q_bipush (v := (9 : Int32)) C dL_homes_1028 (by decide) ?_
  refine q_irem_v (v := (4 : Int32)) C dL_homes_1030 (by decide) (by decide) ?_
  refine q_iadd_v (v := (5 : Int32)) C dL_homes_1031 (by decide) ?_
  refine q_iconst (v := (3 : Int32)) C dL_homes_1032 (by decide) ?_
  refine q_iload_n C dL_homes_1033 rfl 0 rfl ?_
  refine q_imul_v (v := (12 : Int32)) C dL_homes_1034 (by decide) ?_
  refine q_iconst (v := (3 : Int32)) C dL_homes_1035 (by decide) ?_
  refine q_iadd_v (v := (15 : Int32)) C dL_homes_1036 (by decide) ?_
  refine o_addHousehold C hs103 ⟨Nat.le_of_ble_eq_true rfl, Nat.le_of_ble_eq_true rfl⟩ ⟨Nat.le_of_ble_eq_true rfl, Nat.le_of_ble_eq_true rfl⟩ (Nat.le_of_ble_eq_true rfl) dL_homes_1037 ?_
  refine q_iload_n C dL_homes_1040 rfl 0 rfl ?_
  refine q_icmp_eq_t C 1046 dL_homes_1041 (by decide) (by decide) ?_
  refine q_iinc (v := (5 : Int32)) C dL_homes_1046 0 rfl (by decide) (by decide) rfl ?_
  refine q_goto (tgt := 1003) C dL_homes_1049 (by decide) ?_
  refine q_iload_n C dL_homes_1003 rfl 0 rfl ?_
  refine q_bipush (v := (12 : Int32)) C dL_homes_1004 (by decide) ?_
  refine q_icmp_ge_f C 1052 dL_homes_1006 (by decide) (by decide) ?_
  refine q_aload_n C dL_homes_1009 rfl 1 rfl ?_
  refine q_iconst (v := (1 : Int32)) C dL_homes_1010 (by decide) ?_
  refine q_iload_n C dL_homes_1011 rfl 0 rfl ?_
  refine q_iconst (v := (5 : Int32)) C dL_homes_1012 (by decide) ?_
  refine q_irem_v (v := (0 : Int32)) C dL_homes_1013 (by decide) (by decide) ?_
  refine q_iadd_v (v := (1 : Int32)) C dL_homes_1014 (by decide) ?_
  refine q_iconst (v := (1 : Int32)) C dL_homes_1015 (by decide) ?_
  refine q_iload_n C dL_homes_1016 rfl 0 rfl ?_
  refine q_iadd_v (v := (6 : Int32)) C dL_homes_1017 (by decide) ?_
  refine o_addFlat C hs104 ⟨Nat.le_of_ble_eq_true rfl, Nat.le_of_ble_eq_true rfl⟩ ⟨Nat.le_of_ble_eq_true rfl, Nat.le_of_ble_eq_true rfl⟩ (Nat.le_of_ble_eq_true rfl) dL_homes_1018 ?_
  refine q_iload_n C dL_homes_1021 rfl 0 rfl ?_
  refine q_icmp_ne_f C 1044 dL_homes_1022 (by decide) (by decide) ?_
  refine q_aload_n C dL_homes_1025 rfl 1 rfl ?_
  refine q_iconst (v := (1 : Int32)) C dL_homes_1026 (by decide) ?_
  refine q_iload_n C dL_homes_1027 rfl 0 rfl ?_
  refine q_bipush (v := (9 : Int32)) C dL_homes_1028 (by decide) ?_
  refine q_irem_v (v := (5 : Int32)) C dL_homes_1030 (by decide) (by decide) ?_
  refine q_iadd_v (v := (6 : Int32)) C dL_homes_1031 (by decide) ?_
  refine q_iconst (v := (3 : Int32)) C dL_homes_1032 (by decide) ?_
  refine q_iload_n C dL_homes_1033 rfl 0 rfl ?_
  refine q_imul_v (v := (15 : Int32)) C dL_homes_1034 (by decide) ?_
  refine q_iconst (v := (3 : Int32)) C dL_homes_1035 (by decide) ?_
  refine q_iadd_v (v := (18 : Int32)) C dL_homes_1036 (by decide) ?_
  refine o_addHousehold C hs105 ⟨Nat.le_of_ble_eq_true rfl, Nat.le_of_ble_eq_true rfl⟩ ⟨Nat.le_of_ble_eq_true rfl, Nat.le_of_ble_eq_true rfl⟩ (Nat.le_of_ble_eq_true rfl) dL_homes_1037 ?_
  refine q_iload_n C dL_homes_1040 rfl 0 rfl ?_
  refine q_icmp_eq_t C 1046 dL_homes_1041 (by decide) (by decide) ?_
  refine q_iinc (v := (6 : Int32)) C dL_homes_1046 0 rfl (by decide) (by decide) rfl ?_
  refine q_goto (tgt := 1003) C dL_homes_1049 (by decide) ?_
  refine q_iload_n C dL_homes_1003 rfl 0 rfl ?_
  refine q_bipush (v := (12 : Int32)) C dL_homes_1004 (by decide) ?_
  refine q_icmp_ge_f C 1052 dL_homes_1006 (by decide) (by decide) ?_
  refine q_aload_n C dL_homes_1009 rfl 1 rfl ?_
  refine q_iconst (v := (1 : Int32)) C dL_homes_1010 (by decide) ?_
  refine q_iload_n C dL_homes_1011 rfl 0 rfl ?_
  refine q_iconst (v := (5 : Int32)) C dL_homes_1012 (by decide) ?_
  refine q_irem_v (v := (1 : Int32)) C dL_homes_1013 (by decide) (by decide) ?_
  refine q_iadd_v (v := (2 : Int32)) C dL_homes_1014 (by decide) ?_
  refine q_iconst (v := (1 : Int32)) C dL_homes_1015 (by decide) ?_
  refine q_iload_n C dL_homes_1016 rfl 0 rfl ?_
  refine q_iadd_v (v := (7 : Int32)) C dL_homes_1017 (by decide) ?_
  refine o_addFlat C hs106 ⟨Nat.le_of_ble_eq_true rfl, Nat.le_of_ble_eq_true rfl⟩ ⟨Nat.le_of_ble_eq_true rfl, Nat.le_of_ble_eq_true rfl⟩ (Nat.le_of_ble_eq_true rfl) dL_homes_1018 ?_
  refine q_iload_n C dL_homes_1021 rfl 0 rfl ?_
  refine q_icmp_ne_f C 1044 dL_homes_1022 (by decide) (by decide) ?_
  refine q_aload_n C dL_homes_1025 rfl 1 rfl ?_
  refine q_iconst (v := (1 : Int32)) C dL_homes_1026 (by decide) ?_
  refine q_iload_n C dL_homes_1027 rfl 0 rfl ?_
  refine q_bipush (v := (9 : Int32)) C dL_homes_1028 (by decide) ?_
  refine q_irem_v (v := (6 : Int32)) C dL_homes_1030 (by decide) (by decide) ?_
  refine q_iadd_v (v := (7 : Int32)) C dL_homes_1031 (by decide) ?_
  refine q_iconst (v := (3 : Int32)) C dL_homes_1032 (by decide) ?_
  refine q_iload_n C dL_homes_1033 rfl 0 rfl ?_
  refine q_imul_v (v := (18 : Int32)) C dL_homes_1034 (by decide) ?_
  refine q_iconst (v := (3 : Int32)) C dL_homes_1035 (by decide) ?_
  refine q_iadd_v (v := (21 : Int32)) C dL_homes_1036 (by decide) ?_
  refine o_addHousehold C hs107 ⟨Nat.le_of_ble_eq_true rfl, Nat.le_of_ble_eq_true rfl⟩ ⟨Nat.le_of_ble_eq_true rfl, Nat.le_of_ble_eq_true rfl⟩ (Nat.le_of_ble_eq_true rfl) dL_homes_1037 ?_
  refine q_iload_n C dL_homes_1040 rfl 0 rfl ?_
  refine q_icmp_eq_t C 1046 dL_homes_1041 (by decide) (by decide) ?_
  refine q_iinc (v := (7 : Int32)) C dL_homes_1046 0 rfl (by decide) (by decide) rfl ?_
  refine q_goto (tgt := 1003) C dL_homes_1049 (by decide) ?_
  refine q_iload_n C dL_homes_1003 rfl 0 rfl ?_
  refine q_bipush (v := (12 : Int32)) C dL_homes_1004 (by decide) ?_
  refine q_icmp_ge_f C 1052 dL_homes_1006 (by decide) (by decide) ?_
  refine q_aload_n C dL_homes_1009 rfl 1 rfl ?_
  refine q_iconst (v := (1 : Int32)) C dL_homes_1010 (by decide) ?_
  refine q_iload_n C dL_homes_1011 rfl 0 rfl ?_
  refine q_iconst (v := (5 : Int32)) C dL_homes_1012 (by decide) ?_
  refine q_irem_v (v := (2 : Int32)) C dL_homes_1013 (by decide) (by decide) ?_
  refine q_iadd_v (v := (3 : Int32)) C dL_homes_1014 (by decide) ?_
  refine q_iconst (v := (1 : Int32)) C dL_homes_1015 (by decide) ?_
  refine q_iload_n C dL_homes_1016 rfl 0 rfl ?_
  refine q_iadd_v (v := (8 : Int32)) C dL_homes_1017 (by decide) ?_
  refine o_addFlat C hs108 ⟨Nat.le_of_ble_eq_true rfl, Nat.le_of_ble_eq_true rfl⟩ ⟨Nat.le_of_ble_eq_true rfl, Nat.le_of_ble_eq_true rfl⟩ (Nat.le_of_ble_eq_true rfl) dL_homes_1018 ?_
  refine q_iload_n C dL_homes_1021 rfl 0 rfl ?_
  refine q_icmp_ne_f C 1044 dL_homes_1022 (by decide) (by decide) ?_
  refine q_aload_n C dL_homes_1025 rfl 1 rfl ?_
  refine q_iconst (v := (1 : Int32)) C dL_homes_1026 (by decide) ?_
  refine q_iload_n C dL_homes_1027 rfl 0 rfl ?_
  refine q_bipush (v := (9 : Int32)) C dL_homes_1028 (by decide) ?_
  refine q_irem_v (v := (7 : Int32)) C dL_homes_1030 (by decide) (by decide) ?_
  refine q_iadd_v (v := (8 : Int32)) C dL_homes_1031 (by decide) ?_
  refine q_iconst (v := (3 : Int32)) C dL_homes_1032 (by decide) ?_
  refine q_iload_n C dL_homes_1033 rfl 0 rfl ?_
  refine q_imul_v (v := (21 : Int32)) C dL_homes_1034 (by decide) ?_
  refine q_iconst (v := (3 : Int32)) C dL_homes_1035 (by decide) ?_
  refine q_iadd_v (v := (24 : Int32)) C dL_homes_1036 (by decide) ?_
  refine o_addHousehold C hs109 ⟨Nat.le_of_ble_eq_true rfl, Nat.le_of_ble_eq_true rfl⟩ ⟨Nat.le_of_ble_eq_true rfl, Nat.le_of_ble_eq_true rfl⟩ (Nat.le_of_ble_eq_true rfl) dL_homes_1037 ?_
  refine q_iload_n C dL_homes_1040 rfl 0 rfl ?_
  refine q_icmp_eq_t C 1046 dL_homes_1041 (by decide) (by decide) ?_
  exact next
set_option maxHeartbeats 8000000 in
theorem homes_7 {p : Program} {l : Launch} {e : Env} {s : State} {m : MethodId} {args : Array Value} {below : List Frame} {meth : Method} {c : Code} {D : va_G} {cs : Nat → ClassId} {Q : State → Prop} {ad : Nat → Nat} {x0 : Nat} (C : CQ p s m args meth c cL_homes 3 D cs) (next : VX p l e (rmC 8 510 3524) s m args below meth c 3 D (fun q => s.heap.size ≤ q) 510 3524 Q (gW cs ad hg54 []) 1046 [(2, .int (11 : Int32)), (1, .ref (ad 0)), (0, .ref x0)] []) : VX p l e (rmC 8 510 3524) s m args below meth c 3 D (fun q => s.heap.size ≤ q) 510 3524 Q (gW cs ad hg46 []) 1046 [(2, .int (7 : Int32)), (1, .ref (ad 0)), (0, .ref x0)] [] := by
  refine q_iinc (v := (8 : Int32)) C dL_homes_1046 0 rfl (by decide) (by decide) rfl ?_
  refine q_goto (tgt := 1003) C dL_homes_1049 (by decide) ?_
  refine q_iload_n C dL_homes_1003 rfl 0 rfl ?_
  refine q_bipush (v := (12 : Int32)) C dL_homes_1004 (by decide) ?_
  refine q_icmp_ge_f C 1052 dL_homes_1006 (by decide) (by decide) ?_
  refine q_aload_n C dL_homes_1009 rfl 1 rfl ?_
  refine q_iconst (v := (1 : Int32)) C dL_homes_1010 (by decide) ?_
  refine q_iload_n C dL_homes_1011 rfl 0 rfl ?_
  refine q_iconst (v := (5 : Int32)) C dL_homes_1012 (by decide) ?_
  refine q_irem_v (v := (3 : Int32)) C dL_homes_1013 (by decide) (by decide) ?_
  refine q_iadd_v (v := (4 : Int32)) C dL_homes_1014 (by decide) ?_
  refine q_iconst (v := (1 : Int32)) C dL_homes_1015 (by decide) ?_
  refine q_iload_n C dL_homes_1016 rfl 0 rfl ?_
  refine q_iadd_v (v := (9 : Int32)) C dL_homes_1017 (by decide) ?_
  refine o_addFlat C hs110 ⟨Nat.le_of_ble_eq_true rfl, Nat.le_of_ble_eq_true rfl⟩ ⟨Nat.le_of_ble_eq_true rfl, Nat.le_of_ble_eq_true rfl⟩ (Nat.le_of_ble_eq_true rfl) dL_homes_1018 ?_
  refine q_iload_n C dL_homes_1021 rfl 0 rfl ?_
  refine q_icmp_ne_f C 1044 dL_homes_1022 (by decide) (by decide) ?_
  refine q_aload_n C dL_homes_1025 rfl 1 rfl ?_
  refine q_iconst (v := (1 : Int32)) C dL_homes_1026 (by decide) ?_
  refine q_iload_n C dL_homes_1027 rfl 0 rfl ?_
  refine q_bipush (v := (9 : Int32)) C dL_homes_1028 (by decide) ?_
  refine q_irem_v (v := (8 : Int32)) C dL_homes_1030 (by decide) (by decide) ?_
  refine q_iadd_v (v := (9 : Int32)) C dL_homes_1031 (by decide) ?_
  refine q_iconst (v := (3 : Int32)) C dL_homes_1032 (by decide) ?_
  refine q_iload_n C dL_homes_1033 rfl 0 rfl ?_
  refine q_imul_v (v := (24 : Int32)) C dL_homes_1034 (by decide) ?_
  refine q_iconst (v := (3 : Int32)) C dL_homes_1035 (by decide) ?_
  refine q_iadd_v (v := (27 : Int32)) C dL_homes_1036 (by decide) ?_
  refine o_addHousehold C hs111 ⟨Nat.le_of_ble_eq_true rfl, Nat.le_of_ble_eq_true rfl⟩ ⟨Nat.le_of_ble_eq_true rfl, Nat.le_of_ble_eq_true rfl⟩ (Nat.le_of_ble_eq_true rfl) dL_homes_1037 ?_
  refine q_iload_n C dL_homes_1040 rfl 0 rfl ?_
  refine q_icmp_eq_t C 1046 dL_homes_1041 (by decide) (by decide) ?_
  refine q_iinc (v := (9 : Int32)) C dL_homes_1046 0 rfl (by decide) (by decide) rfl ?_
  refine q_goto (tgt := 1003) C dL_homes_1049 (by decide) ?_
  refine q_iload_n C dL_homes_1003 rfl 0 rfl ?_
  refine q_bipush (v := (12 : Int32)) C dL_homes_1004 (by decide) ?_
  refine q_icmp_ge_f C 1052 dL_homes_1006 (by decide) (by decide) ?_
  refine q_aload_n C dL_homes_1009 rfl 1 rfl ?_
  refine q_iconst (v := (1 : Int32)) C dL_homes_1010 (by decide) ?_
  refine q_iload_n C dL_homes_1011 rfl 0 rfl ?_
  refine q_iconst (v := (5 : Int32)) C dL_homes_1012 (by decide) ?_
  refine q_irem_v (v := (4 : Int32)) C dL_homes_1013 (by decide) (by decide) ?_
  refine q_iadd_v (v := (5 : Int32)) C dL_homes_1014 (by decide) ?_
  refine q_iconst (v := (1 : Int32)) C dL_homes_1015 (by decide) ?_
  refine q_iload_n C dL_homes_1016 rfl 0 rfl ?_
  refine q_iadd_v (v := (10 : Int32)) C dL_homes_1017 (by decide) ?_
  refine o_addFlat C hs112 ⟨Nat.le_of_ble_eq_true rfl, Nat.le_of_ble_eq_true rfl⟩ ⟨Nat.le_of_ble_eq_true rfl, Nat.le_of_ble_eq_true rfl⟩ (Nat.le_of_ble_eq_true rfl) dL_homes_1018 ?_
  refine q_iload_n C dL_homes_1021 rfl 0 rfl ?_
  refine q_icmp_ne_f C 1044 dL_homes_1022 (by decide) (by decide) ?_
  refine q_aload_n C dL_homes_1025 rfl 1 rfl ?_
  refine q_iconst (v := (1 : Int32)) C dL_homes_1026 (by decide) ?_
  refine q_iload_n C dL_homes_1027 rfl 0 rfl ?_
  refine q_bipush (v := (9 : Int32)) C dL_homes_1028 (by decide) ?_
  refine q_irem_v (v := (0 : Int32)) C dL_homes_1030 (by decide) (by decide) ?_
  refine q_iadd_v (v := (1 : Int32)) C dL_homes_1031 (by decide) ?_
  refine q_iconst (v := (3 : Int32)) C dL_homes_1032 (by decide) ?_
  refine q_iload_n C dL_homes_1033 rfl 0 rfl ?_
  refine q_imul_v (v := (27 : Int32)) C dL_homes_1034 (by decide) ?_
  refine q_iconst (v := (3 : Int32)) C dL_homes_1035 (by decide) ?_
  refine q_iadd_v (v := (30 : Int32)) C dL_homes_1036 (by decide) ?_
  refine o_addHousehold C hs113 ⟨Nat.le_of_ble_eq_true rfl, Nat.le_of_ble_eq_true rfl⟩ ⟨Nat.le_of_ble_eq_true rfl, Nat.le_of_ble_eq_true rfl⟩ (Nat.le_of_ble_eq_true rfl) dL_homes_1037 ?_
  refine q_iload_n C dL_homes_1040 rfl 0 rfl ?_
  refine q_icmp_eq_t C 1046 dL_homes_1041 (by decide) (by decide) ?_
  refine q_iinc (v := (10 : Int32)) C dL_homes_1046 0 rfl (by decide) (by decide) rfl ?_
  refine q_goto (tgt := 1003) C dL_homes_1049 (by decide) ?_
  refine q_iload_n C dL_homes_1003 rfl 0 rfl ?_
  refine q_bipush (v := (12 : Int32)) C dL_homes_1004 (by decide) ?_
  refine q_icmp_ge_f C 1052 dL_homes_1006 (by decide) (by decide) ?_
  refine q_aload_n C dL_homes_1009 rfl 1 rfl ?_
  refine q_iconst (v := (1 : Int32)) C dL_homes_1010 (by decide) ?_
  refine q_iload_n C dL_homes_1011 rfl 0 rfl ?_
  refine q_iconst (v := (5 : Int32)) C dL_homes_1012 (by decide) ?_
  refine q_irem_v (v := (0 : Int32)) C dL_homes_1013 (by decide) (by decide) ?_
  refine q_iadd_v (v := (1 : Int32)) C dL_homes_1014 (by decide) ?_
  refine q_iconst (v := (1 : Int32)) C dL_homes_1015 (by decide) ?_
  refine q_iload_n C dL_homes_1016 rfl 0 rfl ?_
  refine q_iadd_v (v := (11 : Int32)) C dL_homes_1017 (by decide) ?_
  refine o_addFlat C hs114 ⟨Nat.le_of_ble_eq_true rfl, Nat.le_of_ble_eq_true rfl⟩ ⟨Nat.le_of_ble_eq_true rfl, Nat.le_of_ble_eq_true rfl⟩ (Nat.le_of_ble_eq_true rfl) dL_homes_1018 ?_
  refine q_iload_n C dL_homes_1021 rfl 0 rfl ?_
  refine q_icmp_ne_f C 1044 dL_homes_1022 (by decide) (by decide) ?_
  refine q_aload_n C dL_homes_1025 rfl 1 rfl ?_
  refine q_iconst (v := (1 : Int32)) C dL_homes_1026 (by decide) ?_
  refine q_iload_n C dL_homes_1027 rfl 0 rfl ?_
  refine q_bipush (v := (9 : Int32)) C dL_homes_1028 (by decide) ?_
  refine q_irem_v (v := (1 : Int32)) C dL_homes_1030 (by decide) (by decide) ?_
  refine q_iadd_v (v := (2 : Int32)) C dL_homes_1031 (by decide) ?_
  refine q_iconst (v := (3 : Int32)) C dL_homes_1032 (by decide) ?_
  refine q_iload_n C dL_homes_1033 rfl 0 rfl ?_
  refine q_imul_v (v := (30 : Int32)) C dL_homes_1034 (by decide) ?_
  refine q_iconst (v := (3 : Int32)) C dL_homes_1035 (by decide) ?_
  refine q_iadd_v (v := (33 : Int32)) C dL_homes_1036 (by decide) ?_
  refine o_addHousehold C hs115 ⟨Nat.le_of_ble_eq_true rfl, Nat.le_of_ble_eq_true rfl⟩ ⟨Nat.le_of_ble_eq_true rfl, Nat.le_of_ble_eq_true rfl⟩ (Nat.le_of_ble_eq_true rfl) dL_homes_1037 ?_
  refine q_iload_n C dL_homes_1040 rfl 0 rfl ?_
  refine q_icmp_eq_t C 1046 dL_homes_1041 (by decide) (by decide) ?_
  refine q_iinc (v := (11 : Int32)) C dL_homes_1046 0 rfl (by decide) (by decide) rfl ?_
  refine q_goto (tgt := 1003) C dL_homes_1049 (by decide) ?_
  refine q_iload_n C dL_homes_1003 rfl 0 rfl ?_
  refine q_bipush (v := (12 : Int32)) C dL_homes_1004 (by decide) ?_
  refine q_icmp_ge_f C 1052 dL_homes_1006 (by decide) (by decide) ?_
  refine q_aload_n C dL_homes_1009 rfl 1 rfl ?_
  refine q_iconst (v := (1 : Int32)) C dL_homes_1010 (by decide) ?_
  refine q_iload_n C dL_homes_1011 rfl 0 rfl ?_
  refine q_iconst (v := (5 : Int32)) C dL_homes_1012 (by decide) ?_
  refine q_irem_v (v := (1 : Int32)) C dL_homes_1013 (by decide) (by decide) ?_
  refine q_iadd_v (v := (2 : Int32)) C dL_homes_1014 (by decide) ?_
  refine q_iconst (v := (1 : Int32)) C dL_homes_1015 (by decide) ?_
  refine q_iload_n C dL_homes_1016 rfl 0 rfl ?_
  refine q_iadd_v (v := (12 : Int32)) C dL_homes_1017 (by decide) ?_
  refine o_addFlat C hs116 ⟨Nat.le_of_ble_eq_true rfl, Nat.le_of_ble_eq_true rfl⟩ ⟨Nat.le_of_ble_eq_true rfl, Nat.le_of_ble_eq_true rfl⟩ (Nat.le_of_ble_eq_true rfl) dL_homes_1018 ?_
  refine q_iload_n C dL_homes_1021 rfl 0 rfl ?_
  refine q_icmp_ne_f C 1044 dL_homes_1022 (by decide) (by decide) ?_
  refine q_aload_n C dL_homes_1025 rfl 1 rfl ?_
  refine q_iconst (v := (1 : Int32)) C dL_homes_1026 (by decide) ?_
  refine q_iload_n C dL_homes_1027 rfl 0 rfl ?_
  refine q_bipush (v := (9 : Int32)) C dL_homes_1028 (by decide) ?_
  refine q_irem_v (v := (2 : Int32)) C dL_homes_1030 (by decide) (by decide) ?_
  refine q_iadd_v (v := (3 : Int32)) C dL_homes_1031 (by decide) ?_
  refine q_iconst (v := (3 : Int32)) C dL_homes_1032 (by decide) ?_
  refine q_iload_n C dL_homes_1033 rfl 0 rfl ?_
  refine q_imul_v (v := (33 : Int32)) C dL_homes_1034 (by decide) ?_
  refine q_iconst (v := (3 : Int32)) C dL_homes_1035 (by decide) ?_
  refine q_iadd_v (v := (36 : Int32)) C dL_homes_1036 (by decide) ?_
  refine o_addHousehold C hs117 ⟨Nat.le_of_ble_eq_true rfl, Nat.le_of_ble_eq_true rfl⟩ ⟨Nat.le_of_ble_eq_true rfl, Nat.le_of_ble_eq_true rfl⟩ (Nat.le_of_ble_eq_true rfl) dL_homes_1037 ?_
  refine q_iload_n C dL_homes_1040 rfl 0 rfl ?_
  refine q_icmp_eq_t C 1046 dL_homes_1041 (by decide) (by decide) ?_
  exact next
