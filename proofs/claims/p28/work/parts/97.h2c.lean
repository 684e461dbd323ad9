/-! homes: the walk (written by wip/p28/tools/mk_h.py) -/
set_option maxHeartbeats 8000000 in
theorem homes_8 {p : Program} {l : Launch} {e : Env} {s : State} {m : MethodId} {args : Array Value} {below : List Frame} {meth : Method} {c : Code} {D : va_G} {cs : Nat → ClassId} {Q : State → Prop} {ad : Nat → Nat} {x0 : Nat} (C : CQ p s m args meth c cL_homes 3 D cs) (next : VX p l e (rmC 8 510 3524) s m args below meth c 3 D (fun q => s.heap.size ≤ q) 510 3524 Q (gW cs ad hg60 []) 1105 [(2, .int (6 : Int32)), (1, .ref (ad 0)), (0, .ref x0)] []) : VX p l e (rmC 8 510 3524) s m args below meth c 3 D (fun q => s.heap.size ≤ q) 510 3524 Q (gW cs ad hg54 []) 1046 [(2, .int (11 : Int32)), (1, .ref (ad 0)), (0, .ref x0)] [] := by
  refine q_iinc (v := (12 : Int32)) C dL_homes_1046 0 rfl (by decide) (by decide) rfl ?_
  refine q_goto (tgt := 1003) C dL_homes_1049 (by decide) ?_
  refine q_iload_n C dL_homes_1003 rfl 0 rfl ?_
  refine q_bipush (v := (12 : Int32)) C dL_homes_1004 (by decide) ?_
  refine q_icmp_ge_t C 1052 dL_homes_1006 (by decide) (by decide) ?_
  refine q_iconst (v := (0 : Int32)) C dL_homes_1052 (by decide) ?_
  refine q_istore_n C dL_homes_1053 rfl (by decide) rfl ?_
  refine q_iload_n C dL_homes_1054 rfl 0 rfl ?_
  refine q_bipush (v := (6 : Int32)) C dL_homes_1055 (by decide) ?_
  refine q_icmp_ge_f C 1083 dL_homes_1057 (by decide) (by decide) ?_
  refine q_aload_n C dL_homes_1060 rfl 1 rfl ?_
  refine q_bipush (v := (11 : Int32)) C dL_homes_1061 (by decide) ?_
  refine q_iload_n C dL_homes_1063 rfl 0 rfl ?_
  refine q_iconst (v := (5 : Int32)) C dL_homes_1064 (by decide) ?_
  refine q_iadd_v (v := (5 : Int32)) C dL_homes_1065 (by decide) ?_
  refine o_wish C hs118 ⟨Nat.le_of_ble_eq_true rfl, Nat.le_of_ble_eq_true rfl⟩ ⟨Nat.le_of_ble_eq_true rfl, Nat.le_of_ble_eq_true rfl⟩ (Nat.le_of_ble_eq_true rfl) dL_homes_1066 ?_
  refine q_iload_n C dL_homes_1069 rfl 0 rfl ?_
  refine q_iconst (v := (1 : Int32)) C dL_homes_1070 (by decide) ?_
  refine q_iadd_v (v := (1 : Int32)) C dL_homes_1071 (by decide) ?_
  refine q_icmp_eq_t C 1077 dL_homes_1072 (by decide) (by decide) ?_
  refine q_iinc (v := (1 : Int32)) C dL_homes_1077 0 rfl (by decide) (by decide) rfl ?_
  refine q_goto (tgt := 1054) C dL_homes_1080 (by decide) ?_
  refine q_iload_n C dL_homes_1054 rfl 0 rfl ?_
  refine q_bipush (v := (6 : Int32)) C dL_homes_1055 (by decide) ?_
  refine q_icmp_ge_f C 1083 dL_homes_1057 (by decide) (by decide) ?_
  refine q_aload_n C dL_homes_1060 rfl 1 rfl ?_
  refine q_bipush (v := (11 : Int32)) C dL_homes_1061 (by decide) ?_
  refine q_iload_n C dL_homes_1063 rfl 0 rfl ?_
  refine q_iconst (v := (5 : Int32)) C dL_homes_1064 (by decide) ?_
  refine q_iadd_v (v := (6 : Int32)) C dL_homes_1065 (by decide) ?_
  refine o_wish C hs119 ⟨Nat.le_of_ble_eq_true rfl, Nat.le_of_ble_eq_true rfl⟩ ⟨Nat.le_of_ble_eq_true rfl, Nat.le_of_ble_eq_true rfl⟩ (Nat.le_of_ble_eq_true rfl) dL_homes_1066 ?_
  refine q_iload_n C dL_homes_1069 rfl 0 rfl ?_
  refine q_iconst (v := (1 : Int32)) C dL_homes_1070 (by decide) ?_
  refine q_iadd_v (v := (2 : Int32)) C dL_homes_1071 (by decide) ?_
  refine q_icmp_eq_t C 1077 dL_homes_1072 (by decide) (by decide) ?_
  refine q_iinc (v := (2 : Int32)) C dL_homes_1077 0 rfl (by decide) (by decide) rfl ?_
  refine q_goto (tgt := 1054) C dL_homes_1080 (by decide) ?_
  refine q_iload_n C dL_homes_1054 rfl 0 rfl ?_
  refine q_bipush (v := (6 : Int32)) C dL_homes_1055 (by decide) ?_
  refine q_icmp_ge_f C 1083 dL_homes_1057 (by decide) (by decide) ?_
  refine q_aload_n C dL_homes_1060 rfl 1 rfl ?_
  refine q_bipush (v := (11 : Int32)) C dL_homes_1061 (by decide) ?_
  refine q_iload_n C dL_homes_1063 rfl 0 rfl ?_
  refine q_iconst (v := (5 : Int32)) C dL_homes_1064 (by decide) ?_
  refine q_iadd_v (v := (7 : Int32)) C dL_homes_1065 (by decide) ?_
  refine o_wish C hs120 ⟨Nat.le_of_ble_eq_true rfl, Nat.le_of_ble_eq_true rfl⟩ ⟨Nat.le_of_ble_eq_true rfl, Nat.le_of_ble_eq_true rfl⟩ (Nat.le_of_ble_eq_true rfl) dL_homes_1066 ?_
  refine q_iload_n C dL_homes_1069 rfl 0 rfl ?_
  refine q_iconst (v := (1 : Int32)) C dL_homes_1070 (by decide) ?_
  refine q_iadd_v (v := (3 : Int32)) C dL_homes_1071 (by decide) ?_
  refine q_icmp_eq_t C 1077 dL_homes_1072 (by decide) (by decide) ?_
  refine q_iinc (v := (3 : Int32)) C dL_homes_1077 0 rfl (by decide) (by decide) rfl ?_
  refine q_goto (tgt := 1054) C dL_homes_1080 (by decide) ?_
  refine q_iload_n C dL_homes_1054 rfl 0 rfl ?_
  refine q_bipush (v := (6 : Int32)) C dL_homes_1055 (by decide) ?_
  refine q_icmp_ge_f C 1083 dL_homes_1057 (by decide) (by decide) ?_
  refine q_aload_n C dL_homes_1060 rfl 1 rfl ?_
  refine q_bipush (v := (11 : Int32)) C dL_homes_1061 (by decide) ?_
  refine q_iload_n C dL_homes_1063 rfl 0 rfl ?_
  refine q_iconst (v := (5 : Int32)) C dL_homes_1064 (by decide) ?_
  refine q_iadd_v (v := (8 : Int32)) C dL_homes_1065 (by decide) ?_
  refine o_wish C hs121 ⟨Nat.le_of_ble_eq_true rfl, Nat.le_of_ble_eq_true rfl⟩ ⟨Nat.le_of_ble_eq_true rfl, Nat.le_of_ble_eq_true rfl⟩ (Nat.le_of_ble_eq_true rfl) dL_homes_1066 ?_
  refine q_iload_n C dL_homes_1069 rfl 0 rfl ?_
  refine q_iconst (v := (1 : Int32)) C dL_homes_1070 (by decide) ?_
  refine q_iadd_v (v := (4 : Int32)) C dL_homes_1071 (by decide) ?_
  refine q_icmp_eq_t C 1077 dL_homes_1072 (by decide) (by decide) ?_
  refine q_iinc (v := (4 : Int32)) C dL_homes_1077 0 rfl (by decide) (by decide) rfl ?_
  refine q_goto (tgt := 1054) C dL_homes_1080 (by decide) ?_
  refine q_iload_n C dL_homes_1054 rfl 0 rfl ?_
  refine q_bipush (v := (6 : Int32)) C dL_homes_1055 (by decide) ?_
  refine q_icmp_ge_f C 1083 dL_homes_1057 (by decide) (by decide) ?_
  refine q_aload_n C dL_homes_1060 rfl 1 rfl ?_
  refine q_bipush (v := (11 : Int32)) C dL_homes_1061 (by decide) ?_
  refine q_iload_n C dL_homes_1063 rfl 0 rfl ?_
  refine q_iconst (v := (5 : Int32)) C dL_homes_1064 (by decide) ?_
  refine q_iadd_v (v := (9 : Int32)) C dL_homes_1065 (by decide) ?_
  refine o_wish C hs122 ⟨Nat.le_of_ble_eq_true rfl, Nat.le_of_ble_eq_true rfl⟩ ⟨Nat.le_of_ble_eq_true rfl, Nat.le_of_ble_eq_true rfl⟩ (Nat.le_of_ble_eq_true rfl) dL_homes_1066 ?_
  refine q_iload_n C dL_homes_1069 rfl 0 rfl ?_
  refine q_iconst (v := (1 : Int32)) C dL_homes_1070 (by decide) ?_
  refine q_iadd_v (v := (5 : Int32)) C dL_homes_1071 (by decide) ?_
  refine q_icmp_eq_t C 1077 dL_homes_1072 (by decide) (by decide) ?_
  refine q_iinc (v := (5 : Int32)) C dL_homes_1077 0 rfl (by decide) (by decide) rfl ?_
  refine q_goto (tgt := 1054) C dL_homes_1080 (by decide) ?_
  refine q_iload_n C dL_homes_1054 rfl 0 rfl ?_
  refine q_bipush (v := (6 : Int32)) C dL_homes_1055 (by decide) ?_
  refine q_icmp_ge_f C 1083 dL_homes_1057 (by decide) (by decide) ?_
  refine q_aload_n C dL_homes_1060 rfl 1 rfl ?_
  refine q_bipush (v := (11 : Int32)) C dL_homes_1061 (by decide) ?_
  refine q_iload_n C dL_homes_1063 rfl 0 rfl ?_
  refine q_iconst (v := (5 : Int32)) C dL_homes_1064 (by decide) ?_
  refine q_iadd_v (v := (10 : Int32)) C dL_homes_1065 (by decide) ?_
  refine o_wish C hs123 ⟨Nat.le_of_ble_eq_true rfl, Nat.le_of_ble_eq_true rfl⟩ ⟨Nat.le_of_ble_eq_true rfl, Nat.le_of_ble_eq_true rfl⟩ (Nat.le_of_ble_eq_true rfl) dL_homes_1066 ?_
  refine q_iload_n C dL_homes_1069 rfl 0 rfl ?_
  refine q_iconst (v := (1 : Int32)) C dL_homes_1070 (by decide) ?_
  refine q_iadd_v (v := (6 : Int32)) C dL_homes_1071 (by decide) ?_
  refine q_icmp_eq_t C 1077 dL_homes_1072 (by decide) (by decide) ?_
  refine q_iinc (v := (6 : Int32)) C dL_homes_1077 0 rfl (by decide) (by decide) rfl ?_
  refine q_goto (tgt := 1054) C dL_homes_1080 (by decide) ?_
  refine q_iload_n C dL_homes_1054 rfl 0 rfl ?_
  refine q_bipush (v := (6 : Int32)) C dL_homes_1055 (by decide) ?_
  refine q_icmp_ge_t C 1083 dL_homes_1057 (by decide) (by decide) ?_
  refine q_aload_n C dL_homes_1083 rfl 1 rfl ?_
  refine q_iconst (v := (1 : Int32)) C dL_homes_1084 (by decide) ?_
  refine q_iconst (v := (1 : Int32)) C dL_homes_1085 (by decide) ?_
  refine o_addFlat C hs124 ⟨Nat.le_of_ble_eq_true rfl, Nat.le_of_ble_eq_true rfl⟩ ⟨Nat.le_of_ble_eq_true rfl, Nat.le_of_ble_eq_true rfl⟩ (Nat.le_of_ble_eq_true rfl) dL_homes_1086 ?_
  refine q_bipush (v := (-3 : Int32)) C dL_homes_1089 (by decide) ?_
  refine q_icmp_ne_f C 1200 dL_homes_1091 (by decide) (by decide) ?_
  refine q_aload_n C dL_homes_1094 rfl 1 rfl ?_
  refine q_iconst (v := (1 : Int32)) C dL_homes_1095 (by decide) ?_
  refine q_iconst (v := (1 : Int32)) C dL_homes_1096 (by decide) ?_
  refine o_addHousehold C hs125 ⟨Nat.le_of_ble_eq_true rfl, Nat.le_of_ble_eq_true rfl⟩ ⟨Nat.le_of_ble_eq_true rfl, Nat.le_of_ble_eq_true rfl⟩ (Nat.le_of_ble_eq_true rfl) dL_homes_1097 ?_
  refine q_bipush (v := (-3 : Int32)) C dL_homes_1100 (by decide) ?_
  refine q_icmp_ne_f C 1200 dL_homes_1102 (by decide) (by decide) ?_
  exact next
set_option maxHeartbeats 8000000 in
theorem homes_9 {p : Program} {l : Launch} {e : Env} {s : State} {m : MethodId} {args : Array Value} {below : List Frame} {meth : Method} {c : Code} {D : va_G} {cs : Nat → ClassId} {ad : Nat → Nat} {x0 : Nat} (C : CQ p s m args meth c cL_homes 3 D cs) (hr : meth.sig.returnType = some .boolean) : VX p l e (rmC 8 510 3524) s m args below meth c 3 D (fun q => s.heap.size ≤ q) 510 3524 (MQ below (va_Qi (fun (r0 : Int32) (_ : Unit) => r0 = 1) (fun _ _ => True) (fun _ => False)) args s 510 3524 (fun _ => False)) (gW cs ad hg60 []) 1105 [(2, .int (6 : Int32)), (1, .ref (ad 0)), (0, .ref x0)] [] := by
  refine q_aload_n C dL_homes_1105 rfl 1 rfl ?_
  refine q_iconst (v := (0 : Int32)) C dL_homes_1106 (by decide) ?_
  refine q_iconst (v := (1 : Int32)) C dL_homes_1107 (by decide) ?_
  refine o_addFlat C hs126 ⟨Nat.le_of_ble_eq_true rfl, Nat.le_of_ble_eq_true rfl⟩ ⟨Nat.le_of_ble_eq_true rfl, Nat.le_of_ble_eq_true rfl⟩ (Nat.le_of_ble_eq_true rfl) dL_homes_1108 ?_
  refine q_bipush (v := (-2 : Int32)) C dL_homes_1111 (by decide) ?_
  refine q_icmp_ne_f C 1200 dL_homes_1113 (by decide) (by decide) ?_
  refine q_aload_n C dL_homes_1116 rfl 1 rfl ?_
  refine q_bipush (v := (11 : Int32)) C dL_homes_1117 (by decide) ?_
  refine q_iconst (v := (5 : Int32)) C dL_homes_1119 (by decide) ?_
  refine o_wish C hs127 ⟨Nat.le_of_ble_eq_true rfl, Nat.le_of_ble_eq_true rfl⟩ ⟨Nat.le_of_ble_eq_true rfl, Nat.le_of_ble_eq_true rfl⟩ (Nat.le_of_ble_eq_true rfl) dL_homes_1120 ?_
  refine q_bipush (v := (-3 : Int32)) C dL_homes_1123 (by decide) ?_
  refine q_icmp_ne_f C 1200 dL_homes_1125 (by decide) (by decide) ?_
  refine q_aload_n C dL_homes_1128 rfl 1 rfl ?_
  refine q_bipush (v := (11 : Int32)) C dL_homes_1129 (by decide) ?_
  refine q_iconst (v := (0 : Int32)) C dL_homes_1131 (by decide) ?_
  refine o_wish C hs128 ⟨Nat.le_of_ble_eq_true rfl, Nat.le_of_ble_eq_true rfl⟩ ⟨Nat.le_of_ble_eq_true rfl, Nat.le_of_ble_eq_true rfl⟩ (Nat.le_of_ble_eq_true rfl) dL_homes_1132 ?_
  refine q_bipush (v := (-3 : Int32)) C dL_homes_1135 (by decide) ?_
  refine q_icmp_ne_f C 1200 dL_homes_1137 (by decide) (by decide) ?_
  refine q_aload_n C dL_homes_1140 rfl 1 rfl ?_
  refine q_bipush (v := (11 : Int32)) C dL_homes_1141 (by decide) ?_
  refine q_iconst (v := (5 : Int32)) C dL_homes_1143 (by decide) ?_
  refine o_wished C hs129 ⟨Nat.le_of_ble_eq_true rfl, Nat.le_of_ble_eq_true rfl⟩ ⟨Nat.le_of_ble_eq_true rfl, Nat.le_of_ble_eq_true rfl⟩ (Nat.le_of_ble_eq_true rfl) dL_homes_1144 ?_
  refine q_bipush (v := (10 : Int32)) C dL_homes_1147 (by decide) ?_
  refine q_icmp_ne_f C 1200 dL_homes_1149 (by decide) (by decide) ?_
  refine q_aload_n C dL_homes_1152 rfl 1 rfl ?_
  refine q_bipush (v := (11 : Int32)) C dL_homes_1153 (by decide) ?_
  refine q_bipush (v := (7 : Int32)) C dL_homes_1155 (by decide) ?_
  refine o_unwish C hs130 ⟨Nat.le_of_ble_eq_true rfl, Nat.le_of_ble_eq_true rfl⟩ ⟨Nat.le_of_ble_eq_true rfl, Nat.le_of_ble_eq_true rfl⟩ (Nat.le_of_ble_eq_true rfl) dL_homes_1157 ?_
  refine q_iconst (v := (2 : Int32)) C dL_homes_1160 (by decide) ?_
  refine q_icmp_ne_f C 1200 dL_homes_1161 (by decide) (by decide) ?_
  refine q_aload_n C dL_homes_1164 rfl 1 rfl ?_
  refine q_bipush (v := (11 : Int32)) C dL_homes_1165 (by decide) ?_
  refine q_iconst (v := (2 : Int32)) C dL_homes_1167 (by decide) ?_
  refine o_wished C hs131 ⟨Nat.le_of_ble_eq_true rfl, Nat.le_of_ble_eq_true rfl⟩ ⟨Nat.le_of_ble_eq_true rfl, Nat.le_of_ble_eq_true rfl⟩ (Nat.le_of_ble_eq_true rfl) dL_homes_1168 ?_
  refine q_bipush (v := (8 : Int32)) C dL_homes_1171 (by decide) ?_
  refine q_icmp_ne_f C 1200 dL_homes_1173 (by decide) (by decide) ?_
  refine q_aload_n C dL_homes_1176 rfl 1 rfl ?_
  refine q_bipush (v := (11 : Int32)) C dL_homes_1177 (by decide) ?_
  refine q_bipush (v := (8 : Int32)) C dL_homes_1179 (by decide) ?_
  refine o_wish C hs132 ⟨Nat.le_of_ble_eq_true rfl, Nat.le_of_ble_eq_true rfl⟩ ⟨Nat.le_of_ble_eq_true rfl, Nat.le_of_ble_eq_true rfl⟩ (Nat.le_of_ble_eq_true rfl) dL_homes_1181 ?_
  refine q_bipush (v := (-4 : Int32)) C dL_homes_1184 (by decide) ?_
  refine q_icmp_ne_f C 1200 dL_homes_1186 (by decide) (by decide) ?_
  refine q_aload_n C dL_homes_1189 rfl 1 rfl ?_
  refine q_go (fun G => ?_)
  refine q_callSI (n := 1) (As := [.ref (ad 0)]) (maxL := 4) (ret := some .boolean) C (c_refused (g := hg61) G (by decide +kernel) (by decide +kernel) (by decide +kernel)) qG_Lrefused rfl (by decide +kernel) ⟨Nat.le_of_ble_eq_true rfl, Nat.le_of_ble_eq_true rfl⟩ ⟨Nat.le_of_ble_eq_true rfl, Nat.le_of_ble_eq_true rfl⟩ rfl rfl rfl (Nat.le_of_ble_eq_true rfl) dL_homes_1190 ?_
  refine q_if_eq_f C 1200 dL_homes_1193 (by decide) (by decide) ?_
  refine q_iconst (v := (1 : Int32)) C dL_homes_1196 (by decide) ?_
  refine q_goto (tgt := 1201) C dL_homes_1197 (by decide) ?_
  exact q_iretO C hr rfl ⟨Nat.le_of_ble_eq_true rfl, Nat.le_of_ble_eq_true rfl⟩ dL_homes_1201
