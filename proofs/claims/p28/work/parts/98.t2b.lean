/-! texts: the walk (written by wip/p28/tools/mk_t.py) -/
set_option maxHeartbeats 8000000 in
theorem texts_4 {p : Program} {l : Launch} {e : Env} {s : State} {m : MethodId} {args : Array Value} {below : List Frame} {meth : Method} {c : Code} {D : va_G} {cs : Nat → ClassId} {Q : State → Prop} {ad : Nat → Nat} (C : CQ p s m args meth c cL_texts 2 D cs) (next : VX p l e (rmC 7 4335 29954) s m args below meth c 2 D (fun q => s.heap.size ≤ q) 4335 29954 Q (gW cs ad tg52 []) 400 [(1, .int (39 : Int32)), (0, .ref (ad 0))] []) : VX p l e (rmC 7 4335 29954) s m args below meth c 2 D (fun q => s.heap.size ≤ q) 4335 29954 Q (gW cs ad tg43 []) 414 [(1, .int (29 : Int32)), (0, .ref (ad 0))] [] := by
  refine q_iinc (v := (30 : Int32)) C dL_texts_414 0 rfl (by decide) (by decide) rfl ?_
  refine q_goto (tgt := 394) C dL_texts_417 (by decide) ?_
  refine q_iload_n C dL_texts_394 rfl 0 rfl ?_
  refine q_bipush (v := (60 : Int32)) C dL_texts_395 (by decide) ?_
  refine q_icmp_ge_f C 420 dL_texts_397 (by decide) (by decide) ?_
  refine q_aload_n C dL_texts_400 rfl 1 rfl ?_
  refine q_bipush (v := (49 : Int32)) C dL_texts_401 (by decide) ?_
  refine o_type C ts47 ⟨Nat.le_of_ble_eq_true rfl, Nat.le_of_ble_eq_true rfl⟩ ⟨Nat.le_of_ble_eq_true rfl, Nat.le_of_ble_eq_true rfl⟩ (Nat.le_of_ble_eq_true rfl) dL_texts_403 ?_
  refine q_iload_n C dL_texts_406 rfl 0 rfl ?_
  refine q_iconst (v := (1 : Int32)) C dL_texts_407 (by decide) ?_
  refine q_iadd_v (v := (31 : Int32)) C dL_texts_408 (by decide) ?_
  refine q_icmp_eq_t C 414 dL_texts_409 (by decide) (by decide) ?_
  refine q_iinc (v := (31 : Int32)) C dL_texts_414 0 rfl (by decide) (by decide) rfl ?_
  refine q_goto (tgt := 394) C dL_texts_417 (by decide) ?_
  refine q_iload_n C dL_texts_394 rfl 0 rfl ?_
  refine q_bipush (v := (60 : Int32)) C dL_texts_395 (by decide) ?_
  refine q_icmp_ge_f C 420 dL_texts_397 (by decide) (by decide) ?_
  refine q_aload_n C dL_texts_400 rfl 1 rfl ?_
  refine q_bipush (v := (49 : Int32)) C dL_texts_401 (by decide) ?_
  refine o_type C ts48 ⟨Nat.le_of_ble_eq_true rfl, Nat.le_of_ble_eq_true rfl⟩ ⟨Nat.le_of_ble_eq_true rfl, Nat.le_of_ble_eq_true rfl⟩ (Nat.le_of_ble_eq_true rfl) dL_texts_403 ?_
  refine q_iload_n C dL_texts_406 rfl 0 rfl ?_
  refine q_iconst (v := (1 : Int32)) C dL_texts_407 (by decide) ?_
  refine q_iadd_v (v := (32 : Int32)) C dL_texts_408 (by decide) ?_
  refine q_icmp_eq_t C 414 dL_texts_409 (by decide) (by decide) ?_
  refine q_iinc (v := (32 : Int32)) C dL_texts_414 0 rfl (by decide) (by decide) rfl ?_
  refine q_goto (tgt := 394) C dL_texts_417 (by decide) ?_
  refine q_iload_n C dL_texts_394 rfl 0 rfl ?_
  refine q_bipush (v := (60 : Int32)) C dL_texts_395 (by decide) ?_
  refine q_icmp_ge_f C 420 dL_texts_397 (by decide) (by decide) ?_
  refine q_aload_n C dL_texts_400 rfl 1 rfl ?_
  refine q_bipush (v := (49 : Int32)) C dL_texts_401 (by decide) ?_
  refine o_type C ts49 ⟨Nat.le_of_ble_eq_true rfl, Nat.le_of_ble_eq_true rfl⟩ ⟨Nat.le_of_ble_eq_true rfl, Nat.le_of_ble_eq_true rfl⟩ (Nat.le_of_ble_eq_true rfl) dL_texts_403 ?_
  refine q_iload_n C dL_texts_406 rfl 0 rfl ?_
  refine q_iconst (v := (1 : Int32)) C dL_texts_407 (by decide) ?_
  refine q_iadd_v (v := (33 : Int32)) C dL_texts_408 (by decide) ?_
  refine q_icmp_eq_t C 414 dL_texts_409 (by decide) (by decide) ?_
  refine q_iinc (v := (33 : Int32)) C dL_texts_414 0 rfl (by decide) (by decide) rfl ?_
  refine q_goto (tgt := 394) C dL_texts_417 (by decide) ?_
  refine q_iload_n C dL_texts_394 rfl 0 rfl ?_
  refine q_bipush (v := (60 : Int32)) C dL_texts_395 (by decide) ?_
  refine q_icmp_ge_f C 420 dL_texts_397 (by decide) (by decide) ?_
  refine q_aload_n C dL_texts_400 rfl 1 rfl ?_
  refine q_bipush (v := (49 : Int32)) C dL_texts_401 (by decide) ?_
  refine o_type C ts50 ⟨Nat.le_of_ble_eq_true rfl, Nat.le_of_ble_eq_true rfl⟩ ⟨Nat.le_of_ble_eq_true rfl, Nat.le_of_ble_eq_true rfl⟩ (Nat.le_of_ble_eq_true rfl) dL_texts_403 ?_
  refine q_iload_n C dL_texts_406 rfl 0 rfl ?_
  refine q_iconst (v := (1 : Int32)) C dL_texts_407 (by decide) ?_
  refine q_iadd_v (v := (34 : Int32)) C dL_texts_408 (by decide) ?_
  refine q_icmp_eq_t C 414 dL_texts_409 (by decide) (by decide) ?_
  refine q_iinc (v := (34 : Int32)) C dL_texts_414 0 rfl (by decide) (by decide) rfl ?_
  refine q_goto (tgt := 394) C dL_texts_417 (by decide) ?_
  refine q_iload_n C dL_texts_394 rfl 0 rfl ?_
  refine q_bipush (v := (60 : Int32)) C dL_texts_395 (by decide) ?_
  refine q_icmp_ge_f C 420 dL_texts_397 (by decide) (by decide) ?_
  refine q_aload_n C dL_texts_400 rfl 1 rfl ?_
  refine q_bipush (v := (49 : Int32)) C dL_texts_401 (by decide) ?_
  refine o_type C ts51 ⟨Nat.le_of_ble_eq_true rfl, Nat.le_of_ble_eq_true rfl⟩ ⟨Nat.le_of_ble_eq_true rfl, Nat.le_of_ble_eq_true rfl⟩ (Nat.le_of_ble_eq_true rfl) dL_texts_403 ?_
  refine q_iload_n C dL_texts_406 rfl 0 rfl ?_
  refine q_iconst (v := (1 : Int32)) C dL_texts_407 (by decide) ?_
  refine q_iadd_v (v := (35 : Int32)) C dL_texts_408 (by decide) ?_
  refine q_icmp_eq_t C 414 dL_texts_409 (by decide) (by decide) ?_
  refine q_iinc (v := (35 : Int32)) C dL_texts_414 0 rfl (by decide) (by decide) rfl ?_
  refine q_goto (tgt := 394) C dL_texts_417 (by decide) ?_
  refine q_iload_n C dL_texts_394 rfl 0 rfl ?_
  refine q_bipush (v := (60 : Int32)) C dL_texts_395 (by decide) ?_
  refine q_icmp_ge_f C 420 dL_texts_397 (by decide) (by decide) ?_
  refine q_aload_n C dL_texts_400 rfl 1 rfl ?_
  refine q_bipush (v := (49 : Int32)) C dL_texts_401 (by decide) ?_
  refine o_type C ts52 ⟨Nat.le_of_ble_eq_true rfl, Nat.le_of_ble_eq_true rfl⟩ ⟨Nat.le_of_ble_eq_true rfl, Nat.le_of_ble_eq_true rfl⟩ (Nat.le_of_ble_eq_true rfl) dL_texts_403 ?_
  refine q_iload_n C dL_texts_406 rfl 0 rfl ?_
  refine q_iconst (v := (1 : Int32)) C dL_texts_407 (by decide) ?_
  refine q_iadd_v (v := (36 : Int32)) C dL_texts_408 (by decide) ?_
  refine q_icmp_eq_t C 414 dL_texts_409 (by decide) (by decide) ?_
  refine q_iinc (v := (36 : Int32)) C dL_texts_414 0 rfl (by decide) (by decide) rfl ?_
  refine q_goto (tgt := 394) C dL_texts_417 (by decide) ?_
  refine q_iload_n C dL_texts_394 rfl 0 rfl ?_
  refine q_bipush (v := (60 : Int32)) C dL_texts_395 (by decide) ?_
  refine q_icmp_ge_f C 420 dL_texts_397 (by decide) (by decide) ?_
  refine q_aload_n C dL_texts_400 rfl 1 rfl ?_
  refine q_bipush (v := (49 : Int32)) C dL_texts_401 (by decide) ?_
  refine o_type C ts53 ⟨Nat.le_of_ble_eq_true rfl, Nat.le_of_ble_eq_true rfl⟩ ⟨Nat.le_of_ble_eq_true rfl, Nat.le_of_ble_eq_true rfl⟩ (Nat.le_of_ble_eq_true rfl) dL_texts_403 ?_
  refine q_iload_n C dL_texts_406 rfl 0 rfl ?_
  refine q_iconst (v := (1 : Int32)) C dL_texts_407 (by decide) ?_
  refine q_iadd_v (v := (37 : Int32)) C dL_texts_408 (by decide) ?_
  refine q_icmp_eq_t C 414 dL_texts_409 (by decide) (by decide) ?_
  refine q_iinc (v := (37 : Int32)) C dL_texts_414 0 rfl (by decide) (by decide) rfl ?_
  refine q_goto (tgt := 394) C dL_texts_417 (by decide) ?_
  refine q_iload_n C dL_texts_394 rfl 0 rfl ?_
  refine q_bipush (v := (60 : Int32)) C dL_texts_395 (by decide) ?_
  refine q_icmp_ge_f C 420 dL_texts_397 (by decide) (by decide) ?_
  refine q_aload_n C dL_texts_400 rfl 1 rfl ?_
  refine q_bipush (v := (49 : Int32)) C dL_texts_401 (by decide) ?_
  refine o_type C ts54 ⟨Nat.le_of_ble_eq_true rfl, Nat.le_of_ble_eq_true rfl⟩ ⟨Nat.le_of_ble_eq_true rfl, Nat.le_of_ble_eq_true rfl⟩ (Nat.le_of_ble_eq_true rfl) dL_texts_403 ?_
  refine q_iload_n C dL_texts_406 rfl 0 rfl ?_
  refine q_iconst (v := (1 : Int32)) C dL_texts_407 (by decide) ?_
  refine q_iadd_v (v := (38 : Int32)) C dL_texts_408 (by decide) ?_
  refine q_icmp_eq_t C 414 dL_texts_409 (by decide) (by decide) ?_
  refine q_iinc (v := (38 : Int32)) C dL_texts_414 0 rfl (by decide) (by decide) rfl ?_
  refine q_goto (tgt := 394) C dL_texts_417 (by decide) ?_
  refine q_iload_n C dL_texts_394 rfl 0 rfl ?_
  refine q_bipush (v := (60 : Int32)) C dL_texts_395 (by decide) ?_
  refine q_icmp_ge_f C 420 dL_texts_397 (by decide) (by decide) ?_
  refine q_aload_n C dL_texts_400 rfl 1 rfl ?_
  refine q_bipush (v := (49 : Int32)) C dL_texts_401 (by decide) ?_
  refine o_type C ts55 ⟨Nat.le_of_ble_eq_true rfl, Nat.le_of_ble_eq_true rfl⟩ ⟨Nat.le_of_ble_eq_true rfl, Nat.le_of_ble_eq_true rfl⟩ (Nat.le_of_ble_eq_true rfl) dL_texts_403 ?_
  refine q_iload_n C dL_texts_406 rfl 0 rfl ?_
  refine q_iconst (v := (1 : Int32)) C dL_texts_407 (by decide) ?_
  refine q_iadd_v (v := (39 : Int32)) C dL_texts_408 (by decide) ?_
  refine q_icmp_eq_t C 414 dL_texts_409 (by decide) (by decide) ?_
  refine q_iinc (v := (39 : Int32)) C dL_texts_414 0 rfl (by decide) (by decide) rfl ?_
  refine q_goto (tgt := 394) C dL_texts_417 (by decide) ?_
  refine q_iload_n C dL_texts_394 rfl 0 rfl ?_
  refine q_bipush (v := (60 : Int32)) C dL_texts_395 (by decide) ?_
  refine q_icmp_ge_f C 420 dL_texts_397 (by decide) (by decide) ?_
  exact next
set_option maxHeartbeats 8000000 in
theorem texts_5 {p : Program} {l : Launch} {e : Env} {s : State} {m : MethodId} {args : Array Value} {below : List Frame} {meth : Method} {c : Code} {D : va_G} {cs : Nat → ClassId} {Q : State → Prop} {ad : Nat → Nat} (C : CQ p s m args meth c cL_texts 2 D cs) (next : VX p l e (rmC 7 4335 29954) s m args below meth c 2 D (fun q => s.heap.size ≤ q) 4335 29954 Q (gW cs ad tg62 []) 414 [(1, .int (48 : Int32)), (0, .ref (ad 0))] []) : VX p l e (rmC 7 4335 29954) s m args below meth c 2 D (fun q => s.heap.size ≤ q) 4335 29954 Q (gW cs ad tg52 []) 400 [(1, .int (39 : Int32)), (0, .ref (ad 0))] [] := by
  refine q_aload_n C dL_texts_400 rfl 1 rfl ?_
  refine q_bipush (v := (49 : Int32)) C dL_texts_401 (by decide) ?_
  refine o_type C ts56 ⟨Nat.le_of_ble_eq_true rfl, Nat.le_of_ble_eq_true rfl⟩ ⟨Nat.le_of_ble_eq_true rfl, Nat.le_of_ble_eq_true rfl⟩ (Nat.le_of_ble_eq_true rfl) dL_texts_403 ?_
  refine q_iload_n C dL_texts_406 rfl 0 rfl ?_
  refine q_iconst (v := (1 : Int32)) C dL_texts_407 (by decide) ?_
  refine q_iadd_v (v := (40 : Int32)) C dL_texts_408 (by decide) ?_
  refine q_icmp_eq_t C 414 dL_texts_409 (by decide) (by decide) ?_
  refine q_iinc (v := (40 : Int32)) C dL_texts_414 0 rfl (by decide) (by decide) rfl ?_
  refine q_goto (tgt := 394) C dL_texts_417 (by decide) ?_
  refine q_iload_n C dL_texts_394 rfl 0 rfl ?_
  refine q_bipush (v := (60 : Int32)) C dL_texts_395 (by decide) ?_
  refine q_icmp_ge_f C 420 dL_texts_397 (by decide) (by decide) ?_
  refine q_aload_n C dL_texts_400 rfl 1 rfl ?_
  refine q_bipush (v := (49 : Int32)) C dL_texts_401 (by decide) ?_
  refine o_type C ts57 ⟨Nat.le_of_ble_eq_true rfl, Nat.le_of_ble_eq_true rfl⟩ ⟨Nat.le_of_ble_eq_true rfl, Nat.le_of_ble_eq_true rfl⟩ (Nat.le_of_ble_eq_true rfl) dL_texts_403 ?_
  refine q_iload_n C dL_texts_406 rfl 0 rfl ?_
  refine q_iconst (v := (1 : Int32)) C dL_texts_407 (by decide) ?_
  refine q_iadd_v (v := (41 : Int32)) C dL_texts_408 (by decide) ?_
  refine q_icmp_eq_t C 414 dL_texts_409 (by decide) (by decide) ?_
  refine q_iinc (v := (41 : Int32)) C dL_texts_414 0 rfl (by decide) (by decide) rfl ?_
  refine q_goto (tgt := 394) C dL_texts_417 (by decide) ?_
  refine q_iload_n C dL_texts_394 rfl 0 rfl ?_
  refine q_bipush (v := (60 : Int32)) C dL_texts_395 (by decide) ?_
  refine q_icmp_ge_f C 420 dL_texts_397 (by decide) (by decide) ?_
  refine q_aload_n C dL_texts_400 rfl 1 rfl ?_
  refine q_bipush (v := (49 : Int32)) C dL_texts_401 (by decide) ?_
  refine o_type C ts58 ⟨Nat.le_of_ble_eq_true rfl, Nat.le_of_ble_eq_true rfl⟩ ⟨Nat.le_of_ble_eq_true rfl, Nat.le_of_ble_eq_true rfl⟩ (Nat.le_of_ble_eq_true rfl) dL_texts_403 ?_
  refine q_iload_n C dL_texts_406 rfl 0 rfl ?_
  refine q_iconst (v := (1 : Int32)) C dL_texts_407 (by decide) ?_
  refine q_iadd_v (v := (42 : Int32)) C dL_texts_408 (by decide) ?_
  refine q_icmp_eq_t C 414 dL_texts_409 (by decide) (by decide) ?_
  refine q_iinc (v := (42 : Int32)) C dL_texts_414 0 rfl (by decide) (by decide) rfl ?_
  refine q_goto (tgt := 394) C dL_texts_417 (by decide) ?_
  refine q_iload_n C dL_texts_394 rfl 0 rfl ?_
  refine q_bipush (v := (60 : Int32)) C dL_texts_395 (by decide) ?_
  refine q_icmp_ge_f C 420 dL_texts_397 (by decide) (by decide) ?_
  refine q_aload_n C dL_texts_400 rfl 1 rfl ?_
  refine q_bipush (v := (49 : Int32)) C dL_texts_401 (by decide) ?_
  refine o_type C ts59 ⟨Nat.le_of_ble_eq_true rfl, Nat.le_of_ble_eq_true rfl⟩ ⟨Nat.le_of_ble_eq_true rfl, Nat.le_of_ble_eq_true rfl⟩ (Nat.le_of_ble_eq_true rfl) dL_texts_403 ?_
  refine q_iload_n C dL_texts_406 rfl 0 rfl ?_
  refine q_iconst (v := (1 : Int32)) C dL_texts_407 (by decide) ?_
  refine q_iadd_v (v := (43 : Int32)) C dL_texts_408 (by decide) ?_
  refine q_icmp_eq_t C 414 dL_texts_409 (by decide) (by decide) ?_
  refine q_iinc (v := (43 : Int32)) C dL_texts_414 0 rfl (by decide) (by decide) rfl ?_
  refine q_goto (tgt := 394) C dL_texts_417 (by decide) ?_
  refine q_iload_n C dL_texts_394 rfl 0 rfl ?_
  refine q_bipush (v := (60 : Int32)) C dL_texts_395 (by decide) ?_
  refine q_icmp_ge_f C 420 dL_texts_397 (by decide) (by decide) ?_
  refine q_aload_n C dL_texts_400 rfl 1 rfl ?_
  refine q_bipush (v := (49 : Int32)) C dL_texts_401 (by decide) ?_
  refine o_type C ts60 ⟨Nat.le_of_ble_eq_true rfl, Nat.le_of_ble_eq_true rfl⟩ ⟨Nat.le_of_ble_eq_true rfl, Nat.le_of_ble_eq_true rfl⟩ (Nat.le_of_ble_eq_true rfl) dL_texts_403 ?_
  refine q_iload_n C dL_texts_406 rfl 0 rfl ?_
  refine q_iconst (v := (1 : Int32)) C dL_texts_407 (by decide) ?_
  refine q_iadd_v (v := (44 : Int32)) C dL_texts_408 (by decide) ?_
  refine q_icmp_eq_t C 414 dL_texts_409 (by decide) (by decide) ?_
  refine q_iinc (v := (44 : Int32)) C dL_texts_414 0 rfl (by decide) (by decide) rfl ?_
  refine q_goto (tgt := 394) C dL_texts_417 (by decide) ?_
  refine q_iload_n C dL_texts_394 rfl 0 rfl ?_
  refine q_bipush (v := (60 : Int32)) C dL_texts_395 (by decide) ?_
  refine q_icmp_ge_f C 420 dL_texts_397 (by decide) (by decide) ?_
  refine q_aload_n C dL_texts_400 rfl 1 rfl ?_
  refine q_bipush (v := (49 : Int32)) C dL_texts_401 (by decide) ?_
  refine o_type C ts61 ⟨Nat.le_of_ble_eq_true rfl, Nat.le_of_ble_eq_true rfl⟩ ⟨Nat.le_of_ble_eq_true rfl, Nat.le_of_ble_eq_true rfl⟩ (Nat.le_of_ble_eq_true rfl) dL_texts_403 ?_
  refine q_iload_n C dL_texts_406 rfl 0 rfl ?_
  refine q_iconst (v := (1 : Int32)) C dL_texts_407 (by decide) ?_
  refine q_iadd_v (v := (45 : Int32)) C dL_texts_408 (by decide) ?_
  refine q_icmp_eq_t C 414 dL_texts_409 (by decide) (by decide) ?_
  refine q_iinc (v := (45 : Int32)) C dL_texts_414 0 rfl (by decide) (by decide) rfl ?_
  refine q_goto (tgt := 394) C dL_texts_417 (by decide) ?_
  refine q_iload_n C dL_texts_394 rfl 0 rfl ?_
  refine q_bipush (v := (60 : Int32)) C dL_texts_395 (by decide) ?_
  refine q_icmp_ge_f C 420 dL_texts_397 (by decide) (by decide) ?_
  refine q_aload_n C dL_texts_400 rfl 1 rfl ?_
  refine q_bipush (v := (49 : Int32)) C dL_texts_401 (by decide) ?_
  refine o_type C ts62 ⟨Nat.le_of_ble_eq_true rfl, Nat.le_of_ble_eq_true rfl⟩ ⟨Nat.le_of_ble_eq_true rfl, Nat.le_of_ble_eq_true rfl⟩ (Nat.le_of_ble_eq_true rfl) dL_texts_403 ?_
  refine q_iload_n C dL_texts_406 rfl 0 rfl ?_
  refine q_iconst (v := (1 : Int32)) C dL_texts_407 (by decide) ?_
  refine q_iadd_v (v := (46 : Int32)) C dL_texts_408 (by decide) ?_
  refine q_icmp_eq_t C 414 dL_texts_409 (by decide) (by decide) ?_
  refine q_iinc (v := (46 : Int32)) C dL_texts_414 0 rfl (by decide) (by decide) rfl ?_
  refine q_goto (tgt := 394) C dL_texts_417 (by decide) ?_
  refine q_iload_n C dL_texts_394 rfl 0 rfl ?_
  refine q_bipush (v := (60 : Int32)) C dL_texts_395 (by decide) ?_
  refine q_icmp_ge_f C 420 dL_texts_397 (by decide) (by decide) ?_
  refine q_aload_n C dL_texts_400 rfl 1 rfl ?_
  refine q_bipush (v := (49 : Int32)) C dL_texts_401 (by decide) ?_
  refine o_type C ts63 ⟨Nat.le_of_ble_eq_true rfl, Nat.le_of_ble_eq_true rfl⟩ ⟨Nat.le_of_ble_eq_true rfl, Nat.le_of_ble_eq_true rfl⟩ (Nat.le_of_ble_eq_true rfl) dL_texts_403 ?_
  refine q_iload_n C dL_texts_406 rfl 0 rfl ?_
  refine q_iconst (v := (1 : Int32)) C dL_texts_407 (by decide) ?_
  refine q_iadd_v (v := (47 : Int32)) C dL_texts_408 (by decide) ?_
  refine q_icmp_eq_t C 414 dL_texts_409 (by decide) (by decide) ?_
  refine q_iinc (v := (47 : Int32)) C dL_texts_414 0 rfl (by decide) (by decide) rfl ?_
  refine q_goto (tgt := 394) C dL_texts_417 (by decide) ?_
  refine q_iload_n C dL_texts_394 rfl 0 rfl ?_
  refine q_bipush (v := (60 : Int32)) C dL_texts_395 (by decide) ?_
  refine q_icmp_ge_f C 420 dL_texts_397 (by decide) (by decide) ?_
  refine q_aload_n C dL_texts_400 rfl 1 rfl ?_
  refine q_bipush (v := (49 : Int32)) C dL_texts_401 (by decide) ?_
  refine o_type C ts64 ⟨Nat.le_of_ble_eq_true rfl, Nat.le_of_ble_eq_true rfl⟩ ⟨Nat.le_of_ble_eq_true rfl, Nat.le_of_ble_eq_true rfl⟩ (Nat.le_of_ble_eq_true rfl) dL_texts_403 ?_
  refine q_iload_n C dL_texts_406 rfl 0 rfl ?_
  refine q_iconst (v := (1 : Int32)) C dL_texts_407 (by decide) ?_
  refine q_iadd_v (v := (48 : Int32)) C dL_texts_408 (by decide) ?_
  refine q_icmp_eq_t C 414 dL_texts_409 (by decide) (by decide) ?_
  refine q_iinc (v := (48 : Int32)) C dL_texts_414 0 rfl (by decide) (by decide) rfl ?_
  refine q_goto (tgt := 394) C dL_texts_417 (by decide) ?_
  refine q_iload_n C dL_texts_394 rfl 0 rfl ?_
  refine q_bipush (v := (60 : Int32)) C dL_texts_395 (by decide) ?_
  refine q_icmp_ge_f C 420 dL_texts_397 (by decide) (by decide) ?_
  refine q_aload_n C dL_texts_400 rfl 1 rfl ?_
  refine q_bipush (v := (49 : Int32)) C dL_texts_401 (by decide) ?_
  refine o_type C ts65 ⟨Nat.le_of_ble_eq_true rfl, Nat.le_of_ble_eq_true rfl⟩ ⟨Nat.le_of_ble_eq_true rfl, Nat.le_of_ble_eq_true rfl⟩ (Nat.le_of_ble_eq_true rfl) dL_texts_403 ?_
  refine q_iload_n C dL_texts_406 rfl 0 rfl ?_
  refine q_iconst (v := (1 : Int32)) C dL_texts_407 (by decide) ?_
  refine q_iadd_v (v := (49 : Int32)) C dL_texts_408 (by decide) ?_
  refine q_icmp_eq_t C 414 dL_texts_409 (by decide) (by decide) ?_
  exact next
set_option maxHeartbeats 8000000 in
theorem texts_6 {p : Program} {l : Launch} {e : Env} {s : State} {m : MethodId} {args : Array Value} {below : List Frame} {meth : Method} {c : Code} {D : va_G} {cs : Nat → ClassId} {Q : State → Prop} {ad : Nat → Nat} (C : CQ p s m args meth c cL_texts 2 D cs) (next : VX p l e (rmC 7 4335 29954) s m args below meth c 2 D (fun q => s.heap.size ≤ q) 4335 29954 Q (gW cs ad tg71 []) 400 [(1, .int (58 : Int32)), (0, .ref (ad 0))] []) : VX p l e (rmC 7 4335 29954) s m args below meth c 2 D (fun q => s.heap.size ≤ q) 4335 29954 Q (gW cs ad tg62 []) 414 [(1, .int (48 : Int32)), (0, .ref (ad 0))] [] := by
  refine q_iinc (v := (49 : Int32)) C dL_texts_414 0 rfl (by decide) (by decide) rfl ?_
  refine q_goto (tgt := 394) C dL_texts_417 (by decide) ?_
  refine q_iload_n C dL_texts_394 rfl 0 rfl ?_
  refine q_bipush (v := (60 : Int32)) C dL_texts_395 (by decide) ?_
  refine q_icmp_ge_f C 420 dL_texts_397 (by decide) (by decide) ?_
  refine q_aload_n C dL_texts_400 rfl 1 rfl ?_
  refine q_bipush (v := (49 : Int32)) C dL_texts_401 (by decide) ?_
  refine o_type C ts66 ⟨Nat.le_of_ble_eq_true rfl, Nat.le_of_ble_eq_true rfl⟩ ⟨Nat.le_of_ble_eq_true rfl, Nat.le_of_ble_eq_true rfl⟩ (Nat.le_of_ble_eq_true rfl) dL_texts_403 ?_
  refine q_iload_n C dL_texts_406 rfl 0 rfl ?_
  refine q_iconst (v := (1 : Int32)) C dL_texts_407 (by decide) ?_
  refine q_iadd_v (v := (50 : Int32)) C dL_texts_408 (by decide) ?_
  refine q_icmp_eq_t C 414 dL_texts_409 (by decide) (by decide) ?_
  refine q_iinc (v := (50 : Int32)) C dL_texts_414 0 rfl (by decide) (by decide) rfl ?_
  refine q_goto (tgt := 394) C dL_texts_417 (by decide) ?_
  refine q_iload_n C dL_texts_394 rfl 0 rfl ?_
  refine q_bipush (v := (60 : Int32)) C dL_texts_395 (by decide) ?_
  refine q_icmp_ge_f C 420 dL_texts_397 (by decide) (by decide) ?_
  refine q_aload_n C dL_texts_400 rfl 1 rfl ?_
  refine q_bipush (v := (49 : Int32)) C dL_texts_401 (by decide) ?_
  refine o_type C ts67 ⟨Nat.le_of_ble_eq_true rfl, Nat.le_of_ble_eq_true rfl⟩ ⟨Nat.le_of_ble_eq_true rfl, Nat.le_of_ble_eq_true rfl⟩ (Nat.le_of_ble_eq_true rfl) dL_texts_403 ?_
  refine q_iload_n C dL_texts_406 rfl 0 rfl ?_
  refine q_iconst (v := (1 : Int32)) C dL_texts_407 (by decide) ?_
  refine q_iadd_v (v := (51 : Int32)) C dL_texts_408 (by decide) ?_
  refine q_icmp_eq_t C 414 dL_texts_409 (by decide) (by decide) ?_
  refine q_iinc (v := (51 : Int32)) C dL_texts_414 0 rfl (by decide) (by decide) rfl ?_
  refine q_goto (tgt := 394) C dL_texts_417 (by decide) ?_
  refine q_iload_n C dL_texts_394 rfl 0 rfl ?_
  refine q_bipush (v := (60 : Int32)) C dL_texts_395 (by decide) ?_
  refine q_icmp_ge_f C 420 dL_texts_397 (by decide) (by decide) ?_
  refine q_aload_n C dL_texts_400 rfl 1 rfl ?_
  refine q_bipush (v := (49 : Int32)) C dL_texts_401 (by decide) ?_
  refine o_type C ts68 ⟨Nat.le_of_ble_eq_true rfl, Nat.le_of_ble_eq_true rfl⟩ ⟨Nat.le_of_ble_eq_true rfl, Nat.le_of_ble_eq_true rfl⟩ (Nat.le_of_ble_eq_true rfl) dL_texts_403 ?_
  refine q_iload_n C dL_texts_406 rfl 0 rfl ?_
  refine q_iconst (v := (1 : Int32)) C dL_texts_407 (by decide) ?_
  refine q_iadd_v (v := (52 : Int32)) C dL_texts_408 (by decide) ?_
  refine q_icmp_eq_t C 414 dL_texts_409 (by decide) (by decide) ?_
  refine q_iinc (v := (52 : Int32)) C dL_texts_414 0 rfl (by decide) (by decide) rfl ?_
  refine q_goto (tgt := 394) C dL_texts_417 (by decide) ?_
  refine q_iload_n C dL_texts_394 rfl 0 rfl ?_
  refine q_bipush (v := (60 : Int32)) C dL_texts_395 (by decide) ?_
  refine q_icmp_ge_f C 420 dL_texts_397 (by decide) (by decide) ?_
  refine q_aload_n C dL_texts_400 rfl 1 rfl ?_
  refine q_bipush (v := (49 : Int32)) C dL_texts_401 (by decide) ?_
  refine o_type C ts69 ⟨Nat.le_of_ble_eq_true rfl, Nat.le_of_ble_eq_true rfl⟩ ⟨Nat.le_of_ble_eq_true rfl, Nat.le_of_ble_eq_true rfl⟩ (Nat.le_of_ble_eq_true rfl) dL_texts_403 ?_
  refine q_iload_n C dL_texts_406 rfl 0 rfl ?_
  refine q_iconst (v := (1 : Int32)) C dL_texts_407 (by decide) ?_
  refine q_iadd_v (v := (53 : Int32)) C dL_texts_408 (by decide) ?_
  refine q_icmp_eq_t C 414 dL_texts_409 (by decide) (by decide) ?_
  refine q_iinc (v := (53 : Int32)) C dL_texts_414 0 rfl (by decide) (by decide) rfl ?_
  refine q_goto (tgt := 394) C dL_texts_417 (by decide) ?_
  refine q_iload_n C dL_texts_394 rfl 0 rfl ?_
  refine q_bipush (v := (60 : Int32)) C dL_texts_395 (by decide) ?_
  refine q_icmp_ge_f C 420 dL_texts_397 (by decide) (by decide) ?_
  refine q_aload_n C dL_texts_400 rfl 1 rfl ?_
  refine q_bipush (v := (49 : Int32)) C dL_texts_401 (by decide) ?_
  refine o_type C ts70 ⟨Nat.le_of_ble_eq_true rfl, Nat.le_of_ble_eq_true rfl⟩ ⟨Nat.le_of_ble_eq_true rfl, Nat.le_of_ble_eq_true rfl⟩ (Nat.le_of_ble_eq_true rfl) dL_texts_403 ?_
  refine q_iload_n C dL_texts_406 rfl 0 rfl ?_
  refine q_iconst (v := (1 : Int32)) C dL_texts_407 (by decide) ?_
  refine q_iadd_v (v := (54 : Int32)) C dL_texts_408 (by decide) ?_
  refine q_icmp_eq_t C 414 dL_texts_409 (by decide) (by decide) ?_
  refine q_iinc (v := (54 : Int32)) C dL_texts_414 0 rfl (by decide) (by decide) rfl ?_
  refine q_goto (tgt := 394) C dL_texts_417 (by decide) ?_
  refine q_iload_n C dL_texts_394 rfl 0 rfl ?_
  refine q_bipush (v := (60 : Int32)) C dL_texts_395 (by decide) ?_
  refine q_icmp_ge_f C 420 dL_texts_397 (by decide) (by decide) ?_
  refine q_aload_n C dL_texts_400 rfl 1 rfl ?_
  refine q_bipush (v := (49 : Int32)) C dL_texts_401 (by decide) ?_
  refine o_type C ts71 ⟨Nat.le_of_ble_eq_true rfl, Nat.le_of_ble_eq_true rfl⟩ ⟨Nat.le_of_ble_eq_true rfl, Nat.le_of_ble_eq_true rfl⟩ (Nat.le_of_ble_eq_true rfl) dL_texts_403 ?_
  refine q_iload_n C dL_texts_406 rfl 0 rfl ?_
  refine q_iconst (v := (1 : Int32)) C dL_texts_407 (by decide) ?_
  refine q_iadd_v (v := (55 : Int32)) C dL_texts_408 (by decide) ?_
  refine q_icmp_eq_t C 414 dL_texts_409 (by decide) (by decide) ?_
  refine q_iinc (v := (55 : Int32)) C dL_texts_414 0 rfl (by decide) (by decide) rfl ?_
  refine q_goto (tgt := 394) C dL_texts_417 (by decide) ?_
  refine q_iload_n C dL_texts_394 rfl 0 rfl ?_
  refine q_bipush (v := (60 : Int32)) C dL_texts_395 (by decide) ?_
  refine q_icmp_ge_f C 420 dL_texts_397 (by decide) (by decide) ?_
  refine q_aload_n C dL_texts_400 rfl 1 rfl ?_
  refine q_bipush (v := (49 : Int32)) C dL_texts_401 (by decide) ?_
  refine o_type C ts72 ⟨Nat.le_of_ble_eq_true rfl, Nat.le_of_ble_eq_true rfl⟩ ⟨Nat.le_of_ble_eq_true rfl, Nat.le_of_ble_eq_true rfl⟩ (Nat.le_of_ble_eq_true rfl) dL_texts_403 ?_
  refine q_iload_n C dL_texts_406 rfl 0 rfl ?_
  refine q_iconst (v := (1 : Int32)) C dL_texts_407 (by decide) ?_
  refine q_iadd_v (v := (56 : Int32)) C dL_texts_408 (by decide) ?_
  refine q_icmp_eq_t C 414 dL_texts_409 (by decide) (by decide) ?_
  refine q_iinc (v := (56 : Int32)) C dL_texts_414 0 rfl (by decide) (by decide) rfl ?_
  refine q_goto (tgt := 394) C dL_texts_417 (by decide) ?_
  refine q_iload_n C dL_texts_394 rfl 0 rfl ?_
  refine q_bipush (v := (60 : Int32)) C dL_texts_395 (by decide) ?_
  refine q_icmp_ge_f C 420 dL_texts_397 (by decide) (by decide) ?_
  refine q_aload_n C dL_texts_400 rfl 1 rfl ?_
  refine q_bipush (v := (49 : Int32)) C dL_texts_401 (by decide) ?_
  refine o_type C ts73 ⟨Nat.le_of_ble_eq_true rfl, Nat.le_of_ble_eq_true rfl⟩ ⟨Nat.le_of_ble_eq_true rfl, Nat.le_of_ble_eq_true rfl⟩ (Nat.le_of_ble_eq_true rfl) dL_texts_403 ?_
  refine q_iload_n C dL_texts_406 rfl 0 rfl ?_
  refine q_iconst (v := (1 : Int32)) C dL_texts_407 (by decide) ?_
  refine q_iadd_v (v := (57 : Int32)) C dL_texts_408 (by decide) ?_
  refine q_icmp_eq_t C 414 dL_texts_409 (by decide) (by decide) ?_
  refine q_iinc (v := (57 : Int32)) C dL_texts_414 0 rfl (by decide) (by decide) rfl ?_
  refine q_goto (tgt := 394) C dL_texts_417 (by decide) ?_
  refine q_iload_n C dL_texts_394 rfl 0 rfl ?_
  refine q_bipush (v := (60 : Int32)) C dL_texts_395 (by decide) ?_
  refine q_icmp_ge_f C 420 dL_texts_397 (by decide) (by decide) ?_
  refine q_aload_n C dL_texts_400 rfl 1 rfl ?_
  refine q_bipush (v := (49 : Int32)) C dL_texts_401 (by decide) ?_
  refine o_type C ts74 ⟨Nat.le_of_ble_eq_true rfl, Nat.le_of_ble_eq_true rfl⟩ ⟨Nat.le_of_ble_eq_true rfl, Nat.le_of_ble_eq_true rfl⟩ (Nat.le_of_ble_eq_true rfl) dL_texts_403 ?_
  refine q_iload_n C dL_texts_406 rfl 0 rfl ?_
  refine q_iconst (v := (1 : Int32)) C dL_texts_407 (by decide) ?_
  refine q_iadd_v (v := (58 : Int32)) C dL_texts_408 (by decide) ?_
  refine q_icmp_eq_t C 414 dL_texts_409 (by decide) (by decide) ?_
  refine q_iinc (v := (58 : Int32)) C dL_texts_414 0 rfl (by decide) (by decide) rfl ?_
  refine q_goto (tgt := 394) C dL_texts_417 (by decide) ?_
  refine q_iload_n C dL_texts_394 rfl 0 rfl ?_
  refine q_bipush (v := (60 : Int32)) C dL_texts_395 (by decide) ?_
  refine q_icmp_ge_f C 420 dL_texts_397 (by decide) (by decide) ?_
  exact next
set_option maxHeartbeats 8000000 in
theorem texts_7 {p : Program} {l : Launch} {e : Env} {s : State} {m : MethodId} {args : Array Value} {below : List Frame} {meth : Method} {c : Code} {D : va_G} {cs : Nat → ClassId} {ad : Nat → Nat} (C : CQ p s m args meth c cL_texts 2 D cs) (hr : meth.sig.returnType = some .boolean) : VX p l e (rmC 7 4335 29954) s m args below meth c 2 D (fun q => s.heap.size ≤ q) 4335 29954 (MQ below (va_Qi (fun (r0 : Int32) (_ : Unit) => r0 = 1) (fun _ _ => True) (fun _ => False)) args s 4335 29954 (fun _ => False)) (gW cs ad tg71 []) 400 [(1, .int (58 : Int32)), (0, .ref (ad 0))] [] := by
  refine q_aload_n C dL_texts_400 rfl 1 rfl ?_
  refine q_bipush (v := (49 : Int32)) C dL_texts_401 (by decide) ?_
  refine o_type C ts75 ⟨Nat.le_of_ble_eq_true rfl, Nat.le_of_ble_eq_true rfl⟩ ⟨Nat.le_of_ble_eq_true rfl, Nat.le_of_ble_eq_true rfl⟩ (Nat.le_of_ble_eq_true rfl) dL_texts_403 ?_
  refine q_iload_n C dL_texts_406 rfl 0 rfl ?_
  refine q_iconst (v := (1 : Int32)) C dL_texts_407 (by decide) ?_
  refine q_iadd_v (v := (59 : Int32)) C dL_texts_408 (by decide) ?_
  refine q_icmp_eq_t C 414 dL_texts_409 (by decide) (by decide) ?_
  refine q_iinc (v := (59 : Int32)) C dL_texts_414 0 rfl (by decide) (by decide) rfl ?_
  refine q_goto (tgt := 394) C dL_texts_417 (by decide) ?_
  refine q_iload_n C dL_texts_394 rfl 0 rfl ?_
  refine q_bipush (v := (60 : Int32)) C dL_texts_395 (by decide) ?_
  refine q_icmp_ge_f C 420 dL_texts_397 (by decide) (by decide) ?_
  refine q_aload_n C dL_texts_400 rfl 1 rfl ?_
  refine q_bipush (v := (49 : Int32)) C dL_texts_401 (by decide) ?_
  refine o_type C ts76 ⟨Nat.le_of_ble_eq_true rfl, Nat.le_of_ble_eq_true rfl⟩ ⟨Nat.le_of_ble_eq_true rfl, Nat.le_of_ble_eq_true rfl⟩ (Nat.le_of_ble_eq_true rfl) dL_texts_403 ?_
  refine q_iload_n C dL_texts_406 rfl 0 rfl ?_
  refine q_iconst (v := (1 : Int32)) C dL_texts_407 (by decide) ?_
  refine q_iadd_v (v := (60 : Int32)) C dL_texts_408 (by decide) ?_
  refine q_icmp_eq_t C 414 dL_texts_409 (by decide) (by decide) ?_
  refine q_iinc (v := (60 : Int32)) C dL_texts_414 0 rfl (by decide) (by decide) rfl ?_
  refine q_goto (tgt := 394) C dL_texts_417 (by decide) ?_
  refine q_iload_n C dL_texts_394 rfl 0 rfl ?_
  refine q_bipush (v := (60 : Int32)) C dL_texts_395 (by decide) ?_
  refine q_icmp_ge_t C 420 dL_texts_397 (by decide) (by decide) ?_
  refine q_aload_n C dL_texts_420 rfl 1 rfl ?_
  refine q_bipush (v := (49 : Int32)) C dL_texts_421 (by decide) ?_
  refine o_type C ts77 ⟨Nat.le_of_ble_eq_true rfl, Nat.le_of_ble_eq_true rfl⟩ ⟨Nat.le_of_ble_eq_true rfl, Nat.le_of_ble_eq_true rfl⟩ (Nat.le_of_ble_eq_true rfl) dL_texts_423 ?_
  refine q_bipush (v := (-3 : Int32)) C dL_texts_426 (by decide) ?_
  refine q_icmp_ne_f C 453 dL_texts_428 (by decide) (by decide) ?_
  refine q_aload_n C dL_texts_431 rfl 1 rfl ?_
  refine o_readLists C ts78 ⟨Nat.le_of_ble_eq_true rfl, Nat.le_of_ble_eq_true rfl⟩ ⟨Nat.le_of_ble_eq_true rfl, Nat.le_of_ble_eq_true rfl⟩ (Nat.le_of_ble_eq_true rfl) dL_texts_432 ?_
  refine q_bipush (v := (-102 : Int32)) C dL_texts_435 (by decide) ?_
  refine q_icmp_ne_f C 453 dL_texts_437 (by decide) (by decide) ?_
  refine q_aload_n C dL_texts_440 rfl 1 rfl ?_
  refine o_clearText C ts79 ⟨Nat.le_of_ble_eq_true rfl, Nat.le_of_ble_eq_true rfl⟩ ⟨Nat.le_of_ble_eq_true rfl, Nat.le_of_ble_eq_true rfl⟩ (Nat.le_of_ble_eq_true rfl) dL_texts_441 ?_
  refine q_bipush (v := (60 : Int32)) C dL_texts_444 (by decide) ?_
  refine q_icmp_ne_f C 453 dL_texts_446 (by decide) (by decide) ?_
  refine q_iconst (v := (1 : Int32)) C dL_texts_449 (by decide) ?_
  refine q_goto (tgt := 454) C dL_texts_450 (by decide) ?_
  exact q_iretO C hr rfl ⟨Nat.le_of_ble_eq_true rfl, Nat.le_of_ble_eq_true rfl⟩ dL_texts_454
