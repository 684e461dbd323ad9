set_option maxHeartbeats 4000000 in
set_option maxRecDepth 100000 in
theorem cl_X8_swap_20 {p : Program} {l : Launch} {e : Env} {s : State} {m : MethodId} {args : Array Value} {below : List Frame} {meth : Method} {c : Code} {D : va_G} {cs : Nat → ClassId} {ad : Nat → Nat} (C : Cx p s m args meth c RX8 cX8_swap 3 wsX8_swap D cs ad) (hr : meth.sig.returnType = some .int)  {r : Int32} {M' : Mem}  : ∀ (n : Nat) (a1 : Int32) (a2 : Int32) (M : Mem), l_X8_swap_20 n a1 a2 M = some (r, M') → V p l e (rmk 6) s m args below meth c 3 D cs ad (QI below s args D cs ad r M') 20 [some (.ref (ad 255)), some (.int a1), some (.int a2)] [] M := by
  intro n
  induction n with
  | zero => intro a1 a2 M hf; cases hf
  | succ n ih =>
    intro a1 a2 M hf
    rw [l_X8_swap_20_s] at hf
    refine x_iload_n C dX8_swap_20 rfl rfl ?_
    refine x_bipush (v := (-5 : Int32)) C dX8_swap_21 (by decide) ?_
    refine x_icmp_eq (tgt := 42) C dX8_swap_23 (by decide) (fun q8 => ?_) (fun q8 => ?_)
    · have hf := ift q8 hf
      refine x_iload_n C dX8_swap_42 rfl rfl ?_
      exact x_iret C hr hf dX8_swap_43
    · have hf := iff_ q8 hf
      refine x_iload_n C dX8_swap_26 rfl rfl ?_
      refine x_aload_n C dX8_swap_27 rfl rfl ?_
      refine x_iload_n C dX8_swap_28 rfl rfl ?_
      obtain ⟨r9, M10, e11, hf⟩ := bd_of hf
      refine x_callV (n := 1) (Cn := RX8) (T := TX8) (N := 13) (As := [.int a1]) (rest := [.int a2]) (maxL := 5) (ret := (some .int)) C (c_X8_swaps  e11) gX8_swap_X8_swaps rfl (by decide +kernel) ⟨Nat.le_of_ble_eq_true rfl, Nat.le_of_ble_eq_true rfl⟩ tg_255 (by decide) rfl rfl rfl rfl (Nat.le_of_ble_eq_true rfl) dX8_swap_29 ?_
      refine x_iadd C dX8_swap_32 ?_
      refine x_istore_n (lv' := [some (.ref (ad 255)), some (.int a1), some (.int (a2 + r9))]) C dX8_swap_33 rfl (by decide) rfl ?_
      refine x_aload_n C dX8_swap_34 rfl rfl ?_
      obtain ⟨r12, M13, e14, hf⟩ := bd_of hf
      refine x_callV (n := 0) (Cn := RX8) (T := TX8) (N := 13) (As := []) (rest := []) (maxL := 2) (ret := (some .int)) C (c_X8_lowestInRing  e14) gX8_swap_X8_lowestInRing rfl (by decide +kernel) ⟨Nat.le_of_ble_eq_true rfl, Nat.le_of_ble_eq_true rfl⟩ tg_255 (by decide) rfl rfl rfl rfl (Nat.le_of_ble_eq_true rfl) dX8_swap_35 ?_
      refine x_istore_n (lv' := [some (.ref (ad 255)), some (.int r12), some (.int (a2 + r9))]) C dX8_swap_38 rfl (by decide) rfl ?_
      refine x_goto (tgt := 20) C dX8_swap_39 (by decide) ?_
      exact x_weak (ih _ _ _ hf) [0, 1, 2] rfl

set_option maxHeartbeats 4000000 in
set_option maxRecDepth 100000 in
theorem c_X8_swap  {M : Mem} {r : Int32} {M' : Mem}  (hf : f_X8_swap  M = some (r, M')) : CnI yX8_swap wsX8_swap 6 (fun ad => [.ref (ad 255)]) M r M' := by
  unfold f_X8_swap at hf
  refine x_metI (cc := cX8_swap) (maxL := 3) RX8 rfl (by decide) rfl (fun ad => Nat.le_of_ble_eq_true rfl) (fun ad v hv => ?_) (fun p l e s m args below meth c D cs ad C hr => ?_)
  · simp only [List.mem_cons, List.not_mem_nil, or_false] at hv
    rcases hv with rfl <;> rfl
  · show V p l e (rmk 6) s m args below meth c 3 D cs ad (QI below s args D cs ad r M') 0 [some (.ref (ad 255)), none, none] [] M
    refine x_aload_n C dX8_swap_0 rfl rfl ?_
    obtain ⟨r1, M2, e3, hf⟩ := bd_of hf
    refine x_callV (n := 0) (Cn := RX8) (T := TX8) (N := 13) (As := []) (rest := []) (maxL := 2) (ret := (some .int)) C (c_X8_lowestInRing  e3) gX8_swap_X8_lowestInRing rfl (by decide +kernel) ⟨Nat.le_of_ble_eq_true rfl, Nat.le_of_ble_eq_true rfl⟩ tg_255 (by decide) rfl rfl rfl rfl (Nat.le_of_ble_eq_true rfl) dX8_swap_1 ?_
    refine x_istore_n (lv' := [some (.ref (ad 255)), some (.int r1), none]) C dX8_swap_4 rfl (by decide) rfl ?_
    refine x_iload_n C dX8_swap_5 rfl rfl ?_
    refine x_bipush (v := (-5 : Int32)) C dX8_swap_6 (by decide) ?_
    refine x_icmp_ne (tgt := 14) C dX8_swap_8 (by decide) (fun q4 => ?_) (fun q4 => ?_)
    · have hf := ift q4 hf
      refine x_bipush (v := (-5 : Int32)) C dX8_swap_11 (by decide) ?_
      exact x_iret C hr hf dX8_swap_13
    · have hf := iff_ q4 hf
      refine x_aload_n C dX8_swap_14 rfl rfl ?_
      obtain ⟨r5, M6, e7, hf⟩ := bd_of hf
      refine x_callVv (n := 0) (Cn := RX8) (T := TX8) (N := 13) (As := []) (rest := []) (maxL := 2) (ret := none) C (c_X8_records  e7) gX8_swap_X8_records rfl (by decide +kernel) ⟨Nat.le_of_ble_eq_true rfl, Nat.le_of_ble_eq_true rfl⟩ tg_255 (by decide) rfl rfl rfl rfl (Nat.le_of_ble_eq_true rfl) dX8_swap_15 ?_
      refine x_iconst (v := (0 : Int32)) C dX8_swap_18 (by decide) ?_
      refine x_istore_n (lv' := [some (.ref (ad 255)), some (.int r1), some (.int (0 : Int32))]) C dX8_swap_19 rfl (by decide) rfl ?_
      exact x_weak (cl_X8_swap_20 C hr  _ _ _ _ hf) [0, 1, 2] rfl

