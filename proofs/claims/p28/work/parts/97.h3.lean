/-! homes -/
set_option maxHeartbeats 4000000 in
theorem c_homes : CoI yL_homes wq_homes 8 510 3524 [] 1 := by
  refine q_metO (cc := cL_homes) (maxL := 3) (ret := .boolean) rfl (by decide) rfl (Nat.le_of_ble_eq_true rfl) (fun p l e s m args below meth c D cs C hXL hr => ?_)
  refine q_new C hXL ⟨Nat.le_of_ble_eq_true rfl, Nat.le_of_ble_eq_true rfl⟩ ⟨Nat.le_of_ble_eq_true rfl, Nat.le_of_ble_eq_true rfl⟩ (fun _ h => h) (Nat.le_of_ble_eq_true rfl) dL_homes_0 dL_homes_3 dL_homes_4 (fun ad => ?_)
  refine q_astore_n C dL_homes_7 rfl (by decide) rfl ?_
  refine homes_0 C ?_
  refine homes_1 C ?_
  refine homes_2 C ?_
  refine homes_3 C ?_
  refine homes_4 C ?_
  refine q_new C hXL ⟨Nat.le_of_ble_eq_true rfl, Nat.le_of_ble_eq_true rfl⟩ ⟨Nat.le_of_ble_eq_true rfl, Nat.le_of_ble_eq_true rfl⟩ (fun _ h => h) (Nat.le_of_ble_eq_true rfl) dL_homes_993 dL_homes_996 dL_homes_997 (fun ad => ?_)
  refine q_astore_n C dL_homes_1000 rfl (by decide) rfl ?_
  refine homes_5 C ?_
  refine homes_6 C ?_
  refine homes_7 C ?_
  refine homes_8 C ?_
  exact homes_9 C hr
