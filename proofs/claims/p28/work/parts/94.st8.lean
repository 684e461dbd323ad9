theorem st_clear {M : Mem} {g : Gh} (G : GO g) (C : CL M g) : OkC M f_X7_clearText (tClear g) :=
  k_mk (g' := txg g 0 (gX g)) (r := nI (gN g)) rfl (txg_GO G (by omega) (fun i hi => absurd hi (Nat.not_lt_zero _))) ⟨up M 243 1 0, by unfold f_X7_clearText; rw [lt_e, C.2.2.2.1], C.tx G (fun q h1 _ => up_ne h1) up_same (fun i hi => absurd hi (Nat.not_lt_zero _)), fun q h => up_ne (by omega)⟩
theorem st_type {M : Mem} {g : Gh} (G : GO g) (C : CL M g) (a : Int32) : OkC M (f_X7_type a) (tType g a) := by
  have hn := G.2.2.2.1
  by_cases c : gN g < 60
  · refine k_mk (g' := txg g (gN g + 1) (fun i => if i = gN g then vp_nar .char a else gX g i)) (r := nI (gN g + 1)) (by unfold tType; rw [if_pos c]) (txg_GO G (by omega) (fun i hi => ?_)) ⟨up (up M 244 (gN g) (vp_nar .char a)) 243 1 (nI (gN g + 1)), ?_, C.tx G (fun q h1 h2 => by rw [up_ne h1, up_ne h2]) up_same (fun i hi => ?_), fun q h => by rw [up_ne (by omega), up_ne (by omega)]⟩
    · show (if i = gN g then vp_nar .char a else gX g i) ≠ -1
      by_cases e : i = gN g
      · rw [if_pos e]
        exact nar_char a
      · rw [if_neg e]
        exact G.2.2.2.2 i (by omega)
    · unfold f_X7_type f_X3_append
      rw [C.2.2.2.1, if_pos (show nI (gN g) < (60 : Int32) from (nIlt (b := 60) (by omega) (by omega)).mpr c), ck_t (inbN c (by omega)), nN (by omega), lt_e, up_ne (show 243 ≠ 244 by omega), C.2.2.2.1, lt_e, show (nI (gN g) : Int32) + 1 = nI (gN g + 1) from nI_1 _, bd_s, if_neg (show ¬ (1 : Int32) = 0 by decide), up_same]
    · rw [up_ne (by omega)]
      show _ = (if i = gN g then vp_nar .char a else gX g i)
      by_cases e : i = gN g
      · rw [if_pos e, e, up_same]
      · rw [if_neg e, up_other (by omega)]
        exact C.2.2.2.2 i (by omega)
  · refine k_q0 (r := -3) (by unfold tType; rw [if_neg c]) G C ?_
    unfold f_X7_type f_X3_append
    rw [C.2.2.2.1, if_neg (show ¬ nI (gN g) < (60 : Int32) from fun q => c ((nIlt (b := 60) (by omega) (by omega)).mp q)), bd_s, if_pos rfl]
