theorem st_addFlat {M : Mem} {g : Gh} (G : GO g) (C : CL M g) (a b : Int32) : OkC M (f_X7_addFlat a b) (tAddFlat g a b) := by
  have hI := G.1.1
  have R := C.1
  have b0 := hI.h0l
  by_cases c1 : (1 : Int32) ≤ a ∧ a ≤ 5
  · by_cases c2 : (1 : Int32) ≤ b ∧ b ≤ 999
    · by_cases c3 : nf g.1 < 12
      · obtain ⟨j, rfl, j1, j2⟩ := rng (n := 5) (by omega) c1
        obtain ⟨k, rfl, k1, k2⟩ := rng (n := 999) (by omega) c2
        refine k_st (s' := adF g.1 (nI j) (nI k)) (r := nI (nf g.1)) (by unfold tAddFlat; rw [if_pos c1, if_pos c2, if_pos c3]) G (adF_inv hI c3 j1 j2 k1 k2) (((G.1.2.up (by omega)).up (by omega)).up (by omega)) ?_
        · obtain ⟨M1, e1, e2, e3⟩ := k_record G C
          have R1 := e2.1
          obtain ⟨⟨r0, r1, r2, r3, r4⟩, rf, rh⟩ := id R1
          have r0' : M1 1 2 = nI (nf g.1) := r0.trans hI.h0
          refine ⟨M1, up (up (up M1 (5 + nf g.1) 0 (nI j)) (5 + nf g.1) 1 (nI k)) 1 2 (nI (nf g.1 + 1)), ?_, e2, ⟨⟨?_, ?_, ?_, ?_, ?_⟩, fun f hf => ?_, fun o ho => ?_⟩, fun q _ _ _ => by rw [up_ne (by omega), up_ne (by omega), up_ne (by omega)], by rw [up_ne (by omega), up_ne (by omega), up_ne (by omega)], fun q hq => by rw [up_ne (by omega), up_ne (by omega), up_ne (by omega), e3 q (by omega)]⟩
          · unfold f_X7_addFlat
            rw [within_n, bd_s, decide_eq_true c1, if_neg bIne, within_n, bd_s, decide_eq_true c2, if_neg bIne, R.n0, hI.h0, if_pos ((n12lt b0).mpr c3), e1, bd_s, r0', ck_t (inbN c3 (by omega)), nN (by omega), lt_e, lt_e, up_ne (show 1 ≠ 5 + nf g.1 by omega), up_ne (show 1 ≠ 5 + nf g.1 by omega), r0', lt_e, show (nI (nf g.1) : Int32) + 1 = nI (nf g.1 + 1) from nI_1 _, up_same, show (1 : Int32) = nI 1 from rfl, pk_sub (by omega)]
            rfl
          · rw [up_same]
            exact ur_eq.symm
          · rw [up_other (by omega), up_ne (by omega), up_ne (by omega), adF_ne (by omega) (by omega) (by omega)]
            exact r1
          · rw [up_other (by omega), up_ne (by omega), up_ne (by omega), adF_ne (by omega) (by omega) (by omega)]
            exact r2
          · rw [up_other (by omega), up_ne (by omega), up_ne (by omega), adF_ne (by omega) (by omega) (by omega)]
            exact r3
          · rw [up_other (by omega), up_ne (by omega), up_ne (by omega), adF_ne (by omega) (by omega) (by omega)]
            exact r4
          · rw [adF_nf c3] at hf
            rw [up_ne (show 1 + 4 + f ≠ 1 by omega)]
            by_cases e : f = nf g.1
            · subst e
              have e5 : 1 + 4 + nf g.1 = 5 + nf g.1 := by omega
              rw [e5, up_same, up_other (by omega), up_same]
              unfold adF
              rw [ur_ne (by omega), ur_ne (by omega), ur_eq, ur_ne (by omega), ur_eq]
              exact ⟨rfl, rfl⟩
            · rw [up_ne (by omega), up_ne (by omega), adF_ne (by omega) (by omega) (by omega), adF_ne (i := 6 + 2 * f + 1) (by omega) (by omega) (by omega)]
              exact rf f (show f < nf g.1 by omega)
          · rw [adF_nh c3] at ho
            have b1 := hI.h1l
            exact (rh o ho).co (hI.ls ho).1.2 (fun i hi => adF_ne (by omega) (by omega) (by omega)) (by rw [up_ne (by omega), up_ne (by omega), up_ne (by omega)]) (by rw [up_ne (by omega), up_ne (by omega), up_ne (by omega)])
      · have k12 : nf g.1 = 12 := by omega
        refine k_q0 (r := -3) (by unfold tAddFlat; rw [if_pos c1, if_pos c2, if_neg c3]) G C ?_
        · unfold f_X7_addFlat
          rw [within_n, bd_s, decide_eq_true c1, if_neg bIne, within_n, bd_s, decide_eq_true c2, if_neg bIne, R.n0, hI.h0, if_neg (fun q => c3 ((n12lt b0).mp q))]
    · refine k_q0 (r := -2) (by unfold tAddFlat; rw [if_pos c1, if_neg c2]) G C ?_
      · unfold f_X7_addFlat
        rw [within_n, bd_s, decide_eq_true c1, if_neg bIne, within_n, bd_s, decide_eq_false c2, if_pos bI_f]
  · refine k_q0 (r := -2) (by unfold tAddFlat; rw [if_neg c1]) G C ?_
    · unfold f_X7_addFlat
      rw [within_n, bd_s, decide_eq_false c1, if_pos bI_f]
theorem st_addHousehold {M : Mem} {g : Gh} (G : GO g) (C : CL M g) (a b : Int32) : OkC M (f_X7_addHousehold a b) (tAddHouse g a b) := by
  have hI := G.1.1
  have R := C.1
  have b1 := hI.h1l
  by_cases c1 : (1 : Int32) ≤ a ∧ a ≤ 9
  · by_cases c2 : (1 : Int32) ≤ b ∧ b ≤ 9999
    · by_cases c3 : nh g.1 < 12
      · obtain ⟨j, rfl, j1, j2⟩ := rng (n := 9) (by omega) c1
        obtain ⟨k, rfl, k1, k2⟩ := rng (n := 9999) (by omega) c2
        have hZ : Zr (adH g.1 (nI j) (nI k)) := fun i hi => by
          rw [adH_ne (by omega) (by omega)]
          exact G.1.2 i hi
        refine k_st (s' := adH g.1 (nI j) (nI k)) (r := nI (nh g.1)) (by unfold tAddHouse; rw [if_pos c1, if_pos c2, if_pos c3]) G (adH_inv hI c3 j1 j2 k2) hZ ?_
        · obtain ⟨M1, e1, e2, e3⟩ := k_record G C
          obtain ⟨⟨r0, r1, r2, r3, r4⟩, rf, rh⟩ := id e2.1
          have r1' : M1 1 3 = nI (nh g.1) := r1.trans hI.h1
          have hx : ∃ M2, f_X2_begin (17 + 2 * nh g.1) (nI j) (nI k) M1 = some (0, M2) ∧ (M2 (17 + 2 * nh g.1) 1 = 0 ∧ M2 (17 + 2 * nh g.1) 2 = nI j ∧ M2 (17 + 2 * nh g.1) 3 = nI k ∧ M2 (17 + 2 * nh g.1) 4 = -5 ∧ M2 (17 + 2 * nh g.1) 5 = 0 ∧ M2 (17 + 2 * nh g.1) 6 = -5 ∧ M2 (17 + 2 * nh g.1) 7 = 0 ∧ M2 (17 + 2 * nh g.1) 8 = 0) ∧ ∀ q, q ≠ 17 + 2 * nh g.1 → M2 q = M1 q := by
            unfold f_X2_begin
            rw [lt_e, lt_e, lt_e, lt_e, lt_e, lt_e, lt_e, lt_e]
            refine ⟨_, rfl, ?_, fun q hq => ?_⟩
            · simp (disch := omega) only [up_same, up_other]
              exact ⟨trivial, trivial, trivial, trivial, trivial, trivial, trivial, trivial⟩
            · simp only [up_ne hq]
          obtain ⟨M2, f1, ⟨f2, f3, f4, f5, f6, f7, f8, f9⟩, f10⟩ := hx
          have fr : ∀ q, q ≠ 1 → q ≠ 17 + 2 * nh g.1 → up M2 1 3 (nI (nh g.1 + 1)) q = M1 q := fun q h1 h2 => by rw [up_ne h1, f10 q h2]
          refine ⟨M1, up M2 1 3 (nI (nh g.1 + 1)), ?_, e2, ⟨⟨?_, ?_, ?_, ?_, ?_⟩, fun f hf => ?_, fun o ho => ?_⟩, fun q _ _ _ => fr q (by omega) (by omega), by rw [fr 243 (by omega) (by omega)], fun q hq => by rw [fr q (by omega) (by omega), e3 q (by omega)]⟩
          · unfold f_X7_addHousehold
            rw [within_n, bd_s, decide_eq_true c1, if_neg bIne, within_n, bd_s, decide_eq_true c2, if_neg bIne, R.n1, hI.h1, if_pos ((n12lt b1).mpr c3), e1, bd_s, r1', ck_t (inbN c3 (by omega)), nN (by omega), f1, bd_s, f10 1 (by omega), r1', lt_e, show (nI (nh g.1) : Int32) + 1 = nI (nh g.1 + 1) from nI_1 _, up_same, show (1 : Int32) = nI 1 from rfl, pk_sub (by omega)]
            rfl
          · rw [up_other (by omega), f10 1 (by omega), adH_ne (by omega) (by omega)]
            exact r0
          · rw [up_same]
            exact ur_eq.symm
          · rw [up_other (by omega), f10 1 (by omega), adH_ne (by omega) (by omega)]
            exact r2
          · rw [up_other (by omega), f10 1 (by omega), adH_ne (by omega) (by omega)]
            exact r3
          · rw [up_other (by omega), f10 1 (by omega), adH_ne (by omega) (by omega)]
            exact r4
          · rw [adH_nf] at hf
            have b0 := hI.h0l
            rw [fr (1 + 4 + f) (by omega) (by omega), adH_ne (by omega) (by omega), adH_ne (i := 6 + 2 * f + 1) (by omega) (by omega)]
            exact rf f hf
          · rw [adH_nh c3] at ho
            by_cases e : o = nh g.1
            · subst e
              have n2 : drB (adH g.1 (nI j) (nI k)) (nh g.1) = false := by
                unfold drB fP
                rw [adH_new (by omega)]
                rfl
              have n7 : fP (adH g.1 (nI j) (nI k)) (nh g.1) 7 = 0 := by
                unfold fP
                rw [adH_new (by omega)]
                rfl
              unfold HR noI hd
              rw [n2, n7, show 1 + 16 + 2 * nh g.1 = 17 + 2 * nh g.1 by omega, up_ne (by omega), f2, f3, f4, f5, f6, f7, f8, f9, adH_new (by omega), adH_new (by omega), adH_new (by omega), adH_new (by omega), adH_new (by omega), adH_new (by omega), adH_new (by omega)]
              exact ⟨rfl, rfl, rfl, rfl, rfl, rfl, rfl, ((adH_new (k := 6) (by omega)).trans rfl).symm, fun k hk => absurd hk (Nat.not_lt_zero _)⟩
            · have ho2 : o < nh g.1 := by omega
              exact (rh o ho2).co (hI.ls ho2).1.2 (fun i hi => adH_ne (by omega) (by omega)) (fr _ (by omega) (by omega)) (fr _ (by omega) (by omega))
      · have k12 : nh g.1 = 12 := by omega
        refine k_q0 (r := -3) (by unfold tAddHouse; rw [if_pos c1, if_pos c2, if_neg c3]) G C ?_
        · unfold f_X7_addHousehold
          rw [within_n, bd_s, decide_eq_true c1, if_neg bIne, within_n, bd_s, decide_eq_true c2, if_neg bIne, R.n1, hI.h1, if_neg (fun q => c3 ((n12lt b1).mp q))]
    · refine k_q0 (r := -2) (by unfold tAddHouse; rw [if_pos c1, if_neg c2]) G C ?_
      · unfold f_X7_addHousehold
        rw [within_n, bd_s, decide_eq_true c1, if_neg bIne, within_n, bd_s, decide_eq_false c2, if_pos bI_f]
  · refine k_q0 (r := -2) (by unfold tAddHouse; rw [if_neg c1]) G C ?_
    · unfold f_X7_addHousehold
      rw [within_n, bd_s, decide_eq_false c1, if_pos bI_f]
