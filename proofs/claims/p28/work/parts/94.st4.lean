theorem st_change {M : Mem} {g : Gh} (G : GO g) (C : CL M g) (a b v : Int32) (hb : b = 0 ∨ b = 1) : OkC M (f_X7_change a b v) (tChange g a b v) := by
  have hI := G.1.1
  have R := C.1
  have b1 := hI.h1l
  have n10 : ¬ (1 : Int32) = 0 := by decide
  by_cases c : inb a (nh g.1) = true
  · obtain ⟨h, hh, rfl⟩ := inb_ex c (by omega)
    have h12 : h < 12 := by omega
    obtain ⟨-, a2, a3, -⟩ := R.hr hh
    have w2 : M (17 + 2 * h) 2 = g.1 (30 + 14 * h + 0) := a2
    have w3 : M (17 + 2 * h) 3 = g.1 (30 + 14 * h + 1) := a3
    rcases hb with rfl | rfl
    · by_cases c1 : (1 : Int32) ≤ v ∧ v ≤ 9
      · by_cases c2 : g.1 (30 + 14 * h + 0) = v
        · refine k_q0 (r := -5) (by unfold tChange; rw [if_pos c, if_pos rfl, if_pos c1, nN (show h < 2147483648 by omega), if_pos c2]) G C ?_
          · unfold f_X7_change
            rw [k_hasHousehold R hI, bd_s, c, if_neg bIne, if_pos rfl, within_n, bd_s, decide_eq_true c1, if_neg bIne, ck_t (inbN h12 (by omega)), if_pos rfl, nN (by omega), w2, if_pos c2]
        · obtain ⟨k, rfl, k1, k2⟩ := rng (n := 9) (by omega) c1
          refine k_st (s' := ur g.1 (30 + 14 * h + 0) (nI k)) (r := g.1 (30 + 14 * h + 0)) (by unfold tChange; rw [if_pos c, if_pos rfl, if_pos c1, nN (show h < 2147483648 by omega), if_neg c2]) G (hI.num hh (Or.inl ⟨rfl, k1, k2⟩)) (G.1.2.up (by omega)) ?_
          · obtain ⟨M1, e1, e2, e3⟩ := k_record G C
            refine ⟨M1, up M1 (17 + 2 * h) 2 (nI k), ?_, e2, RS_num e2.1 hI (Or.inl ⟨rfl, rfl, rfl⟩), fun q _ _ _ => up_ne (by omega), by rw [up_ne (by omega)], fun q hq => by rw [up_ne (by omega), e3 q (by omega)]⟩
            unfold f_X7_change
            rw [k_hasHousehold R hI, bd_s, c, if_neg bIne, if_pos rfl, within_n, bd_s, decide_eq_true c1, if_neg bIne, ck_t (inbN h12 (by omega)), if_pos rfl, nN (show h < 2147483648 by omega), w2, if_neg c2, e1, bd_s, if_pos rfl, lt_e]
      · refine k_q0 (r := -2) (by unfold tChange; rw [if_pos c, if_pos rfl, if_neg c1]) G C ?_
        · unfold f_X7_change
          rw [k_hasHousehold R hI, bd_s, c, if_neg bIne, if_pos rfl, within_n, bd_s, decide_eq_false c1, if_pos bI_f]
    · by_cases c1 : (1 : Int32) ≤ v ∧ v ≤ 9999
      · by_cases c2 : g.1 (30 + 14 * h + 1) = v
        · refine k_q0 (r := -5) (by unfold tChange; rw [if_pos c, if_neg n10, if_pos c1, nN (show h < 2147483648 by omega), if_pos c2]) G C ?_
          · unfold f_X7_change
            rw [k_hasHousehold R hI, bd_s, c, if_neg bIne, if_neg n10, within_n, bd_s, decide_eq_true c1, if_neg bIne, ck_t (inbN h12 (by omega)), if_neg n10, nN (by omega), w3, if_pos c2]
        · obtain ⟨k, rfl, k1, k2⟩ := rng (n := 9999) (by omega) c1
          refine k_st (s' := ur g.1 (30 + 14 * h + 1) (nI k)) (r := g.1 (30 + 14 * h + 1)) (by unfold tChange; rw [if_pos c, if_neg n10, if_pos c1, nN (show h < 2147483648 by omega), if_neg c2]) G (hI.num hh (Or.inr (Or.inl ⟨rfl, k2⟩))) (G.1.2.up (by omega)) ?_
          · obtain ⟨M1, e1, e2, e3⟩ := k_record G C
            refine ⟨M1, up M1 (17 + 2 * h) 3 (nI k), ?_, e2, RS_num e2.1 hI (Or.inr (Or.inl ⟨rfl, rfl, rfl⟩)), fun q _ _ _ => up_ne (by omega), by rw [up_ne (by omega)], fun q hq => by rw [up_ne (by omega), e3 q (by omega)]⟩
            unfold f_X7_change
            rw [k_hasHousehold R hI, bd_s, c, if_neg bIne, if_neg n10, within_n, bd_s, decide_eq_true c1, if_neg bIne, ck_t (inbN h12 (by omega)), if_neg n10, nN (show h < 2147483648 by omega), w3, if_neg c2, e1, bd_s, if_neg n10, lt_e]
      · refine k_q0 (r := -2) (by unfold tChange; rw [if_pos c, if_neg n10, if_neg c1]) G C ?_
        · unfold f_X7_change
          rw [k_hasHousehold R hI, bd_s, c, if_neg bIne, if_neg n10, within_n, bd_s, decide_eq_false c1, if_pos bI_f]
  · refine k_q0 (r := -1) (by unfold tChange; rw [if_neg c]) G C ?_
    · unfold f_X7_change
      rw [k_hasHousehold R hI, bd_s, if_pos (bIf c)]
theorem st_draw {M : Mem} {g : Gh} (G : GO g) (C : CL M g) (a b : Int32) : OkC M (f_X7_draw a b) (tDraw g a b) := by
  have hI := G.1.1
  have R := C.1
  have b1 := hI.h1l
  by_cases c : inb a (nh g.1) = true
  · obtain ⟨h, hh, rfl⟩ := inb_ex c (by omega)
    have h12 : h < 12 := by omega
    by_cases c1 : (1 : Int32) ≤ b ∧ b ≤ 999
    · obtain ⟨k, rfl, k1, k2⟩ := rng (n := 999) (by omega) c1
      have kst : f_X7_draw (nI h) (nI k) M = if oI (owO g.1 (nI k)) = nI h then some (-5, M) else if oI (owO g.1 (nI k)) = -5 then bd (f_X1_record 1 M) (fun r14 M15 => ck (inb (nI h) 12) (lt_ (up M15 (17 + 2 * (nI h).toNatClampNeg) 4 (nI k)) (fun M20 => bd (f_X6_countNumbered 1 M20) (fun r21 M22 => some (r21, M22))))) else some (-4, M) := by
        unfold f_X7_draw
        rw [k_hasHousehold R hI, bd_s, c, if_neg bIne, within_n, bd_s, decide_eq_true c1, if_neg bIne, k_ownerOf R hI, bd_s]
      cases ho : owO g.1 (nI k) with
      | none =>
        have hno : ∀ j, j < nh g.1 → fP g.1 j 2 ≠ k := fun j hj q => by
          have := fstO_none.mp ho j (Nat.zero_le _) (by omega)
          exact (of_decide_eq_false this) ((noI_v hI hj k1 k2).1.mpr q)
        have hI' := hI.num hh (f := 2) (k := k) (Or.inr (Or.inr ⟨rfl, k2, fun o ho _ => hno o ho⟩))
        refine k_st (s' := ur g.1 (30 + 14 * h + 2) (nI k)) (r := nI (drN (ur g.1 (30 + 14 * h + 2) (nI k)))) (by unfold tDraw; rw [if_pos c, if_pos c1, nN (show h < 2147483648 by omega), ho]) G hI' (G.1.2.up (by omega)) ?_
        · obtain ⟨M1, e1, e2, e3⟩ := k_record G C
          have R1 : RS (up M1 (17 + 2 * h) 4 (nI k)) 1 (ur g.1 (30 + 14 * h + 2) (nI k)) := RS_num e2.1 hI (Or.inr (Or.inr (Or.inr (Or.inr ⟨rfl, rfl, rfl, by rw [nN (by omega)]; omega⟩))))
          refine ⟨M1, up M1 (17 + 2 * h) 4 (nI k), ?_, e2, R1, fun q _ _ _ => up_ne (by omega), by rw [up_ne (by omega)], fun q hq => by rw [up_ne (by omega), e3 q (by omega)]⟩
          rw [kst, ho, if_neg (show ¬ oI none = nI h from nIm5 (by omega)), if_pos (show oI none = -5 from rfl), e1, bd_s, ck_t (inbN h12 (by omega)), nN (by omega), lt_e, k_countNumbered R1 hI', bd_s]
      | some o =>
        obtain ⟨-, o2, o3, -⟩ := fstO_some ho
        have o4 : fP g.1 o 2 = k := (noI_v hI (show o < nh g.1 by omega) k1 k2).1.mp (of_decide_eq_true o3)
        by_cases e : o = h
        · subst e
          refine k_q0 (r := -5) (by unfold tDraw; rw [if_pos c, if_pos c1, nN (show o < 2147483648 by omega), ho]; exact if_pos rfl) G C ?_
          · rw [kst, ho, if_pos (show oI (some o) = nI o from rfl)]
        · have hany : anyB (fun j => decide (j ≠ h) && decide (g.1 (30 + 14 * j + 2) = nI k)) 0 (nh g.1) = true := anyB_iff.mpr ⟨o, Nat.zero_le _, by omega, by
            rw [decide_eq_true e, decide_eq_true ((noI_v hI (show o < nh g.1 by omega) k1 k2).2.mpr o4)]
            rfl⟩
          refine k_q0 (r := -4) (by unfold tDraw; rw [if_pos c, if_pos c1, nN (show h < 2147483648 by omega), ho]; exact if_neg e) G C ?_
          · rw [kst, ho, if_neg (show ¬ oI (some o) = nI h from fun q => e (nI_inj (by omega) (by omega) q)), if_neg (show ¬ oI (some o) = -5 from nIne5 (by omega))]
    · refine k_q0 (r := -2) (by unfold tDraw; rw [if_pos c, if_neg c1]) G C ?_
      · unfold f_X7_draw
        rw [k_hasHousehold R hI, bd_s, c, if_neg bIne, within_n, bd_s, decide_eq_false c1, if_pos bI_f]
  · refine k_q0 (r := -1) (by unfold tDraw; rw [if_neg c]) G C ?_
    · unfold f_X7_draw
      rw [k_hasHousehold R hI, bd_s, if_pos (bIf c)]
