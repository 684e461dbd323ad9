theorem st_flat {M : Mem} {g : Gh} (G : GO g) (C : CL M g) (a b : Int32) : OkC M (f_X7_flat a b) (rFlat g.1 a b, g) := by
  have hI := G.1.1
  have R := C.1
  have b0 := hI.h0l
  by_cases c : inb a (nf g.1) = true
  · obtain ⟨f, hf, rfl⟩ := inb_ex c (by omega)
    have cI : f_X6_hasFlat 1 (nI f) M = some (bI true, M) := by rw [k_hasFlat R hI, c]
    have f0 : M (5 + f) 0 = g.1 (6 + 2 * f) := (R.fl hf).1
    have f1 : M (5 + f) 1 = g.1 (6 + 2 * f + 1) := (R.fl hf).2
    by_cases c0 : b = 0
    · refine k_q0 (r := (g.1 (6 + 2 * f))) (by exact congrArg (fun z => (z, g)) (by unfold rFlat; rw [if_pos c, nN (show f < 2147483648 by omega), if_pos c0])) G C ?_
      · unfold f_X7_flat
        rw [cI, bd_s, if_neg bIne, if_pos c0, ck_t (inbN (by omega) (by omega)), nN (by omega), f0]
    by_cases c1 : b = 1
    · refine k_q0 (r := (g.1 (6 + 2 * f + 1))) (by exact congrArg (fun z => (z, g)) (by unfold rFlat; rw [if_pos c, nN (show f < 2147483648 by omega), if_neg c0, if_pos c1])) G C ?_
      · unfold f_X7_flat
        rw [cI, bd_s, if_neg bIne, if_neg c0, if_pos c1, ck_t (inbN (by omega) (by omega)), nN (by omega), f1]
    by_cases c2 : b = 2
    · refine k_q0 (r := (oI (hoO g.1 (nI f)))) (by exact congrArg (fun z => (z, g)) (by unfold rFlat; rw [if_pos c, nN (show f < 2147483648 by omega), if_neg c0, if_neg c1, if_pos c2])) G C ?_
      · unfold f_X7_flat
        rw [cI, bd_s, if_neg bIne, if_neg c0, if_neg c1, if_pos c2, k_holderOf R hI, bd_s]
    by_cases c3 : b = 3
    · refine k_q0 (r := (wsI g.1 (nI f))) (by exact congrArg (fun z => (z, g)) (by unfold rFlat; rw [if_pos c, nN (show f < 2147483648 by omega), if_neg c0, if_neg c1, if_neg c2, if_pos c3])) G C ?_
      · unfold f_X7_flat
        rw [cI, bd_s, if_neg bIne, if_neg c0, if_neg c1, if_neg c2, if_pos c3, k_wishersOf R hI, bd_s]
    by_cases c4 : b = 4
    · refine k_q0 (r := (esI g.1 f)) (by exact congrArg (fun z => (z, g)) (by unfold rFlat; rw [if_pos c, nN (show f < 2147483648 by omega), if_neg c0, if_neg c1, if_neg c2, if_neg c3, if_pos c4])) G C ?_
      · unfold f_X7_flat
        rw [cI, bd_s, if_neg bIne, if_neg c0, if_neg c1, if_neg c2, if_neg c3, if_pos c4, k_eligibleFor R hI hf, bd_s]
    · refine k_q0 (r := (-2)) (by exact congrArg (fun z => (z, g)) (by unfold rFlat; rw [if_pos c, if_neg c0, if_neg c1, if_neg c2, if_neg c3, if_neg c4])) G C ?_
      · unfold f_X7_flat
        rw [cI, bd_s, if_neg bIne, if_neg c0, if_neg c1, if_neg c2, if_neg c3, if_neg c4]
  · refine k_q0 (r := -1) (by exact congrArg (fun z => (z, g)) (by unfold rFlat; rw [if_neg c])) G C ?_
    · unfold f_X7_flat
      rw [k_hasFlat R hI, bd_s, if_pos (bIf c)]
theorem st_household {M : Mem} {g : Gh} (G : GO g) (C : CL M g) (a b : Int32) : OkC M (f_X7_household a b) (rHouse g.1 a b, g) := by
  have hI := G.1.1
  have R := C.1
  have b1 := hI.h1l
  by_cases c : inb a (nh g.1) = true
  · obtain ⟨h, hh, rfl⟩ := inb_ex c (by omega)
    have cI : f_X6_hasHousehold 1 (nI h) M = some (bI true, M) := by rw [k_hasHousehold R hI, c]
    have h12 : h < 12 := by omega
    obtain ⟨a1, a2, a3, a4, a5, a6, a7, a8, -⟩ := R.hr hh
    by_cases c0 : b = 0
    · refine k_q0 (r := (g.1 (30 + 14 * h + 0))) (by exact congrArg (fun z => (z, g)) (by unfold rHouse; rw [if_pos c, nN (show h < 2147483648 by omega), if_pos c0])) G C ?_
      · unfold f_X7_household
        rw [cI, bd_s, if_neg bIne, ck_t (inbN h12 (by omega)), if_pos c0, nN (by omega)]
        exact congrArg (fun z => some (z, M)) a2
    by_cases c1 : b = 1
    · refine k_q0 (r := (g.1 (30 + 14 * h + 1))) (by exact congrArg (fun z => (z, g)) (by unfold rHouse; rw [if_pos c, nN (show h < 2147483648 by omega), if_neg c0, if_pos c1])) G C ?_
      · unfold f_X7_household
        rw [cI, bd_s, if_neg bIne, ck_t (inbN h12 (by omega)), if_neg c0, if_pos c1, nN (by omega)]
        exact congrArg (fun z => some (z, M)) a3
    by_cases c2 : b = 2
    · refine k_q0 (r := (noI g.1 h)) (by exact congrArg (fun z => (z, g)) (by unfold rHouse; rw [if_pos c, nN (show h < 2147483648 by omega), if_neg c0, if_neg c1, if_pos c2])) G C ?_
      · unfold f_X7_household
        rw [cI, bd_s, if_neg bIne, ck_t (inbN h12 (by omega)), if_neg c0, if_neg c1, if_pos c2, nN (by omega)]
        exact congrArg (fun z => some (z, M)) a4
    by_cases c3 : b = 3
    · refine k_q0 (r := (g.1 (30 + 14 * h + 3))) (by exact congrArg (fun z => (z, g)) (by unfold rHouse; rw [if_pos c, nN (show h < 2147483648 by omega), if_neg c0, if_neg c1, if_neg c2, if_pos c3])) G C ?_
      · unfold f_X7_household
        rw [cI, bd_s, if_neg bIne, ck_t (inbN h12 (by omega)), if_neg c0, if_neg c1, if_neg c2, if_pos c3, nN (by omega)]
        exact congrArg (fun z => some (z, M)) a5
    by_cases c4 : b = 4
    · refine k_q0 (r := (hd g.1 h)) (by exact congrArg (fun z => (z, g)) (by unfold rHouse; rw [if_pos c, nN (show h < 2147483648 by omega), if_neg c0, if_neg c1, if_neg c2, if_neg c3, if_pos c4])) G C ?_
      · unfold f_X7_household
        rw [cI, bd_s, if_neg bIne, ck_t (inbN h12 (by omega)), if_neg c0, if_neg c1, if_neg c2, if_neg c3, if_pos c4, nN (by omega)]
        exact congrArg (fun z => some (z, M)) a6
    by_cases c5 : b = 5
    · refine k_q0 (r := (g.1 (30 + 14 * h + 7))) (by exact congrArg (fun z => (z, g)) (by unfold rHouse; rw [if_pos c, nN (show h < 2147483648 by omega), if_neg c0, if_neg c1, if_neg c2, if_neg c3, if_neg c4, if_pos c5])) G C ?_
      · unfold f_X7_household
        rw [cI, bd_s, if_neg bIne, ck_t (inbN h12 (by omega)), if_neg c0, if_neg c1, if_neg c2, if_neg c3, if_neg c4, if_pos c5, nN (by omega)]
        exact congrArg (fun z => some (z, M)) a1
    by_cases c6 : b = 6
    · refine k_q0 (r := (g.1 (30 + 14 * h + 5))) (by exact congrArg (fun z => (z, g)) (by unfold rHouse; rw [if_pos c, nN (show h < 2147483648 by omega), if_neg c0, if_neg c1, if_neg c2, if_neg c3, if_neg c4, if_neg c5, if_pos c6])) G C ?_
      · unfold f_X7_household
        rw [cI, bd_s, if_neg bIne, ck_t (inbN h12 (by omega)), if_neg c0, if_neg c1, if_neg c2, if_neg c3, if_neg c4, if_neg c5, if_pos c6, nN (by omega)]
        exact congrArg (fun z => some (z, M)) a7
    by_cases c7 : b = 7
    · refine k_q0 (r := (if drB g.1 h = true then nI (poN g.1 h) else -5)) (by exact congrArg (fun z => (z, g)) (by unfold rHouse; rw [if_pos c, nN (show h < 2147483648 by omega), if_neg c0, if_neg c1, if_neg c2, if_neg c3, if_neg c4, if_neg c5, if_neg c6, if_pos c7])) G C ?_
      · have hp : f_X6_placeInOrder 1 (17 + 2 * h) M = some (if drB g.1 h = true then nI (poN g.1 h) else -5, M) := k_placeIn R hI hh
        unfold f_X7_household
        rw [cI, bd_s, if_neg bIne, ck_t (inbN h12 (by omega)), if_neg c0, if_neg c1, if_neg c2, if_neg c3, if_neg c4, if_neg c5, if_neg c6, if_pos c7, nN (by omega), hp, bd_s]
    by_cases c8 : b = 8
    · refine k_q0 (r := (oI (ptO g.1 h))) (by exact congrArg (fun z => (z, g)) (by unfold rHouse; rw [if_pos c, nN (show h < 2147483648 by omega), if_neg c0, if_neg c1, if_neg c2, if_neg c3, if_neg c4, if_neg c5, if_neg c6, if_neg c7, if_pos c8])) G C ?_
      · have hp : f_X6_pointsTo 1 (17 + 2 * h) M = some (oI (ptO g.1 h), M) := k_pointsTo R hI hh
        unfold f_X7_household
        rw [cI, bd_s, if_neg bIne, ck_t (inbN h12 (by omega)), if_neg c0, if_neg c1, if_neg c2, if_neg c3, if_neg c4, if_neg c5, if_neg c6, if_neg c7, if_pos c8, nN (by omega), hp, bd_s]
    by_cases c9 : b = 9
    · refine k_q0 (r := (g.1 (30 + 14 * h + 6))) (by exact congrArg (fun z => (z, g)) (by unfold rHouse; rw [if_pos c, nN (show h < 2147483648 by omega), if_neg c0, if_neg c1, if_neg c2, if_neg c3, if_neg c4, if_neg c5, if_neg c6, if_neg c7, if_neg c8, if_pos c9])) G C ?_
      · unfold f_X7_household
        rw [cI, bd_s, if_neg bIne, ck_t (inbN h12 (by omega)), if_neg c0, if_neg c1, if_neg c2, if_neg c3, if_neg c4, if_neg c5, if_neg c6, if_neg c7, if_neg c8, if_pos c9, nN (by omega)]
        exact congrArg (fun z => some (z, M)) a8
    · refine k_q0 (r := (-2)) (by exact congrArg (fun z => (z, g)) (by unfold rHouse; rw [if_pos c, if_neg c0, if_neg c1, if_neg c2, if_neg c3, if_neg c4, if_neg c5, if_neg c6, if_neg c7, if_neg c8, if_neg c9])) G C ?_
      · unfold f_X7_household
        rw [cI, bd_s, if_neg bIne, ck_t (inbN h12 (by omega)), if_neg c0, if_neg c1, if_neg c2, if_neg c3, if_neg c4, if_neg c5, if_neg c6, if_neg c7, if_neg c8, if_neg c9]
  · refine k_q0 (r := -1) (by exact congrArg (fun z => (z, g)) (by unfold rHouse; rw [if_neg c])) G C ?_
    · unfold f_X7_household
      rw [k_hasHousehold R hI, bd_s, if_pos (bIf c)]
theorem st_wished {M : Mem} {g : Gh} (G : GO g) (C : CL M g) (a b : Int32) : OkC M (f_X7_wished a b) (rWished g.1 a b, g) := by
  have hI := G.1.1
  have R := C.1
  have b1 := hI.h1l
  by_cases c : inb a (nh g.1) = true
  · obtain ⟨h, hh, rfl⟩ := inb_ex c (by omega)
    have cI : f_X6_hasHousehold 1 (nI h) M = some (bI true, M) := by rw [k_hasHousehold R hI, c]
    have h12 : h < 12 := by omega
    obtain ⟨⟨l1, l2⟩, -⟩ := hI.ls hh
    have w1 : M (17 + 2 * h) 1 = nI (fP g.1 h 7) := (R.wc hh).trans l1
    by_cases c0 : (0 : Int32) ≤ b
    · by_cases c1 : b < nI (fP g.1 h 7)
      · obtain ⟨k, hk, rfl⟩ := lt_inb (by omega) c0 c1
        have w2 : M (18 + 2 * h) k = g.1 (30 + 14 * h + 8 + k) := by
          rw [show 18 + 2 * h = 1 + 16 + 2 * h + 1 by omega]
          exact R.wi hh hk
        refine k_q0 (r := g.1 (30 + 14 * h + 8 + k)) (by exact congrArg (fun z => (z, g)) (by unfold rWished; rw [if_pos c, nN (show h < 2147483648 by omega), if_pos c0, if_pos c1, nN (show k < 2147483648 by omega)])) G C ?_
        · unfold f_X7_wished
          rw [cI, bd_s, if_neg bIne, if_pos c0, ck_t (inbN h12 (by omega)), nN (show h < 2147483648 by omega), w1, if_pos c1, ck_t (inbN (by omega) (by omega)), nN (by omega), w2]
      · refine k_q0 (r := -5) (by exact congrArg (fun z => (z, g)) (by unfold rWished; rw [if_pos c, nN (show h < 2147483648 by omega), if_pos c0, if_neg c1])) G C ?_
        · unfold f_X7_wished
          rw [cI, bd_s, if_neg bIne, if_pos c0, ck_t (inbN h12 (by omega)), nN (show h < 2147483648 by omega), w1, if_neg c1]
    · refine k_q0 (r := -2) (by exact congrArg (fun z => (z, g)) (by unfold rWished; rw [if_pos c, if_neg c0])) G C ?_
      · unfold f_X7_wished
        rw [cI, bd_s, if_neg bIne, if_neg c0]
  · refine k_q0 (r := -1) (by exact congrArg (fun z => (z, g)) (by unfold rWished; rw [if_neg c])) G C ?_
    · unfold f_X7_wished
      rw [k_hasHousehold R hI, bd_s, if_pos (bIf c)]
