theorem st_ordered {M : Mem} {g : Gh} (G : GO g) (C : CL M g) (a : Int32) : OkC M (f_X7_ordered a) (rOrd g.1 a, g) := by
  have hI := G.1.1
  have R := C.1
  have b1 := hI.h1l
  have b2 := drN_le (s := g.1)
  by_cases c0 : (0 : Int32) ≤ a
  · refine k_q (r := oI (atO g.1 a)) (by exact congrArg (fun z => (z, g)) (by unfold rOrd; rw [if_pos c0])) G C ?_
    · obtain ⟨M', e1, e2, e3⟩ := k_lineUp R hI
      refine ⟨M', ?_, fun q hq _ => e2 q hq⟩
      unfold f_X7_ordered
      rw [if_pos c0, e1, bd_s]
      by_cases c1 : a < nI (drN g.1)
      · obtain ⟨r, hr, rfl⟩ := lt_inb (by omega) c0 c1
        obtain ⟨h, -, -, -, h4, h5⟩ := e3 r hr
        have h6 : M' 4 r = nI h := h5
        rw [if_pos c1, ck_t (inbN (by omega) (by omega)), nN (by omega), h6, h4]
        rfl
      · rw [if_neg c1, atO_none hI c0 c1]
        rfl
  · refine k_q0 (r := -2) (by exact congrArg (fun z => (z, g)) (by unfold rOrd; rw [if_neg c0])) G C ?_
    · unfold f_X7_ordered
      rw [if_neg c0]
theorem st_envies {M : Mem} {g : Gh} (G : GO g) (C : CL M g) (a b : Int32) : OkC M (f_X7_envies a b) (rEnv g.1 a b, g) := by
  have hI := G.1.1
  have R := C.1
  have b1 := hI.h1l
  by_cases c : inb a (nh g.1) = true
  · by_cases c2 : inb b (nh g.1) = true
    · obtain ⟨h, hh, rfl⟩ := inb_ex c (by omega)
      obtain ⟨o, ho, rfl⟩ := inb_ex c2 (by omega)
      by_cases e : nI h = nI o
      · refine k_q0 (r := -2) (by exact congrArg (fun z => (z, g)) (by unfold rEnv; rw [if_pos c, if_pos c2, if_pos e])) G C ?_
        · unfold f_X7_envies
          rw [k_hasHousehold R hI, bd_s, c, if_neg bIne, k_hasHousehold R hI, bd_s, c2, if_neg bIne, if_pos e]
      · have hp : f_X6_envyOf 1 (17 + 2 * h) (17 + 2 * o) M = some (evI g.1 h o, M) := k_envyOf R hI hh ho
        refine k_q0 (r := evI g.1 h o) (by exact congrArg (fun z => (z, g)) (by unfold rEnv; rw [if_pos c, if_pos c2, if_neg e, nN (show h < 2147483648 by omega), nN (show o < 2147483648 by omega)])) G C ?_
        · unfold f_X7_envies
          rw [k_hasHousehold R hI, bd_s, c, if_neg bIne, k_hasHousehold R hI, bd_s, c2, if_neg bIne, if_neg e, ck_t (inbN (by omega) (by omega)), ck_t (inbN (by omega) (by omega)), nN (by omega), nN (by omega), hp, bd_s]
    · refine k_q0 (r := -1) (by exact congrArg (fun z => (z, g)) (by unfold rEnv; rw [if_pos c, if_neg c2])) G C ?_
      · unfold f_X7_envies
        rw [k_hasHousehold R hI, bd_s, c, if_neg bIne, k_hasHousehold R hI, bd_s, if_pos (bIf c2)]
  · refine k_q0 (r := -1) (by exact congrArg (fun z => (z, g)) (by unfold rEnv; rw [if_neg c])) G C ?_
    · unfold f_X7_envies
      rw [k_hasHousehold R hI, bd_s, if_pos (bIf c)]
theorem st_would {M : Mem} {g : Gh} (G : GO g) (C : CL M g) (a b : Int32) : OkC M (f_X7_wouldGet a b) (rWould g.1 a b, g) := by
  have hI := G.1.1
  have R := C.1
  have b1 := hI.h1l
  have b2 := drN_le (s := g.1)
  by_cases c : inb a (nh g.1) = true
  · by_cases c0 : b = -5
    · refine k_q (r := wgL g.1 a b (drN g.1) 0 0) (by exact congrArg (fun z => (z, g)) (by unfold rWould; rw [if_pos c, if_pos c0])) G C ?_
      · obtain ⟨M', e1, e2⟩ := k_would R hI a b
        refine ⟨M', ?_, fun q hq _ => e2 q hq⟩
        unfold f_X7_wouldGet
        rw [k_hasHousehold R hI, bd_s, c, if_neg bIne, if_pos c0, e1, bd_s]
    · by_cases c2 : inb b (nh g.1) = true
      · refine k_q (r := wgL g.1 a b (drN g.1) 0 0) (by exact congrArg (fun z => (z, g)) (by unfold rWould; rw [if_pos c, if_neg c0, if_pos c2])) G C ?_
        · obtain ⟨M', e1, e2⟩ := k_would R hI a b
          refine ⟨M', ?_, fun q hq _ => e2 q hq⟩
          unfold f_X7_wouldGet
          rw [k_hasHousehold R hI, bd_s, c, if_neg bIne, if_neg c0, k_hasHousehold R hI, bd_s, c2, if_neg bIne, e1, bd_s]
      · refine k_q0 (r := -1) (by exact congrArg (fun z => (z, g)) (by unfold rWould; rw [if_pos c, if_neg c0, if_neg c2])) G C ?_
        · unfold f_X7_wouldGet
          rw [k_hasHousehold R hI, bd_s, c, if_neg bIne, if_neg c0, k_hasHousehold R hI, bd_s, if_pos (bIf c2)]
  · refine k_q0 (r := -1) (by exact congrArg (fun z => (z, g)) (by unfold rWould; rw [if_neg c])) G C ?_
    · unfold f_X7_wouldGet
      rw [k_hasHousehold R hI, bd_s, if_pos (bIf c)]
theorem st_count {M : Mem} {g : Gh} (G : GO g) (C : CL M g) (b : Int32) : OkC M (f_X7_count b) (rCount g b, g) := by
  have hI := G.1.1
  have R := C.1
  have b1 := hI.h1l
  obtain ⟨⟨r0, r1, r2, r3, r4⟩, -⟩ := id R
  by_cases c0 : b = 0
  · subst c0
    refine k_q0 (r := (g.1 0)) (by exact congrArg (fun z => (z, g)) (by unfold rCount; rw [if_pos rfl])) G C ?_
    · unfold f_X7_count
      rw [if_pos rfl, r0]
  by_cases c1 : b = 1
  · subst c1
    refine k_q0 (r := (g.1 1)) (by exact congrArg (fun z => (z, g)) (by unfold rCount; rw [if_neg c0, if_pos rfl])) G C ?_
    · unfold f_X7_count
      rw [if_neg c0, if_pos rfl, r1]
  by_cases c2 : b = 2
  · subst c2
    refine k_q0 (r := (nI (hdN g.1))) (by exact congrArg (fun z => (z, g)) (by unfold rCount; rw [if_neg c0, if_neg c1, if_pos rfl])) G C ?_
    · unfold f_X7_count
      rw [if_neg c0, if_neg c1, if_pos rfl, k_countHeld R hI, bd_s]
  by_cases c3 : b = 3
  · subst c3
    refine k_q0 (r := (g.1 2)) (by exact congrArg (fun z => (z, g)) (by unfold rCount; rw [if_neg c0, if_neg c1, if_neg c2, if_pos rfl])) G C ?_
    · unfold f_X7_count
      rw [if_neg c0, if_neg c1, if_neg c2, if_pos rfl, r2]
  by_cases c4 : b = 4
  · subst c4
    refine k_q0 (r := (nI (drN g.1))) (by exact congrArg (fun z => (z, g)) (by unfold rCount; rw [if_neg c0, if_neg c1, if_neg c2, if_neg c3, if_pos rfl])) G C ?_
    · unfold f_X7_count
      rw [if_neg c0, if_neg c1, if_neg c2, if_neg c3, if_pos rfl, k_countNumbered R hI, bd_s]
  by_cases c5 : b = 5
  · subst c5
    refine k_q0 (r := (nI (prN g.1 1 0 (nh g.1 * nh g.1)))) (by exact congrArg (fun z => (z, g)) (by unfold rCount; rw [if_neg c0, if_neg c1, if_neg c2, if_neg c3, if_neg c4, if_pos rfl])) G C ?_
    · unfold f_X7_count
      rw [if_neg c0, if_neg c1, if_neg c2, if_neg c3, if_neg c4, if_pos rfl, k_countEnvy R hI, bd_s]
  by_cases c6 : b = 6
  · subst c6
    refine k_q0 (r := (nI (prN g.1 2 0 (nh g.1 * nh g.1)))) (by exact congrArg (fun z => (z, g)) (by unfold rCount; rw [if_neg c0, if_neg c1, if_neg c2, if_neg c3, if_neg c4, if_neg c5, if_pos rfl])) G C ?_
    · unfold f_X7_count
      rw [if_neg c0, if_neg c1, if_neg c2, if_neg c3, if_neg c4, if_neg c5, if_pos rfl, k_countEnvy R hI, bd_s]
  by_cases c7 : b = 7
  · subst c7
    refine k_q (r := nI (cntN (rgB g.1) 0 (nh g.1))) (by exact congrArg (fun z => (z, g)) (by unfold rCount; rw [if_neg c0, if_neg c1, if_neg c2, if_neg c3, if_neg c4, if_neg c5, if_neg c6, if_pos rfl])) G C ?_
    · obtain ⟨M', e1, e2, e3⟩ := k_lookAt (show 1 + 40 ≤ 248 by omega) R hI
      refine ⟨M', ?_, fun q _ h2 => e3 q (by omega) (by omega)⟩
      unfold f_X7_count
      rw [if_neg c0, if_neg c1, if_neg c2, if_neg c3, if_neg c4, if_neg c5, if_neg c6, if_pos rfl, e1, bd_s, k_countRings hI e2, bd_s]
  by_cases c8 : b = 8
  · subst c8
    refine k_q0 (r := (g.1 3)) (by exact congrArg (fun z => (z, g)) (by unfold rCount; rw [if_neg c0, if_neg c1, if_neg c2, if_neg c3, if_neg c4, if_neg c5, if_neg c6, if_neg c7, if_pos rfl])) G C ?_
    · unfold f_X7_count
      rw [if_neg c0, if_neg c1, if_neg c2, if_neg c3, if_neg c4, if_neg c5, if_neg c6, if_neg c7, if_pos rfl, k_countAppeals R hI, bd_s]
  by_cases c9 : b = 9
  · subst c9
    refine k_q0 (r := (g.1 4)) (by exact congrArg (fun z => (z, g)) (by unfold rCount; rw [if_neg c0, if_neg c1, if_neg c2, if_neg c3, if_neg c4, if_neg c5, if_neg c6, if_neg c7, if_neg c8, if_pos rfl])) G C ?_
    · unfold f_X7_count
      rw [if_neg c0, if_neg c1, if_neg c2, if_neg c3, if_neg c4, if_neg c5, if_neg c6, if_neg c7, if_neg c8, if_pos rfl, r3]
  by_cases c10 : b = 10
  · subst c10
    refine k_q0 (r := (g.1 5)) (by exact congrArg (fun z => (z, g)) (by unfold rCount; rw [if_neg c0, if_neg c1, if_neg c2, if_neg c3, if_neg c4, if_neg c5, if_neg c6, if_neg c7, if_neg c8, if_neg c9, if_pos rfl])) G C ?_
    · unfold f_X7_count
      rw [if_neg c0, if_neg c1, if_neg c2, if_neg c3, if_neg c4, if_neg c5, if_neg c6, if_neg c7, if_neg c8, if_neg c9, if_pos rfl, r4]
  by_cases c11 : b = 11
  · subst c11
    refine k_q0 (r := (nI (gK g))) (by exact congrArg (fun z => (z, g)) (by unfold rCount; rw [if_neg c0, if_neg c1, if_neg c2, if_neg c3, if_neg c4, if_neg c5, if_neg c6, if_neg c7, if_neg c8, if_neg c9, if_neg c10, if_pos rfl])) G C ?_
    · unfold f_X7_count
      rw [if_neg c0, if_neg c1, if_neg c2, if_neg c3, if_neg c4, if_neg c5, if_neg c6, if_neg c7, if_neg c8, if_neg c9, if_neg c10, if_pos rfl, C.2.1.1]
  by_cases c12 : b = 12
  · subst c12
    refine k_q0 (r := (nI (gN g))) (by exact congrArg (fun z => (z, g)) (by unfold rCount; rw [if_neg c0, if_neg c1, if_neg c2, if_neg c3, if_neg c4, if_neg c5, if_neg c6, if_neg c7, if_neg c8, if_neg c9, if_neg c10, if_neg c11, if_pos rfl])) G C ?_
    · unfold f_X7_count
      rw [if_neg c0, if_neg c1, if_neg c2, if_neg c3, if_neg c4, if_neg c5, if_neg c6, if_neg c7, if_neg c8, if_neg c9, if_neg c10, if_neg c11, if_pos rfl, C.2.2.2.1]
  · refine k_q0 (r := (-2)) (by exact congrArg (fun z => (z, g)) (by unfold rCount; rw [if_neg c0, if_neg c1, if_neg c2, if_neg c3, if_neg c4, if_neg c5, if_neg c6, if_neg c7, if_neg c8, if_neg c9, if_neg c10, if_neg c11, if_neg c12])) G C ?_
    · unfold f_X7_count
      rw [if_neg c0, if_neg c1, if_neg c2, if_neg c3, if_neg c4, if_neg c5, if_neg c6, if_neg c7, if_neg c8, if_neg c9, if_neg c10, if_neg c11, if_neg c12]
