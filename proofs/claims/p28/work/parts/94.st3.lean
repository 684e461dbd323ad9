theorem st_moveOut {M : Mem} {g : Gh} (G : GO g) (C : CL M g) (a : Int32) : OkC M (f_X7_moveOut a) (tMoveOut g a) := by
  have hI := G.1.1
  have R := C.1
  have b1 := hI.h1l
  by_cases c : inb a (nh g.1) = true
  · obtain ⟨h, hh, rfl⟩ := inb_ex c (by omega)
    have h12 : h < 12 := by omega
    have hd1 : M (17 + 2 * h) 6 = hd g.1 h := R.hd hh
    by_cases c1 : hd g.1 h = -5
    · refine k_q0 (r := -5) (by unfold tMoveOut; rw [if_pos c, nN (show h < 2147483648 by omega), if_pos c1]) G C ?_
      · unfold f_X7_moveOut
        rw [k_hasHousehold R hI, bd_s, c, if_neg bIne, ck_t (inbN h12 (by omega)), nN (by omega), hd1, if_pos c1]
    · refine k_st (s' := ur g.1 (30 + 14 * h + 4) (-5)) (r := hd g.1 h) (by unfold tMoveOut; rw [if_pos c, nN (show h < 2147483648 by omega), if_neg c1]) G (hI.give hh (Or.inl rfl) (fun q => absurd rfl q)) (G.1.2.up (by omega)) ?_
      · obtain ⟨M1, e1, e2, e3⟩ := k_record G C
        refine ⟨M1, up M1 (17 + 2 * h) 6 (-5), ?_, e2, RSw e2.1 hI, fun q _ _ _ => up_ne (by omega), by rw [up_ne (by omega)], fun q hq => by rw [up_ne (by omega), e3 q (by omega)]⟩
        unfold f_X7_moveOut
        rw [k_hasHousehold R hI, bd_s, c, if_neg bIne, ck_t (inbN h12 (by omega)), nN (by omega), hd1, if_neg c1, e1, bd_s, lt_e]
  · refine k_q0 (r := -1) (by unfold tMoveOut; rw [if_neg c]) G C ?_
    · unfold f_X7_moveOut
      rw [k_hasHousehold R hI, bd_s, if_pos (bIf c)]
theorem st_keep {M : Mem} {g : Gh} (G : GO g) (C : CL M g) : OkC M f_X7_keep (tKeep g) := by
  have hI := G.1.1
  have hk := G.2.1.1
  obtain ⟨c1, ⟨c2, π, c3, c4, c5⟩, ⟨c6, c7⟩, c8, c9⟩ := C
  refine k_mk (g' := kpg g) (r := nI (hdN g.1)) (by rfl) ⟨G.1, G.2.1, fun _ => G.1, G.2.2.2⟩ ?_
  · obtain ⟨M1, e1, e2, e3⟩ := k_copy (d := 41) (a := 1) (by unfold Apart; omega) hI c1
    have fr : ∀ q, q ≠ 0 → q < 41 ∨ 81 ≤ q → up M1 0 2 1 q = M q := fun q h0 hq => by rw [up_ne h0, e3 q (by omega)]
    have R1 : RS (up M1 0 2 1) 1 g.1 := c1.co hI (fun i _ _ _ => fr i (by omega) (by omega))
    refine ⟨up M1 0 2 1, ?_, ⟨R1, ⟨by rw [fr 81 (by omega) (by omega)]; exact c2, π, fun j hj => by rw [fr 82 (by omega) (by omega)]; exact c3 j hj, c4, fun j hj => ?_⟩, ⟨up_same, fun _ => e2.co hI (fun i _ _ _ => up_ne (by omega))⟩, by rw [fr 243 (by omega) (by omega)]; exact c8, fun i hi => by rw [fr 244 (by omega) (by omega)]; exact c9 i hi⟩, fun q hq => fr q (by omega) (by omega)⟩
    · unfold f_X7_keep
      rw [e1, bd_s, lt_e, k_countHeld R1 hI, bd_s]
    · have hj2 : j < gK g := hj
      have := (c3 j (by omega)).2
      exact (c5 j hj).co (G.2.1.2 j hj).1 (fun i _ _ _ => fr i (by omega) (by omega))
theorem st_restore {M : Mem} {g : Gh} (G : GO g) (C : CL M g) : OkC M f_X7_restore (tRestore g) := by
  by_cases c : gB g = true
  · obtain ⟨hI', hZ'⟩ := G.2.2.1 c
    refine k_st (s' := gS g) (r := nI (hdN (gS g))) (by unfold tRestore; rw [if_pos c]) G hI' hZ' ?_
    · obtain ⟨M1, e1, e2, e3⟩ := k_record G C
      obtain ⟨M2, f1, f2, f3⟩ := k_copy (d := 1) (a := 41) (by unfold Apart; omega) hI' (e2.2.2.1.2 c)
      refine ⟨M1, M2, ?_, e2, f2, fun q h1 _ _ => f3 q (by omega), by rw [f3 243 (by omega)], fun q hq => by rw [f3 q (by omega), e3 q (by omega)]⟩
      unfold f_X7_restore
      rw [C.2.2.1.1, c, if_neg bIne, e1, bd_s, f1, bd_s, k_countHeld f2 hI', bd_s]
  · refine k_q0 (r := -5) (by unfold tRestore; rw [if_neg c]) G C ?_
    · unfold f_X7_restore
      rw [C.2.2.1.1, if_pos (bIf c)]
theorem st_undo {M : Mem} {g : Gh} (G : GO g) (C : CL M g) : OkC M f_X7_undo (tUndo g) := by
  have hk := G.2.1.1
  by_cases c : gK g = 0
  · refine k_q0 (r := -5) (by unfold tUndo; rw [if_pos c]) G C ?_
    · unfold f_X7_undo
      rw [C.2.1.1, c, if_pos (show nI 0 = (0 : Int32) from rfl)]
  · obtain ⟨hI', hZ'⟩ := G.2.1.2 (gK g - 1) (by omega)
    have ne0 : ¬ nI (gK g) = (0 : Int32) := fun q => by
      have := nI_inj (a := gK g) (b := 0) (by omega) (by omega) q
      omega
    refine k_mk (g' := udg g) (r := nI (gK g - 1)) (by unfold tUndo; rw [if_neg c]) ⟨⟨hI', hZ'⟩, ⟨by show gK g - 1 ≤ 4; omega, fun j hj => G.2.1.2 j (by have hj2 : j < gK g - 1 := hj; omega)⟩, G.2.2⟩ ?_
    · obtain ⟨c1, ⟨c2, π, c3, c4, c5⟩, ⟨c6, c7⟩, c8, c9⟩ := C
      have hp := c3 (gK g - 1) (by omega)
      have R0 : RS (up M 81 1 (nI (gK g - 1))) (83 + 40 * π (gK g - 1)) (gT g (gK g - 1)) := (c5 (gK g - 1) (by omega)).co hI' (fun i _ _ _ => up_ne (by omega))
      obtain ⟨M2, f1, f2, f3⟩ := k_copy (d := 1) (a := 83 + 40 * π (gK g - 1)) (by unfold Apart; omega) hI' R0
      have fr : ∀ q, q = 0 ∨ 41 ≤ q → q ≠ 81 → M2 q = M q := fun q h1 h2 => by rw [f3 q (by omega), up_ne h2]
      have m81 : M2 81 1 = nI (gK g - 1) := by rw [f3 81 (by omega), up_same]
      refine ⟨M2, ?_, ⟨f2, ⟨m81, π, fun j hj => by rw [fr 82 (by omega) (by omega)]; exact c3 j hj, c4, fun j hj => ?_⟩, ⟨by rw [fr 0 (by omega) (by omega)]; exact c6, fun hb => (c7 hb).co (G.2.2.1 hb).1 (fun i _ _ _ => fr i (by omega) (by omega))⟩, by rw [fr 243 (by omega) (by omega)]; exact c8, fun i hi => by rw [fr 244 (by omega) (by omega)]; exact c9 i hi⟩, fun q hq => fr q (by omega) (by omega)⟩
      · unfold f_X7_undo f_X1_takeBack
        rw [c2, if_neg ne0, if_neg (show ¬ nI (gK g) ≤ (0 : Int32) from fun q => by
          have := (nIle (a := gK g) (b := 0) (by omega) (by omega)).mp q
          omega), show (1 : Int32) = nI 1 from rfl, pk_sub (by omega), lt_e, up_same, ck_t (inbN (by omega) (by omega)), nN (show gK g - 1 < 2147483648 by omega), up_ne (show 82 ≠ 81 by omega), hp.1, ck_t (inbN hp.2 (by omega)), nN (by omega), f1, bd_s, bd_s, m81]
      · have hj2 : j < gK g - 1 := hj
        have := (c3 j (by omega)).2
        exact (c5 j (by omega)).co (G.2.1.2 j (by omega)).1 (fun i _ _ _ => fr i (by omega) (by omega))
theorem st_round {M : Mem} {g : Gh} (G : GO g) (C : CL M g) : OkC M f_X7_round (tRound g) := by
  have hI := G.1.1
  have R := C.1
  have b1 := hI.h1l
  have b2 := drN_le (s := g.1)
  by_cases c : drN g.1 = 0
  · refine k_q0 (r := -4) (by unfold tRound; rw [if_pos c]) G C ?_
    · unfold f_X7_round
      rw [k_countNumbered R hI, bd_s, c, if_pos (show nI 0 = (0 : Int32) from rfl)]
  · have ne0 : ¬ nI (drN g.1) = (0 : Int32) := fun q => by
      have := nI_inj (a := drN g.1) (b := 0) (by omega) (by omega) q
      omega
    obtain ⟨i1, i2⟩ := rdL_inv (d := drN g.1) (i := 0) (s := g.1) (c := 0) hI G.1.2 (by omega)
    refine k_st (s' := ur (rdL (drN g.1) 0 g.1 0).1 2 (g.1 2 + 1)) (r := nI (rdL (drN g.1) 0 g.1 0).2) (by unfold tRound; rw [if_neg c]) G (i1.ag (fun i h2 _ _ => ur_ne h2)) (i2.up (by omega)) ?_
    · obtain ⟨M1, e1, e2, e3⟩ := k_record G C
      have hI2 : Inv (ur g.1 2 (g.1 2 + 1)) := hI.ag (fun i h2 _ _ => ur_ne h2)
      have R1 : RS (up M1 1 4 (g.1 2 + 1)) 1 (ur g.1 2 (g.1 2 + 1)) := RS_cnt e2.1 hI
      obtain ⟨M2, f1, f2, f3⟩ := k_give R1 hI2
      have hd : drN (ur g.1 2 (g.1 2 + 1)) = drN g.1 := (ord_co (nh_ur (by omega)) (fun o => by unfold fP; rw [ur_ne (by omega)]) (fun o => by unfold fP; rw [ur_ne (by omega)])).2.2.2
      rw [hd, rdL_ur2 hI (by omega)] at f1 f2
      refine ⟨M1, M2, ?_, e2, f2, fun q h1 _ _ => by rw [f3 q (by omega) (by omega), up_ne (by omega)], by rw [f3 243 (by omega) (by omega), up_ne (by omega)], fun q hq => by rw [f3 q (by omega) (by omega), up_ne (by omega), e3 q (by omega)]⟩
      unfold f_X7_round
      have r2 : M1 1 4 = g.1 2 := e2.1.1.2.2.1
      rw [k_countNumbered R hI, bd_s, if_neg ne0, e1, bd_s, r2, lt_e, f1, bd_s]
theorem st_swap {M : Mem} {g : Gh} (G : GO g) (C : CL M g) : OkC M f_X7_swap (tSwap g) := by
  have hI := G.1.1
  have R := C.1
  have b1 := hI.h1l
  obtain ⟨Ml, l1, l2, l3⟩ := k_lookAt (show 1 + 40 ≤ 248 by omega) R hI
  by_cases c : loO g.1 = none
  · refine k_q (r := -5) (by unfold tSwap; rw [if_pos c]) G C ⟨Ml, ?_, fun q _ h => l3 q (by omega) (by omega)⟩
    · unfold f_X7_swap
      rw [l1, bd_s, k_lowest hI l2, bd_s, c, if_pos (show oI none = -5 from rfl)]
  · have ne5 : ¬ oI (loO g.1) = -5 := by
      cases hq : loO g.1 with
      | none => exact absurd hq c
      | some a =>
        have := (loO_some hq).1
        exact nIne5 (by omega)
    obtain ⟨i1, i2⟩ := swA_inv (d := 73) (s := g.1) (c := 0) hI G.1.2
    have hp := pot_le hI
    refine k_st (s' := (swA 73 g.1 0).1) (r := nI (swA 73 g.1 0).2) (by unfold tSwap; rw [if_neg c]) G i1 i2 ?_
    · have Cl : CL Ml g := C.co G (fun q h1 _ _ => l3 q (by omega) (by omega)) (by rw [l3 243 (by omega) (by omega)])
      obtain ⟨M1, e1, e2, e3⟩ := k_record G Cl
      obtain ⟨M2, f1, f2, f3⟩ := k_swapAll_l (show 1 + 40 ≤ 248 by omega) 73 LF 0 0 M1 g.1 hI e2.1 (by omega) (by unfold LF; omega) (by omega)
      refine ⟨M1, M2, ?_, e2, f2, fun q h1 h2 _ => f3 q (by omega) (by omega) (by omega), by rw [f3 243 (by omega) (by omega) (by omega)], fun q hq => by rw [f3 q (by omega) (by omega) (by omega), e3 q (by omega), l3 q (by omega) (by omega)]⟩
      unfold f_X7_swap f_X5_swapAll
      rw [l1, bd_s, k_lowest hI l2, bd_s, if_neg ne5, e1, bd_s, show (0 : Int32) = nI 0 from rfl, f1, bd_s]
