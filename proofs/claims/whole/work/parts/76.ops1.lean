/-! THE QUESTIONS -/
theorem ok_q0 {M : Mem} {g : Gh} {r : Int32} {F H : Mem → Option (Int32 × Mem)} (hG : GO g) (hC : CL M g) (hM : MO M g) (hc : F M = some (r, M)) (hm : ∀ M1, MO M1 g → H M1 = some (r, M1)) : Ok Sim M F H := ok_q hG hC hM ⟨M, hc, fun _ _ _ => rfl⟩ (fun M1 h1 => ⟨M1, hm M1 h1, fun _ _ => rfl⟩)
theorem MO.inv {M : Mem} {g : Gh} (O : MO M g) (G : GO g) : Inv (M 256) := by
  rw [O.1]
  exact G.1.1
theorem bIf {b : Bool} (h : ¬ b = true) : bI b = 0 := by
  cases b
  · rfl
  · exact absurd rfl h
theorem op_flat {M : Mem} {g : Gh} (G : GO g) (C : CL M g) (O : MO M g) (a b : Int32) : Ok Sim M (f_X7_flat a b) (f_X8_flat a b) := by
  have hI := G.1.1
  have R := C.1
  have b0 := hI.h0l
  by_cases c : inb a (nf g.1) = true
  · obtain ⟨f, hf, rfl⟩ := inb_ex c (by omega)
    have cI : f_X6_hasFlat 1 (nI f) M = some (bI true, M) := by rw [k_hasFlat R hI, c]
    have mI : ∀ M1, MO M1 g → f_X8_isFlat (nI f) M1 = some (bI true, M1) := fun M1 h => by rw [isFlat_n (h.inv G), h.1, c]
    have f0 : M (5 + f) 0 = g.1 (6 + 2 * f) := (R.fl hf).1
    have f1 : M (5 + f) 1 = g.1 (6 + 2 * f + 1) := (R.fl hf).2
    have base : ∀ r, (∀ M1, f_X7_flat (nI f) b M = some (r, M) ∧ (MO M1 g → f_X8_flat (nI f) b M1 = some (r, M1))) → Ok Sim M (f_X7_flat (nI f) b) (f_X8_flat (nI f) b) := fun r h => ok_q0 G C O (h M).1 (fun M1 h1 => (h M1).2 h1)
    by_cases c0 : b = 0
    · refine base (g.1 (6 + 2 * f)) (fun M1 => ⟨?_, fun h => ?_⟩)
      · unfold f_X7_flat
        rw [cI, bd_s, if_neg bIne, if_pos c0, ck_t (inbN (by omega) (by omega)), nN (by omega), f0]
      · unfold f_X8_flat
        rw [mI M1 h, bd_s, if_neg bIne, if_pos c0, rooms_n (by omega), bd_s, h.1]
    by_cases c1 : b = 1
    · refine base (g.1 (6 + 2 * f + 1)) (fun M1 => ⟨?_, fun h => ?_⟩)
      · unfold f_X7_flat
        rw [cI, bd_s, if_neg bIne, if_neg c0, if_pos c1, ck_t (inbN (by omega) (by omega)), nN (by omega), f1]
      · unfold f_X8_flat
        rw [mI M1 h, bd_s, if_neg bIne, if_neg c0, if_pos c1, rent_n (by omega), bd_s, h.1]
    by_cases c2 : b = 2
    · refine base (oI (hoO g.1 (nI f))) (fun M1 => ⟨?_, fun h => ?_⟩)
      · unfold f_X7_flat
        rw [cI, bd_s, if_neg bIne, if_neg c0, if_neg c1, if_pos c2, k_holderOf R hI, bd_s]
      · unfold f_X8_flat
        rw [mI M1 h, bd_s, if_neg bIne, if_neg c0, if_neg c1, if_pos c2, holder_n (h.inv G) (by omega), bd_s, h.1]
    by_cases c3 : b = 3
    · refine base (wsI g.1 (nI f)) (fun M1 => ⟨?_, fun h => ?_⟩)
      · unfold f_X7_flat
        rw [cI, bd_s, if_neg bIne, if_neg c0, if_neg c1, if_neg c2, if_pos c3, k_wishersOf R hI, bd_s]
      · unfold f_X8_flat
        rw [mI M1 h, bd_s, if_neg bIne, if_neg c0, if_neg c1, if_neg c2, if_pos c3, if_neg (by rw [c3]; decide), households0_n (h.inv G), bd_s, h.1]
    by_cases c4 : b = 4
    · refine base (esI g.1 f) (fun M1 => ⟨?_, fun h => ?_⟩)
      · unfold f_X7_flat
        rw [cI, bd_s, if_neg bIne, if_neg c0, if_neg c1, if_neg c2, if_neg c3, if_pos c4, k_eligibleFor R hI hf, bd_s]
      · unfold f_X8_flat
        rw [mI M1 h, bd_s, if_neg bIne, if_neg c0, if_neg c1, if_neg c2, if_neg c3, if_pos c4, if_pos c4, households1_n (h.inv G) (by rw [h.1]; exact hf), bd_s, h.1]
    · refine base (-2) (fun M1 => ⟨?_, fun h => ?_⟩)
      · unfold f_X7_flat
        rw [cI, bd_s, if_neg bIne, if_neg c0, if_neg c1, if_neg c2, if_neg c3, if_neg c4]
      · unfold f_X8_flat
        rw [mI M1 h, bd_s, if_neg bIne, if_neg c0, if_neg c1, if_neg c2, if_neg c3, if_neg c4]
  · refine ok_q0 (r := -1) G C O ?_ (fun M1 h => ?_)
    · unfold f_X7_flat
      rw [k_hasFlat R hI, bd_s, if_pos (bIf c)]
    · unfold f_X8_flat
      rw [isFlat_n (h.inv G), bd_s, h.1, if_pos (bIf c)]
theorem op_household {M : Mem} {g : Gh} (G : GO g) (C : CL M g) (O : MO M g) (a b : Int32) : Ok Sim M (f_X7_household a b) (f_X8_household a b) := by
  have hI := G.1.1
  have R := C.1
  have b1 := hI.h1l
  by_cases c : inb a (nh g.1) = true
  · obtain ⟨h, hh, rfl⟩ := inb_ex c (by omega)
    have cI : f_X6_hasHousehold 1 (nI h) M = some (bI true, M) := by rw [k_hasHousehold R hI, c]
    have mI : ∀ M1, MO M1 g → f_X8_isHome (nI h) M1 = some (bI true, M1) := fun M1 h' => by rw [isHome_n (h'.inv G), h'.1, c]
    have h12 : h < 12 := by omega
    have base : ∀ r, (∀ M1, f_X7_household (nI h) b M = some (r, M) ∧ (MO M1 g → f_X8_household (nI h) b M1 = some (r, M1))) → Ok Sim M (f_X7_household (nI h) b) (f_X8_household (nI h) b) := fun r h' => ok_q0 G C O (h' M).1 (fun M1 h1 => (h' M1).2 h1)
    obtain ⟨a1, a2, a3, a4, a5, a6, a7, a8, -⟩ := R.hr hh
    by_cases c0 : b = 0
    · refine base (g.1 (30 + 14 * h + 0)) (fun M1 => ⟨?_, fun h' => ?_⟩)
      · unfold f_X7_household
        rw [cI, bd_s, if_neg bIne, ck_t (inbN h12 (by omega)), if_pos c0, nN (by omega)]
        exact congrArg (fun z => some (z, M)) a2
      · unfold f_X8_household
        rw [mI M1 h', bd_s, if_neg bIne, if_pos c0, c0, of0 h12, bd_s, h'.1]
    by_cases c1 : b = 1
    · refine base (g.1 (30 + 14 * h + 1)) (fun M1 => ⟨?_, fun h' => ?_⟩)
      · unfold f_X7_household
        rw [cI, bd_s, if_neg bIne, ck_t (inbN h12 (by omega)), if_neg c0, if_pos c1, nN (by omega)]
        exact congrArg (fun z => some (z, M)) a3
      · unfold f_X8_household
        rw [mI M1 h', bd_s, if_neg bIne, if_neg c0, if_pos c1, c1, of1 h12, bd_s, h'.1]
    by_cases c2 : b = 2
    · refine base (noI g.1 h) (fun M1 => ⟨?_, fun h' => ?_⟩)
      · unfold f_X7_household
        rw [cI, bd_s, if_neg bIne, ck_t (inbN h12 (by omega)), if_neg c0, if_neg c1, if_pos c2, nN (by omega)]
        exact congrArg (fun z => some (z, M)) a4
      · unfold f_X8_household
        rw [mI M1 h', bd_s, if_neg bIne, if_neg c0, if_neg c1, if_pos c2, isDrawn_n (h'.inv G) (by rw [h'.1]; exact hh), bd_s, h'.1]
        unfold noI
        cases drB g.1 h with
        | false => rfl
        | true => rw [if_neg bIne, of2 h12, bd_s, h'.1, if_pos rfl]
    by_cases c3 : b = 3
    · refine base (g.1 (30 + 14 * h + 3)) (fun M1 => ⟨?_, fun h' => ?_⟩)
      · unfold f_X7_household
        rw [cI, bd_s, if_neg bIne, ck_t (inbN h12 (by omega)), if_neg c0, if_neg c1, if_neg c2, if_pos c3, nN (by omega)]
        exact congrArg (fun z => some (z, M)) a5
      · unfold f_X8_household
        rw [mI M1 h', bd_s, if_neg bIne, if_neg c0, if_neg c1, if_neg c2, if_pos c3, c3, of3 h12, bd_s, h'.1]
    by_cases c4 : b = 4
    · refine base (hd g.1 h) (fun M1 => ⟨?_, fun h' => ?_⟩)
      · unfold f_X7_household
        rw [cI, bd_s, if_neg bIne, ck_t (inbN h12 (by omega)), if_neg c0, if_neg c1, if_neg c2, if_neg c3, if_pos c4, nN (by omega)]
        exact congrArg (fun z => some (z, M)) a6
      · unfold f_X8_household
        rw [mI M1 h', bd_s, if_neg bIne, if_neg c0, if_neg c1, if_neg c2, if_neg c3, if_pos c4, c4, of4 h12, bd_s, h'.1]
    by_cases c5 : b = 5
    · refine base (g.1 (30 + 14 * h + 7)) (fun M1 => ⟨?_, fun h' => ?_⟩)
      · unfold f_X7_household
        rw [cI, bd_s, if_neg bIne, ck_t (inbN h12 (by omega)), if_neg c0, if_neg c1, if_neg c2, if_neg c3, if_neg c4, if_pos c5, nN (by omega)]
        exact congrArg (fun z => some (z, M)) a1
      · unfold f_X8_household
        rw [mI M1 h', bd_s, if_neg bIne, if_neg c0, if_neg c1, if_neg c2, if_neg c3, if_neg c4, if_pos c5, of7 h12, bd_s, h'.1]
    by_cases c6 : b = 6
    · refine base (g.1 (30 + 14 * h + 5)) (fun M1 => ⟨?_, fun h' => ?_⟩)
      · unfold f_X7_household
        rw [cI, bd_s, if_neg bIne, ck_t (inbN h12 (by omega)), if_neg c0, if_neg c1, if_neg c2, if_neg c3, if_neg c4, if_neg c5, if_pos c6, nN (by omega)]
        exact congrArg (fun z => some (z, M)) a7
      · unfold f_X8_household
        rw [mI M1 h', bd_s, if_neg bIne, if_neg c0, if_neg c1, if_neg c2, if_neg c3, if_neg c4, if_neg c5, if_pos c6, of5 h12, bd_s, h'.1]
    by_cases c7 : b = 7
    · refine base (if drB g.1 h = true then nI (poN g.1 h) else -5) (fun M1 => ⟨?_, fun h' => ?_⟩)
      · have hp : f_X6_placeInOrder 1 (17 + 2 * h) M = some (if drB g.1 h = true then nI (poN g.1 h) else -5, M) := k_placeIn R hI hh
        unfold f_X7_household
        rw [cI, bd_s, if_neg bIne, ck_t (inbN h12 (by omega)), if_neg c0, if_neg c1, if_neg c2, if_neg c3, if_neg c4, if_neg c5, if_neg c6, if_pos c7, nN (by omega), hp, bd_s]
      · unfold f_X8_household
        rw [mI M1 h', bd_s, if_neg bIne, if_neg c0, if_neg c1, if_neg c2, if_neg c3, if_neg c4, if_neg c5, if_neg c6, if_pos c7, placeOf_n (h'.inv G) (by rw [h'.1]; exact hh), bd_s, h'.1]
    by_cases c8 : b = 8
    · refine base (oI (ptO g.1 h)) (fun M1 => ⟨?_, fun h' => ?_⟩)
      · have hp : f_X6_pointsTo 1 (17 + 2 * h) M = some (oI (ptO g.1 h), M) := k_pointsTo R hI hh
        unfold f_X7_household
        rw [cI, bd_s, if_neg bIne, ck_t (inbN h12 (by omega)), if_neg c0, if_neg c1, if_neg c2, if_neg c3, if_neg c4, if_neg c5, if_neg c6, if_neg c7, if_pos c8, nN (by omega), hp, bd_s]
      · unfold f_X8_household
        rw [mI M1 h', bd_s, if_neg bIne, if_neg c0, if_neg c1, if_neg c2, if_neg c3, if_neg c4, if_neg c5, if_neg c6, if_neg c7, if_pos c8, pointed_n (h'.inv G) (by rw [h'.1]; exact hh), bd_s, h'.1]
    by_cases c9 : b = 9
    · refine base (g.1 (30 + 14 * h + 6)) (fun M1 => ⟨?_, fun h' => ?_⟩)
      · unfold f_X7_household
        rw [cI, bd_s, if_neg bIne, ck_t (inbN h12 (by omega)), if_neg c0, if_neg c1, if_neg c2, if_neg c3, if_neg c4, if_neg c5, if_neg c6, if_neg c7, if_neg c8, if_pos c9, nN (by omega)]
        exact congrArg (fun z => some (z, M)) a8
      · unfold f_X8_household
        rw [mI M1 h', bd_s, if_neg bIne, if_neg c0, if_neg c1, if_neg c2, if_neg c3, if_neg c4, if_neg c5, if_neg c6, if_neg c7, if_neg c8, if_pos c9, of6 h12, bd_s, h'.1]
    · refine base (-2) (fun M1 => ⟨?_, fun h' => ?_⟩)
      · unfold f_X7_household
        rw [cI, bd_s, if_neg bIne, ck_t (inbN h12 (by omega)), if_neg c0, if_neg c1, if_neg c2, if_neg c3, if_neg c4, if_neg c5, if_neg c6, if_neg c7, if_neg c8, if_neg c9]
      · unfold f_X8_household
        rw [mI M1 h', bd_s, if_neg bIne, if_neg c0, if_neg c1, if_neg c2, if_neg c3, if_neg c4, if_neg c5, if_neg c6, if_neg c7, if_neg c8, if_neg c9]
  · refine ok_q0 (r := -1) G C O ?_ (fun M1 h => ?_)
    · unfold f_X7_household
      rw [k_hasHousehold R hI, bd_s, if_pos (bIf c)]
    · unfold f_X8_household
      rw [isHome_n (h.inv G), bd_s, h.1, if_pos (bIf c)]
theorem lt_inb {b : Int32} {n : Nat} (hn : n < 2147483648) (h0 : 0 ≤ b) (h : b < nI n) : ∃ k, k < n ∧ b = nI k := inb_ex (n := n) (by
  rw [Int32.le_iff_toInt_le, Int32.toInt_zero] at h0
  rw [Int32.lt_iff_toInt_lt, nI_toInt hn] at h
  exact decide_eq_true ⟨h0, h⟩) hn
theorem op_wished {M : Mem} {g : Gh} (G : GO g) (C : CL M g) (O : MO M g) (a b : Int32) : Ok Sim M (f_X7_wished a b) (f_X8_wished a b) := by
  have hI := G.1.1
  have R := C.1
  have b1 := hI.h1l
  by_cases c : inb a (nh g.1) = true
  · obtain ⟨h, hh, rfl⟩ := inb_ex c (by omega)
    have cI : f_X6_hasHousehold 1 (nI h) M = some (bI true, M) := by rw [k_hasHousehold R hI, c]
    have mI : ∀ M1, MO M1 g → f_X8_isHome (nI h) M1 = some (bI true, M1) := fun M1 h' => by rw [isHome_n (h'.inv G), h'.1, c]
    have h12 : h < 12 := by omega
    obtain ⟨⟨l1, l2⟩, -⟩ := hI.ls hh
    have w1 : M (17 + 2 * h) 1 = nI (fP g.1 h 7) := (R.wc hh).trans l1
    by_cases c0 : (0 : Int32) ≤ b
    · by_cases c1 : b < nI (fP g.1 h 7)
      · obtain ⟨k, hk, rfl⟩ := lt_inb (by omega) c0 c1
        have w2 : M (18 + 2 * h) k = g.1 (30 + 14 * h + 8 + k) := by
          rw [show 18 + 2 * h = 1 + 16 + 2 * h + 1 by omega]
          exact R.wi hh hk
        refine ok_q0 (r := g.1 (30 + 14 * h + 8 + k)) G C O ?_ (fun M1 h' => ?_)
        · unfold f_X7_wished
          rw [cI, bd_s, if_neg bIne, if_pos c0, ck_t (inbN h12 (by omega)), nN (show h < 2147483648 by omega), w1, if_pos c1, ck_t (inbN (by omega) (by omega)), nN (by omega), w2]
        · unfold f_X8_wished
          rw [mI M1 h', bd_s, if_neg bIne, if_pos c0, of7 h12, bd_s, h'.1, l1, if_neg (Int32.not_le.mpr c1), show (8 : Int32) + nI k = nI (8 + k) from nI_add 8 k, of_n (k := 8 + k) h12 (by omega) rfl, bd_s, h'.1, show 30 + 14 * h + (8 + k) = 30 + 14 * h + 8 + k by omega]
      · refine ok_q0 (r := -5) G C O ?_ (fun M1 h' => ?_)
        · unfold f_X7_wished
          rw [cI, bd_s, if_neg bIne, if_pos c0, ck_t (inbN h12 (by omega)), nN (show h < 2147483648 by omega), w1, if_neg c1]
        · unfold f_X8_wished
          rw [mI M1 h', bd_s, if_neg bIne, if_pos c0, of7 h12, bd_s, h'.1, l1, if_pos (Int32.not_lt.mp c1)]
    · refine ok_q0 (r := -2) G C O ?_ (fun M1 h' => ?_)
      · unfold f_X7_wished
        rw [cI, bd_s, if_neg bIne, if_neg c0]
      · unfold f_X8_wished
        rw [mI M1 h', bd_s, if_neg bIne, if_neg c0]
  · refine ok_q0 (r := -1) G C O ?_ (fun M1 h => ?_)
    · unfold f_X7_wished
      rw [k_hasHousehold R hI, bd_s, if_pos (bIf c)]
    · unfold f_X8_wished
      rw [isHome_n (h.inv G), bd_s, h.1, if_pos (bIf c)]
theorem op_ordered {M : Mem} {g : Gh} (G : GO g) (C : CL M g) (O : MO M g) (a : Int32) : Ok Sim M (f_X7_ordered a) (f_X8_ordered a) := by
  have hI := G.1.1
  have R := C.1
  have b1 := hI.h1l
  have b2 := drN_le (s := g.1)
  by_cases c0 : (0 : Int32) ≤ a
  · refine ok_q (r := oI (atO g.1 a)) G C O ?_ (fun M1 h' => ⟨M1, ?_, fun _ _ => rfl⟩)
    · obtain ⟨M', e1, e2, e3⟩ := k_lineUp R hI
      refine ⟨M', ?_, fun q hq _ => e2 q hq⟩
      unfold f_X7_ordered
      rw [if_pos c0, e1, bd_s]
      by_cases c1 : a < nI (drN g.1)
      · obtain ⟨r, hr, rfl⟩ := lt_inb (by omega) c0 c1
        obtain ⟨h, -, -, -, h4, h5⟩ := e3 r hr
        have h6 : M' 4 r = nI h := h5
        rw [if_pos c1, ck_t (inbN (by omega) (by omega)), nN (by omega), h6, h4]
        rfl
      · rw [if_neg c1, atO_none hI c0 c1]
        rfl
    · unfold f_X8_ordered
      rw [if_pos c0, at_n (h'.inv G), bd_s, h'.1]
  · refine ok_q0 (r := -2) G C O ?_ (fun M1 h' => ?_)
    · unfold f_X7_ordered
      rw [if_neg c0]
    · unfold f_X8_ordered
      rw [if_neg c0]
theorem op_envies {M : Mem} {g : Gh} (G : GO g) (C : CL M g) (O : MO M g) (a b : Int32) : Ok Sim M (f_X7_envies a b) (f_X8_envies a b) := by
  have hI := G.1.1
  have R := C.1
  have b1 := hI.h1l
  by_cases c : inb a (nh g.1) = true
  · by_cases c2 : inb b (nh g.1) = true
    · obtain ⟨h, hh, rfl⟩ := inb_ex c (by omega)
      obtain ⟨o, ho, rfl⟩ := inb_ex c2 (by omega)
      by_cases e : nI h = nI o
      · refine ok_q0 (r := -2) G C O ?_ (fun M1 h' => ?_)
        · unfold f_X7_envies
          rw [k_hasHousehold R hI, bd_s, c, if_neg bIne, k_hasHousehold R hI, bd_s, c2, if_neg bIne, if_pos e]
        · unfold f_X8_envies
          rw [isHome_n (h'.inv G), bd_s, h'.1, c, if_neg bIne, isHome_n (h'.inv G), bd_s, h'.1, c2, if_neg bIne, if_pos e]
      · have hp : f_X6_envyOf 1 (17 + 2 * h) (17 + 2 * o) M = some (evI g.1 h o, M) := k_envyOf R hI hh ho
        refine ok_q0 (r := evI g.1 h o) G C O ?_ (fun M1 h' => ?_)
        · unfold f_X7_envies
          rw [k_hasHousehold R hI, bd_s, c, if_neg bIne, k_hasHousehold R hI, bd_s, c2, if_neg bIne, if_neg e, ck_t (inbN (by omega) (by omega)), ck_t (inbN (by omega) (by omega)), nN (by omega), nN (by omega), hp, bd_s]
        · unfold f_X8_envies
          rw [isHome_n (h'.inv G), bd_s, h'.1, c, if_neg bIne, isHome_n (h'.inv G), bd_s, h'.1, c2, if_neg bIne, if_neg e, envy_n (h'.inv G) (by rw [h'.1]; exact hh) (by rw [h'.1]; exact ho), bd_s, h'.1]
    · refine ok_q0 (r := -1) G C O ?_ (fun M1 h' => ?_)
      · unfold f_X7_envies
        rw [k_hasHousehold R hI, bd_s, c, if_neg bIne, k_hasHousehold R hI, bd_s, if_pos (bIf c2)]
      · unfold f_X8_envies
        rw [isHome_n (h'.inv G), bd_s, h'.1, c, if_neg bIne, isHome_n (h'.inv G), bd_s, h'.1, if_pos (bIf c2)]
  · refine ok_q0 (r := -1) G C O ?_ (fun M1 h => ?_)
    · unfold f_X7_envies
      rw [k_hasHousehold R hI, bd_s, if_pos (bIf c)]
    · unfold f_X8_envies
      rw [isHome_n (h.inv G), bd_s, h.1, if_pos (bIf c)]
theorem op_would {M : Mem} {g : Gh} (G : GO g) (C : CL M g) (O : MO M g) (a b : Int32) : Ok Sim M (f_X7_wouldGet a b) (f_X8_wouldGet a b) := by
  have hI := G.1.1
  have R := C.1
  have b1 := hI.h1l
  have b2 := drN_le (s := g.1)
  have ml : ∀ M1, MO M1 g → l_X8_wouldGet_35 a b (nI (drN g.1)) LF 0 0 M1 = some (wgL g.1 a b (drN g.1) 0 0, M1) := fun M1 h' => by
    have := would_l (h'.inv G) a b (drN (M1 256)) 0 LF 0 (by omega) (by rw [h'.1]; unfold LF; omega)
    rw [h'.1] at this
    exact this
  by_cases c : inb a (nh g.1) = true
  · by_cases c0 : b = -5
    · refine ok_q (r := wgL g.1 a b (drN g.1) 0 0) G C O ?_ (fun M1 h' => ⟨M1, ?_, fun _ _ => rfl⟩)
      · obtain ⟨M', e1, e2⟩ := k_would R hI a b
        refine ⟨M', ?_, fun q hq _ => e2 q hq⟩
        unfold f_X7_wouldGet
        rw [k_hasHousehold R hI, bd_s, c, if_neg bIne, if_pos c0, e1, bd_s]
      · unfold f_X8_wouldGet
        rw [isHome_n (h'.inv G), bd_s, h'.1, c, if_neg bIne, if_pos c0, drawn_n (h'.inv G), bd_s, h'.1]
        exact ml M1 h'
    · by_cases c2 : inb b (nh g.1) = true
      · refine ok_q (r := wgL g.1 a b (drN g.1) 0 0) G C O ?_ (fun M1 h' => ⟨M1, ?_, fun _ _ => rfl⟩)
        · obtain ⟨M', e1, e2⟩ := k_would R hI a b
          refine ⟨M', ?_, fun q hq _ => e2 q hq⟩
          unfold f_X7_wouldGet
          rw [k_hasHousehold R hI, bd_s, c, if_neg bIne, if_neg c0, k_hasHousehold R hI, bd_s, c2, if_neg bIne, e1, bd_s]
        · unfold f_X8_wouldGet
          rw [isHome_n (h'.inv G), bd_s, h'.1, c, if_neg bIne, if_neg c0, isHome_n (h'.inv G), bd_s, h'.1, c2, if_neg bIne, drawn_n (h'.inv G), bd_s, h'.1]
          exact ml M1 h'
      · refine ok_q0 (r := -1) G C O ?_ (fun M1 h' => ?_)
        · unfold f_X7_wouldGet
          rw [k_hasHousehold R hI, bd_s, c, if_neg bIne, if_neg c0, k_hasHousehold R hI, bd_s, if_pos (bIf c2)]
        · unfold f_X8_wouldGet
          rw [isHome_n (h'.inv G), bd_s, h'.1, c, if_neg bIne, if_neg c0, isHome_n (h'.inv G), bd_s, h'.1, if_pos (bIf c2)]
  · refine ok_q0 (r := -1) G C O ?_ (fun M1 h => ?_)
    · unfold f_X7_wouldGet
      rw [k_hasHousehold R hI, bd_s, if_pos (bIf c)]
    · unfold f_X8_wouldGet
      rw [isHome_n (h.inv G), bd_s, h.1, if_pos (bIf c)]
