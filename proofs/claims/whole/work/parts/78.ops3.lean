/-! WHAT CHANGES THE STATE -/
def setS (g : Gh) (s : Row) : Gh := (s, g.2)
theorem setS_GO {g : Gh} (G : GO g) {s : Row} (hI : Inv s) (hZ : Zr s) : GO (setS g s) := ⟨⟨hI, hZ⟩, G.2⟩
theorem CL.set {M M' : Mem} {g : Gh} {s : Row} (C : CL M g) (G : GO g) (R : RS M' 1 s) (h : ∀ q, q = 0 ∨ 41 ≤ q → q < 245 → q ≠ 243 → M' q = M q) (h1 : M' 243 1 = M 243 1) : CL M' (setS g s) := by
  obtain ⟨-, ⟨c2, π, c3, c4, c5⟩, ⟨c6, c7⟩, c8, c9⟩ := C
  refine ⟨R, ⟨by rw [h 81 (by omega) (by omega) (by omega)]; exact c2, π, fun j hj => by rw [h 82 (by omega) (by omega) (by omega)]; exact c3 j hj, c4, fun j hj => ?_⟩, ⟨by rw [h 0 (by omega) (by omega) (by omega)]; exact c6, fun hb => ?_⟩, by rw [h1]; exact c8, fun i hi => by rw [h 244 (by omega) (by omega) (by omega)]; exact c9 i hi⟩
  · have hk := G.2.1.1
    have hj2 : j < gK g := hj
    have := (c3 j (by omega)).2
    exact (c5 j hj).co (G.2.1.2 j hj).1 (fun i _ _ _ => h i (by omega) (by omega) (by omega))
  · exact (c7 hb).co (G.2.2.1 hb).1 (fun i _ _ _ => h i (by omega) (by omega) (by omega))
theorem MO.set {M M' : Mem} {g : Gh} {s : Row} (O : MO M g) (h0 : M' 256 = s) (h : ∀ q, 257 ≤ q → q < 260 → M' q = M q) (h1 : M' 255 2 = M 255 2 ∧ M' 255 4 = M 255 4 ∧ M' 255 6 = M 255 6) : MO M' (setS g s) := by
  obtain ⟨-, o2, o3, o4⟩ := O
  unfold MO
  rw [h1.1, h1.2.1, h1.2.2, h 257 (by omega) (by omega), h 258 (by omega) (by omega), h 259 (by omega) (by omega)]
  exact ⟨h0, o2, o3, o4⟩
theorem ok_st {M : Mem} {g : Gh} {s' : Row} {r : Int32} {F H : Mem → Option (Int32 × Mem)} (G : GO g) (O : MO M g) (hI' : Inv s') (hZ' : Zr s') (hc : ∃ M1 M2, F M = some (r, M2) ∧ CL M1 (psh g) ∧ RS M2 1 s' ∧ (∀ q, q = 0 ∨ 41 ≤ q → q < 245 → q ≠ 243 → M2 q = M1 q) ∧ M2 243 1 = M1 243 1 ∧ ∀ q, 255 ≤ q → M2 q = M q) (hm : ∀ M0, MO M0 g → ∃ M1 M2, H M0 = some (r, M2) ∧ MO M1 (psh g) ∧ M2 256 = s' ∧ (∀ q, 257 ≤ q → q < 260 → M2 q = M1 q) ∧ (M2 255 2 = M1 255 2 ∧ M2 255 4 = M1 255 4 ∧ M2 255 6 = M1 255 6) ∧ ∀ q, q < 255 → M2 q = M0 q) : Ok Sim M F H := by
  obtain ⟨M1, M2, f1, f2, f3, f4, f5, f6⟩ := hc
  have GP := psh_GO G
  refine ok_mk (g' := setS (psh g) s') O (setS_GO GP hI' hZ') ⟨M2, f1, f2.set GP f3 f4 f5, f6⟩ (fun M0 h => ?_)
  obtain ⟨N1, N2, e1, e2, e3, e4, e5, e6⟩ := hm M0 h
  exact ⟨N2, e1, e2.set e3 e4 e5, e6⟩
theorem row_eq {a b : Row} (h : ∀ k, k < 198 → a k = b k) (ha : Zr a) (hb : Zr b) : a = b := by
  funext k
  by_cases c : k < 198
  · exact h k c
  · rw [ha k (by omega), hb k (by omega)]
theorem Inv.ag {s s' : Row} (hI : Inv s) (g : ∀ i, i ≠ 2 → i ≠ 4 → i ≠ 5 → s' i = s i) : Inv s' := by
  have e0 : nf s' = nf s := by
    unfold nf
    rw [g 0 (by omega) (by omega) (by omega)]
  have e1 : nh s' = nh s := by
    unfold nh
    rw [g 1 (by omega) (by omega) (by omega)]
  have hb : ∀ o k, k < 14 → s' (30 + 14 * o + k) = s (30 + 14 * o + k) := fun o k hk => g _ (by omega) (by omega) (by omega)
  have ef : ∀ o k, k < 14 → fP s' o k = fP s o k := fun o k hk => by
    unfold fP
    rw [hb o k hk]
  have eh : ∀ o, hd s' o = hd s o := fun o => hb o 4 (by omega)
  refine ⟨⟨⟨?_, ?_⟩, ?_, ?_⟩, ⟨fun f hf => ?_, fun o ho => ?_⟩, ⟨fun a b ha hb2 hq hne => ?_, fun a b ha hb2 hq hne => ?_⟩, ?_⟩
  · rw [e0, g 0 (by omega) (by omega) (by omega)]
    exact hI.h0
  · rw [e0]
    exact hI.h0l
  · rw [e1, g 1 (by omega) (by omega) (by omega)]
    exact hI.h1
  · rw [e1]
    exact hI.h1l
  · rw [e0] at hf
    have := hI.fl hf
    unfold FlOk rm rt at *
    rw [g (6 + 2 * f) (by omega) (by omega) (by omega), g (6 + 2 * f + 1) (by omega) (by omega) (by omega)]
    exact this
  · rw [e1] at ho
    exact ⟨(hI.nu ho).co (hb o), (hI.ls ho).co e0 (hb o), (hI.hdk ho).co e0 (hb o 4 (by omega))⟩
  · rw [e1] at ha hb2
    rw [eh, eh] at hq
    rw [eh] at hne
    exact hI.uh a b ha hb2 hq hne
  · rw [e1] at ha hb2
    rw [ef a 2 (by omega)] at hq hne
    rw [ef b 2 (by omega)] at hq
    exact hI.un a b ha hb2 hq hne
  · rw [e1, g 3 (by omega) (by omega) (by omega), hI.2.2.2]
    congr 1
    exact sumN_congr (fun i _ => (ef i 5 (by omega)).symm)
/-! moving out -/
theorem RSw {M : Mem} {s : Row} {h : Nat} {v : Int32} (R : RS M 1 s) (hI : Inv s) : RS (up M (17 + 2 * h) 6 v) 1 (ur s (30 + 14 * h + 4) v) := RS_held R hI.h0l hI.h1l (fun _ ho => (hI.ls ho).1.2)
theorem op_moveOut {M : Mem} {g : Gh} (G : GO g) (C : CL M g) (O : MO M g) (a : Int32) : Ok Sim M (f_X7_moveOut a) (f_X8_moveOut a) := by
  have hI := G.1.1
  have R := C.1
  have b1 := hI.h1l
  by_cases c : inb a (nh g.1) = true
  · obtain ⟨h, hh, rfl⟩ := inb_ex c (by omega)
    have h12 : h < 12 := by omega
    have hd1 : M (17 + 2 * h) 6 = hd g.1 h := R.hd hh
    by_cases c1 : hd g.1 h = -5
    · refine ok_q0 (r := -5) G C O ?_ (fun M1 h' => ?_)
      · unfold f_X7_moveOut
        rw [k_hasHousehold R hI, bd_s, c, if_neg bIne, ck_t (inbN h12 (by omega)), nN (by omega), hd1, if_pos c1]
      · unfold f_X8_moveOut
        rw [isHome_n (h'.inv G), bd_s, h'.1, c, if_neg bIne, of4 h12, bd_s, h'.1, if_pos c1]
    · refine ok_st (s' := ur g.1 (30 + 14 * h + 4) (-5)) (r := hd g.1 h) G O (hI.give hh (Or.inl rfl) (fun q => absurd rfl q)) (G.1.2.up (by omega)) ?_ (fun M0 h' => ?_)
      · obtain ⟨M1, e1, e2, e3⟩ := k_record G C
        refine ⟨M1, up M1 (17 + 2 * h) 6 (-5), ?_, e2, RSw e2.1 hI, fun q _ _ _ => up_ne (by omega), by rw [up_ne (by omega)], fun q hq => by rw [up_ne (by omega), e3 q (by omega)]⟩
        unfold f_X7_moveOut
        rw [k_hasHousehold R hI, bd_s, c, if_neg bIne, ck_t (inbN h12 (by omega)), nN (by omega), hd1, if_neg c1, e1, bd_s, lt_e]
      · obtain ⟨M1, e1, e2, e3⟩ := records_n G h'
        refine ⟨M1, up M1 256 (30 + 14 * h + 4) (-5), ?_, e2, by rw [up_row, e2.1]; rfl, fun q _ _ => up_ne (by omega), by rw [up_ne (by omega)]; exact ⟨rfl, rfl, rfl⟩, fun q hq => by rw [up_ne (by omega), e3 q (by omega) (by omega)]⟩
        unfold f_X8_moveOut
        rw [isHome_n (h'.inv G), bd_s, h'.1, c, if_neg bIne, of4 h12, bd_s, h'.1, if_neg c1, e1, bd_s, pu4 h12, bd_s]
  · refine ok_q0 (r := -1) G C O ?_ (fun M1 h => ?_)
    · unfold f_X7_moveOut
      rw [k_hasHousehold R hI, bd_s, if_pos (bIf c)]
    · unfold f_X8_moveOut
      rw [isHome_n (h.inv G), bd_s, h.1, if_pos (bIf c)]
/-! keeping, restoring, taking back -/
def kpg (g : Gh) : Gh := (g.1, g.2.1, g.2.2.1, true, g.1, g.2.2.2.2.2)
theorem op_keep {M : Mem} {g : Gh} (G : GO g) (C : CL M g) (O : MO M g) : Ok Sim M f_X7_keep f_X8_keep := by
  have hI := G.1.1
  have hk := G.2.1.1
  obtain ⟨c1, ⟨c2, π, c3, c4, c5⟩, ⟨c6, c7⟩, c8, c9⟩ := C
  refine ok_mk (g' := kpg g) (r := nI (hdN g.1)) O ⟨G.1, G.2.1, fun _ => G.1, G.2.2.2⟩ ?_ (fun M0 h' => ?_)
  · obtain ⟨M1, e1, e2, e3⟩ := k_copy (d := 41) (a := 1) (by unfold Apart; omega) hI c1
    have fr : ∀ q, q ≠ 0 → q < 41 ∨ 81 ≤ q → up M1 0 2 1 q = M q := fun q h0 hq => by rw [up_ne h0, e3 q (by omega)]
    have R1 : RS (up M1 0 2 1) 1 g.1 := c1.co hI (fun i _ _ _ => fr i (by omega) (by omega))
    refine ⟨up M1 0 2 1, ?_, ⟨R1, ⟨by rw [fr 81 (by omega) (by omega)]; exact c2, π, fun j hj => by rw [fr 82 (by omega) (by omega)]; exact c3 j hj, c4, fun j hj => ?_⟩, ⟨up_same, fun _ => e2.co hI (fun i _ _ _ => up_ne (by omega))⟩, by rw [fr 243 (by omega) (by omega)]; exact c8, fun i hi => by rw [fr 244 (by omega) (by omega)]; exact c9 i hi⟩, fun q hq => fr q (by omega) (by omega)⟩
    · unfold f_X7_keep
      rw [e1, bd_s, lt_e, k_countHeld R1 hI, bd_s]
    · have hj2 : j < gK g := hj
      have := (c3 j (by omega)).2
      exact (c5 j hj).co (G.2.1.2 j hj).1 (fun i _ _ _ => fr i (by omega) (by omega))
  · obtain ⟨o1, ⟨o2, o3⟩, ⟨o4, o5⟩, o6, o7⟩ := h'
    obtain ⟨M1, e1, e2, e3, e4⟩ := lays_n (a := 256) (d := 258) (o1 := 0) (o2 := 0) (by omega) (by rw [ln256]; omega) (by rw [ln258]; omega) (by rw [ln256]; omega) (by rw [ln258]; omega) M0
    have m256 : up M1 255 4 1 256 = g.1 := by rw [up_ne (by omega), e4 256 (by omega), o1]
    refine ⟨up M1 255 4 1, ?_, ⟨m256, ⟨by rw [up_other (by omega), e4 255 (by omega)]; exact o2, fun j hj i hi => by rw [up_ne (by omega), e4 257 (by omega)]; exact o3 j hj i hi⟩, ⟨up_same, fun _ i hi => ?_⟩, by rw [up_other (by omega), e4 255 (by omega)]; exact o6, fun i hi => by rw [up_ne (by omega), e4 259 (by omega)]; exact o7 i hi⟩, fun q hq => by rw [up_ne (by omega), e4 q (by omega)]⟩
    · unfold f_X8_keep
      rw [show (0 : Int32) = nI 0 from rfl, e1, bd_s, lt_e, held_n (by rw [m256]; exact hI), bd_s, m256]
    · rw [up_ne (by omega)]
      have := e2 i hi
      rw [Nat.zero_add, o1] at this
      exact this
theorem op_restore {M : Mem} {g : Gh} (G : GO g) (C : CL M g) (O : MO M g) : Ok Sim M f_X7_restore f_X8_restore := by
  by_cases c : gB g = true
  · obtain ⟨hI', hZ'⟩ := G.2.2.1 c
    refine ok_st (s' := gS g) (r := nI (hdN (gS g))) G O hI' hZ' ?_ (fun M0 h' => ?_)
    · obtain ⟨M1, e1, e2, e3⟩ := k_record G C
      obtain ⟨M2, f1, f2, f3⟩ := k_copy (d := 1) (a := 41) (by unfold Apart; omega) hI' (e2.2.2.1.2 c)
      refine ⟨M1, M2, ?_, e2, f2, fun q h1 _ _ => f3 q (by omega), by rw [f3 243 (by omega)], fun q hq => by rw [f3 q (by omega), e3 q (by omega)]⟩
      unfold f_X7_restore
      rw [C.2.2.1.1, c, if_neg bIne, e1, bd_s, f1, bd_s, k_countHeld f2 hI', bd_s]
    · obtain ⟨M1, e1, e2, e3⟩ := records_n G h'
      obtain ⟨M2, f1, f2, f3, f4⟩ := lays_n (a := 258) (d := 256) (o1 := 0) (o2 := 0) (by omega) (by rw [ln258]; omega) (by rw [ln256]; omega) (by rw [ln258]; omega) (by rw [ln256]; omega) M1
      have m256 : M2 256 = gS g := by
        refine row_eq (fun k hk => ?_) (fun k hk => ?_) hZ'
        · have := f2 k hk
          rw [Nat.zero_add] at this
          rw [this]
          exact e2.2.2.1.2 c k hk
        · rw [f3 k (by omega), e2.1]
          exact G.1.2 k hk
      refine ⟨M1, M2, ?_, e2, m256, fun q _ _ => f4 q (by omega), by rw [f4 255 (by omega)]; exact ⟨rfl, rfl, rfl⟩, fun q hq => by rw [f4 q (by omega), e3 q (by omega) (by omega)]⟩
      unfold f_X8_restore
      rw [h'.2.2.1.1, c, if_neg bIne, e1, bd_s, show (0 : Int32) = nI 0 from rfl, f1, bd_s, held_n (by rw [m256]; exact hI'), bd_s, m256]
  · refine ok_q0 (r := -5) G C O ?_ (fun M1 h => ?_)
    · unfold f_X7_restore
      rw [C.2.2.1.1, if_pos (bIf c)]
    · unfold f_X8_restore
      rw [h.2.2.1.1, if_pos (bIf c)]
def udg (g : Gh) : Gh := (gT g (gK g - 1), gK g - 1, g.2.2)
theorem op_undo {M : Mem} {g : Gh} (G : GO g) (C : CL M g) (O : MO M g) : Ok Sim M f_X7_undo f_X8_undo := by
  have hk := G.2.1.1
  by_cases c : gK g = 0
  · refine ok_q0 (r := -5) G C O ?_ (fun M1 h => ?_)
    · unfold f_X7_undo
      rw [C.2.1.1, c, if_pos (show nI 0 = (0 : Int32) from rfl)]
    · unfold f_X8_undo
      rw [h.2.1.1, c, if_pos (show nI 0 = (0 : Int32) from rfl)]
  · obtain ⟨hI', hZ'⟩ := G.2.1.2 (gK g - 1) (by omega)
    have ne0 : ¬ nI (gK g) = (0 : Int32) := fun q => by
      have := nI_inj (a := gK g) (b := 0) (by omega) (by omega) q
      omega
    refine ok_mk (g' := udg g) (r := nI (gK g - 1)) O ⟨⟨hI', hZ'⟩, ⟨by show gK g - 1 ≤ 4; omega, fun j hj => G.2.1.2 j (by have hj2 : j < gK g - 1 := hj; omega)⟩, G.2.2⟩ ?_ (fun M0 h' => ?_)
    · obtain ⟨c1, ⟨c2, π, c3, c4, c5⟩, ⟨c6, c7⟩, c8, c9⟩ := C
      have hp := c3 (gK g - 1) (by omega)
      have R0 : RS (up M 81 1 (nI (gK g - 1))) (83 + 40 * π (gK g - 1)) (gT g (gK g - 1)) := (c5 (gK g - 1) (by omega)).co hI' (fun i _ _ _ => up_ne (by omega))
      obtain ⟨M2, f1, f2, f3⟩ := k_copy (d := 1) (a := 83 + 40 * π (gK g - 1)) (by unfold Apart; omega) hI' R0
      have fr : ∀ q, q = 0 ∨ 41 ≤ q → q ≠ 81 → M2 q = M q := fun q h1 h2 => by rw [f3 q (by omega), up_ne h2]
      have m81 : M2 81 1 = nI (gK g - 1) := by rw [f3 81 (by omega), up_same]
      refine ⟨M2, ?_, ⟨f2, ⟨m81, π, fun j hj => by rw [fr 82 (by omega) (by omega)]; exact c3 j hj, c4, fun j hj => ?_⟩, ⟨by rw [fr 0 (by omega) (by omega)]; exact c6, fun hb => (c7 hb).co (G.2.2.1 hb).1 (fun i _ _ _ => fr i (by omega) (by omega))⟩, by rw [fr 243 (by omega) (by omega)]; exact c8, fun i hi => by rw [fr 244 (by omega) (by omega)]; exact c9 i hi⟩, fun q hq => fr q (by omega) (by omega)⟩
      · unfold f_X7_undo f_X1_takeBack
        rw [c2, if_neg ne0, if_neg (show ¬ nI (gK g) ≤ (0 : Int32) from fun q => by
          have := (nIle (a := gK g) (b := 0) (by omega) (by omega)).mp q
          omega), show (1 : Int32) = nI 1 from rfl, pk_sub (by omega), lt_e, up_same, ck_t (inbN (by omega) (by omega)), nN (show gK g - 1 < 2147483648 by omega), up_ne (show 82 ≠ 81 by omega), hp.1, ck_t (inbN hp.2 (by omega)), nN (by omega), f1, bd_s, bd_s, m81]
      · have hj2 : j < gK g - 1 := hj
        have := (c3 j (by omega)).2
        exact (c5 j (by omega)).co (G.2.1.2 j (by omega)).1 (fun i _ _ _ => fr i (by omega) (by omega))
    · obtain ⟨o1, ⟨o2, o3⟩, ⟨o4, o5⟩, o6, o7⟩ := h'
      obtain ⟨M2, f1, f2, f3, f4⟩ := lays_n (a := 257) (d := 256) (o1 := 198 * (gK g - 1)) (o2 := 0) (by omega) (by rw [ln257]; omega) (by rw [ln256]; omega) (by rw [ln257]; omega) (by rw [ln256]; omega) (up M0 255 2 (nI (gK g - 1)))
      have m256 : M2 256 = gT g (gK g - 1) := by
        refine row_eq (fun k hk => ?_) (fun k hk => ?_) hZ'
        · have := f2 k hk
          rw [Nat.zero_add, up_ne (by omega)] at this
          rw [this]
          exact o3 (gK g - 1) (by omega) k hk
        · rw [f3 k (by omega), up_ne (by omega), o1]
          exact G.1.2 k hk
      have m255 : M2 255 2 = nI (gK g - 1) := by rw [f4 255 (by omega), up_same]
      refine ⟨M2, ?_, ⟨m256, ⟨m255, fun j hj i hi => by rw [f4 257 (by omega), up_ne (by omega)]; exact o3 j (by have hj2 : j < gK g - 1 := hj; omega) i hi⟩, ⟨by rw [f4 255 (by omega), up_other (by omega)]; exact o4, fun hb i hi => by rw [f4 258 (by omega), up_ne (by omega)]; exact o5 hb i hi⟩, by rw [f4 255 (by omega), up_other (by omega)]; exact o6, fun i hi => by rw [f4 259 (by omega), up_ne (by omega)]; exact o7 i hi⟩, fun q hq => by rw [f4 q (by omega), up_ne (by omega)]⟩
      unfold f_X8_undo
      rw [o2, if_neg ne0, show (1 : Int32) = nI 1 from rfl, pk_sub (by omega), lt_e, up_same, show (198 : Int32) = nI 198 from rfl, pk_mul, show (0 : Int32) = nI 0 from rfl, f1, bd_s, m255]
