/-! a round, a swap -/
theorem RS_cnt {M : Mem} {s : Row} {v : Int32} (R : RS M 1 s) (hI : Inv s) : RS (up M 1 4 v) 1 (ur s 2 v) := by
  have hb : ∀ o k, k < 14 → ur s 2 v (30 + 14 * o + k) = s (30 + 14 * o + k) := fun o k hk => ur_ne (by omega)
  obtain ⟨⟨r0, r1, r2, r3, r4⟩, rf, rh⟩ := R
  refine ⟨⟨?_, ?_, ?_, ?_, ?_⟩, fun f hf => ?_, fun o ho => ?_⟩
  · rw [up_other (by omega), ur_ne (by omega)]
    exact r0
  · rw [up_other (by omega), ur_ne (by omega)]
    exact r1
  · rw [up_same, ur_eq]
  · rw [up_other (by omega), ur_ne (by omega)]
    exact r3
  · rw [up_other (by omega), ur_ne (by omega)]
    exact r4
  · rw [nf_ur (by omega)] at hf
    rw [up_ne (by omega), ur_ne (by omega), ur_ne (by omega)]
    exact rf f hf
  · rw [nh_ur (by omega)] at ho
    exact (rh o ho).co (hI.ls ho).1.2 (hb o) (up_ne (by omega)) (up_ne (by omega))
theorem rdL_2 : ∀ {d i : Nat} {s : Row} {c : Nat}, (rdL d i s c).1 2 = s 2 := by
  intro d
  induction d with
  | zero => intro i s c; rfl
  | succ d ih =>
    intro i s c
    cases hq : atO s (nI i) with
    | none =>
      show (match atO s (nI i) with | none => (s, c) | some h => _ : Row × Nat).1 2 = s 2
      rw [hq]
    | some h =>
      rw [rdL_s hq]
      split
      · split
        · rw [ih, ur_ne (by omega)]
        · rw [ih, ur_ne (by omega)]
      · exact ih
theorem op_round {M : Mem} {g : Gh} (G : GO g) (C : CL M g) (O : MO M g) : Ok Sim M f_X7_round f_X8_round := by
  have hI := G.1.1
  have R := C.1
  have b1 := hI.h1l
  have b2 := drN_le (s := g.1)
  by_cases c : drN g.1 = 0
  · refine ok_q0 (r := -4) G C O ?_ (fun M1 h => ?_)
    · unfold f_X7_round
      rw [k_countNumbered R hI, bd_s, c, if_pos (show nI 0 = (0 : Int32) from rfl)]
    · unfold f_X8_round
      rw [drawn_n (h.inv G), bd_s, h.1, c, if_pos (show nI 0 = (0 : Int32) from rfl)]
  · have ne0 : ¬ nI (drN g.1) = (0 : Int32) := fun q => by
      have := nI_inj (a := drN g.1) (b := 0) (by omega) (by omega) q
      omega
    obtain ⟨i1, i2⟩ := rdL_inv (d := drN g.1) (i := 0) (s := g.1) (c := 0) hI G.1.2 (by omega)
    refine ok_st (s' := ur (rdL (drN g.1) 0 g.1 0).1 2 (g.1 2 + 1)) (r := nI (rdL (drN g.1) 0 g.1 0).2) G O (i1.ag (fun i h2 _ _ => ur_ne h2)) (i2.up (by omega)) ?_ (fun M0 h' => ?_)
    · obtain ⟨M1, e1, e2, e3⟩ := k_record G C
      have hI2 : Inv (ur g.1 2 (g.1 2 + 1)) := hI.ag (fun i h2 _ _ => ur_ne h2)
      have R1 : RS (up M1 1 4 (g.1 2 + 1)) 1 (ur g.1 2 (g.1 2 + 1)) := RS_cnt e2.1 hI
      obtain ⟨M2, f1, f2, f3⟩ := k_give R1 hI2
      have hd : drN (ur g.1 2 (g.1 2 + 1)) = drN g.1 := (ord_co (nh_ur (by omega)) (fun o => by unfold fP; rw [ur_ne (by omega)]) (fun o => by unfold fP; rw [ur_ne (by omega)])).2.2.2
      rw [hd, rdL_ur2 hI (by omega)] at f1 f2
      refine ⟨M1, M2, ?_, e2, f2, fun q h1 _ _ => by rw [f3 q (by omega) (by omega), up_ne (by omega)], by rw [f3 243 (by omega) (by omega), up_ne (by omega)], fun q hq => by rw [f3 q (by omega) (by omega), up_ne (by omega), e3 q (by omega)]⟩
      unfold f_X7_round
      have r2 : M1 1 4 = g.1 2 := e2.1.1.2.2.1
      rw [k_countNumbered R hI, bd_s, if_neg ne0, e1, bd_s, r2, lt_e, f1, bd_s]
    · obtain ⟨M1, e1, e2, e3⟩ := records_n G h'
      have m256 : M1 256 = g.1 := e2.1
      obtain ⟨M2, f1, f2, f3⟩ := round_l (drN g.1) (drN g.1) 0 LF 0 M1 (by rw [m256]; exact hI) (by rw [m256]) (by omega) (by unfold LF; omega)
      rw [m256] at f1 f2
      rw [rdL_2] at f2
      refine ⟨M1, M2, ?_, e2, f2, fun q h1 h2 => f3 q (by omega), by rw [f3 255 (by omega)]; exact ⟨rfl, rfl, rfl⟩, fun q hq => by rw [f3 q (by omega), e3 q (by omega) (by omega)]⟩
      unfold f_X8_round
      rw [drawn_n (h'.inv G), bd_s, h'.1, if_neg ne0, e1, bd_s]
      exact f1
theorem op_swap {M : Mem} {g : Gh} (G : GO g) (C : CL M g) (O : MO M g) : Ok Sim M f_X7_swap f_X8_swap := by
  have hI := G.1.1
  have R := C.1
  have b1 := hI.h1l
  obtain ⟨Ml, l1, l2, l3⟩ := k_lookAt (show 1 + 40 ≤ 248 by omega) R hI
  by_cases c : loO g.1 = none
  · refine ok_q (r := -5) G C O ⟨Ml, ?_, fun q _ h => l3 q (by omega) (by omega)⟩ (fun M1 h => ⟨M1, ?_, fun _ _ => rfl⟩)
    · unfold f_X7_swap
      rw [l1, bd_s, k_lowest hI l2, bd_s, c, if_pos (show oI none = -5 from rfl)]
    · unfold f_X8_swap
      rw [lowest_n (h.inv G), bd_s, h.1, c, if_pos (show oI none = -5 from rfl)]
  · have ne5 : ¬ oI (loO g.1) = -5 := by
      cases hq : loO g.1 with
      | none => exact absurd hq c
      | some a =>
        have := (loO_some hq).1
        exact nIne5 (by omega)
    obtain ⟨i1, i2⟩ := swA_inv (d := 73) (s := g.1) (c := 0) hI G.1.2
    have hp := pot_le hI
    refine ok_st (s' := (swA 73 g.1 0).1) (r := nI (swA 73 g.1 0).2) G O i1 i2 ?_ (fun M0 h' => ?_)
    · have Cl : CL Ml g := C.co G (fun q h1 _ _ => l3 q (by omega) (by omega)) (by rw [l3 243 (by omega) (by omega)])
      obtain ⟨M1, e1, e2, e3⟩ := k_record G Cl
      obtain ⟨M2, f1, f2, f3⟩ := k_swapAll_l (show 1 + 40 ≤ 248 by omega) 73 LF 0 0 M1 g.1 hI e2.1 (by omega) (by unfold LF; omega) (by omega)
      refine ⟨M1, M2, ?_, e2, f2, fun q h1 h2 _ => f3 q (by omega) (by omega) (by omega), by rw [f3 243 (by omega) (by omega) (by omega)], fun q hq => by rw [f3 q (by omega) (by omega) (by omega), e3 q (by omega), l3 q (by omega) (by omega)]⟩
      unfold f_X7_swap f_X5_swapAll
      rw [l1, bd_s, k_lowest hI l2, bd_s, if_neg ne5, e1, bd_s, show (0 : Int32) = nI 0 from rfl, f1, bd_s]
    · obtain ⟨M1, e1, e2, e3⟩ := records_n G h'
      have m256 : M1 256 = g.1 := e2.1
      obtain ⟨M2, f1, f2, f3⟩ := swap_l 73 LF 0 M1 (by rw [m256]; exact hI) (by rw [m256]; omega) (by unfold LF; omega)
      rw [m256] at f1 f2
      refine ⟨M1, M2, ?_, e2, f2, fun q h1 h2 => f3 q (by omega) (by omega) (by omega), by rw [f3 255 (by omega) (by omega) (by omega)]; exact ⟨rfl, rfl, rfl⟩, fun q hq => by rw [f3 q (by omega) (by omega) (by omega), e3 q (by omega) (by omega)]⟩
      unfold f_X8_swap
      rw [lowest_n (h'.inv G), bd_s, h'.1, if_neg ne5, e1, bd_s]
      exact f1
/-! one number of a household changes -/
theorem RS_num {M : Mem} {s : Row} {h k f : Nat} {v w : Int32} (R : RS M 1 s) (hI : Inv s) (hkf : (k = 2 ∧ f = 0 ∧ w = v) ∨ (k = 3 ∧ f = 1 ∧ w = v) ∨ (k = 5 ∧ f = 3 ∧ w = v) ∨ (k = 7 ∧ f = 5 ∧ w = v) ∨ (k = 4 ∧ f = 2 ∧ w = v ∧ v.toNatClampNeg ≠ 0)) : RS (up M (17 + 2 * h) k w) 1 (ur s (30 + 14 * h + f) v) := by
  obtain ⟨c1, c2, c3, c4, c5⟩ := R.1
  refine R.hh hI (h := h) (Agr.up (by omega)) (fun j _ _ h3 h4 => up_ne (by omega)) ?_ (fun hh => ?_)
  · rw [up_ne (by omega), ur_ne (by omega), ur_ne (by omega), ur_ne (by omega)]
    exact ⟨rfl, rfl, c3, c4, c5⟩
  · obtain ⟨a1, a2, a3, a4, a5, a6, a7, a8, a9⟩ := R.hr hh
    have ef : fP (ur s (30 + 14 * h + f) v) h 7 = fP s h 7 := by
      unfold fP
      rw [ur_ne (by omega)]
    have hg : (17 + 2 * h) = 1 + 16 + 2 * h := by omega
    unfold HR
    rw [ef, hg]
    have wl : ∀ j, j < fP s h 7 → up M (1 + 16 + 2 * h) k w (1 + 16 + 2 * h + 1) j = ur s (30 + 14 * h + f) v (30 + 14 * h + 8 + j) := fun j hj => by
      rw [up_other (by omega), ur_ne (by omega)]
      exact a9 j hj
    rcases hkf with ⟨rfl, rfl, rfl⟩ | ⟨rfl, rfl, rfl⟩ | ⟨rfl, rfl, rfl⟩ | ⟨rfl, rfl, rfl⟩ | ⟨rfl, rfl, rfl, hv⟩
    · have en : noI (ur s (30 + 14 * h + 0) w) h = noI s h := by
        unfold noI drB fP
        rw [ur_ne (by omega)]
      refine ⟨?_, ?_, ?_, ?_, ?_, ?_, ?_, ?_, wl⟩
      · rw [up_other (by omega), ur_ne (by omega)]; exact a1
      · rw [up_same, ur_eq]
      · rw [up_other (by omega), ur_ne (by omega)]; exact a3
      · rw [up_other (by omega), en]; exact a4
      · rw [up_other (by omega), ur_ne (by omega)]; exact a5
      · unfold hd; rw [up_other (by omega), ur_ne (by omega)]; exact a6
      · rw [up_other (by omega), ur_ne (by omega)]; exact a7
      · rw [up_other (by omega), ur_ne (by omega)]; exact a8
    · have en : noI (ur s (30 + 14 * h + 1) w) h = noI s h := by
        unfold noI drB fP
        rw [ur_ne (by omega)]
      refine ⟨?_, ?_, ?_, ?_, ?_, ?_, ?_, ?_, wl⟩
      · rw [up_other (by omega), ur_ne (by omega)]; exact a1
      · rw [up_other (by omega), ur_ne (by omega)]; exact a2
      · rw [up_same, ur_eq]
      · rw [up_other (by omega), en]; exact a4
      · rw [up_other (by omega), ur_ne (by omega)]; exact a5
      · unfold hd; rw [up_other (by omega), ur_ne (by omega)]; exact a6
      · rw [up_other (by omega), ur_ne (by omega)]; exact a7
      · rw [up_other (by omega), ur_ne (by omega)]; exact a8
    · have en : noI (ur s (30 + 14 * h + 3) w) h = noI s h := by
        unfold noI drB fP
        rw [ur_ne (by omega)]
      refine ⟨?_, ?_, ?_, ?_, ?_, ?_, ?_, ?_, wl⟩
      · rw [up_other (by omega), ur_ne (by omega)]; exact a1
      · rw [up_other (by omega), ur_ne (by omega)]; exact a2
      · rw [up_other (by omega), ur_ne (by omega)]; exact a3
      · rw [up_other (by omega), en]; exact a4
      · rw [up_same, ur_eq]
      · unfold hd; rw [up_other (by omega), ur_ne (by omega)]; exact a6
      · rw [up_other (by omega), ur_ne (by omega)]; exact a7
      · rw [up_other (by omega), ur_ne (by omega)]; exact a8
    · have en : noI (ur s (30 + 14 * h + 5) w) h = noI s h := by
        unfold noI drB fP
        rw [ur_ne (by omega)]
      refine ⟨?_, ?_, ?_, ?_, ?_, ?_, ?_, ?_, wl⟩
      · rw [up_other (by omega), ur_ne (by omega)]; exact a1
      · rw [up_other (by omega), ur_ne (by omega)]; exact a2
      · rw [up_other (by omega), ur_ne (by omega)]; exact a3
      · rw [up_other (by omega), en]; exact a4
      · rw [up_other (by omega), ur_ne (by omega)]; exact a5
      · unfold hd; rw [up_other (by omega), ur_ne (by omega)]; exact a6
      · rw [up_same, ur_eq]
      · rw [up_other (by omega), ur_ne (by omega)]; exact a8
    · have en : noI (ur s (30 + 14 * h + 2) w) h = w := by
        unfold noI drB fP
        rw [ur_eq, decide_eq_true hv, if_pos rfl]
      refine ⟨?_, ?_, ?_, ?_, ?_, ?_, ?_, ?_, wl⟩
      · rw [up_other (by omega), ur_ne (by omega)]; exact a1
      · rw [up_other (by omega), ur_ne (by omega)]; exact a2
      · rw [up_other (by omega), ur_ne (by omega)]; exact a3
      · rw [up_same, en]
      · rw [up_other (by omega), ur_ne (by omega)]; exact a5
      · unfold hd; rw [up_other (by omega), ur_ne (by omega)]; exact a6
      · rw [up_other (by omega), ur_ne (by omega)]; exact a7
      · rw [up_other (by omega), ur_ne (by omega)]; exact a8
theorem within_n {M : Mem} (a lo hi : Int32) : f_X7_isWithin a lo hi M = some (bI (decide (lo ≤ a ∧ a ≤ hi)), M) := by
  unfold f_X7_isWithin
  by_cases h1 : a < lo
  · rw [if_pos h1, decide_eq_false (fun q => absurd h1 (Int32.not_lt.mpr q.1))]
    rfl
  · rw [if_neg h1]
    by_cases h2 : hi < a
    · rw [if_pos h2, decide_eq_false (fun q => absurd h2 (Int32.not_lt.mpr q.2))]
      rfl
    · rw [if_neg h2, decide_eq_true ⟨Int32.not_lt.mp h1, Int32.not_lt.mp h2⟩]
      rfl
theorem rng {a : Int32} {n : Nat} (hn : n < 10000) (h : (1 : Int32) ≤ a ∧ a ≤ nI n) : ∃ k, a = nI k ∧ 1 ≤ k ∧ k ≤ n := by
  obtain ⟨k, hk, rfl⟩ := inb_ex (a := a) (n := n + 1) (by
    obtain ⟨h1, h2⟩ := h
    rw [Int32.le_iff_toInt_le] at h1 h2
    rw [nI_toInt (by omega)] at h2
    have e1 : (1 : Int32).toInt = 1 := by decide
    exact decide_eq_true (by omega)) (by omega)
  refine ⟨k, rfl, ?_, by omega⟩
  exact (nIle (a := 1) (b := k) (by omega) (by omega)).mp h.1
