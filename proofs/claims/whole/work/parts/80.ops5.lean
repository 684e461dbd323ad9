/-! a number changes, a number is drawn -/
theorem Inv.num {s : Row} (hI : Inv s) {h : Nat} (hh : h < nh s) {f k : Nat} (hf : (f = 0 ∧ 1 ≤ k ∧ k ≤ 9) ∨ (f = 1 ∧ k ≤ 9999) ∨ (f = 2 ∧ k ≤ 999 ∧ ∀ o, o < nh s → o ≠ h → fP s o 2 ≠ k)) : Inv (ur s (30 + 14 * h + f) (nI k)) := by
  obtain ⟨⟨m1, m2, m3⟩, ⟨i1, i2⟩, ⟨n1, n2⟩, ⟨p1, p2⟩, q1, q2⟩ := hI.nu hh
  have hk : k < 10000 := by omega
  have e0 : ∀ j, j < 14 → j ≠ f → fP (ur s (30 + 14 * h + f) (nI k)) h j = fP s h j := fun j _ hj => by
    unfold fP
    rw [ur_ne (by omega)]
  have e1 : fP (ur s (30 + 14 * h + f) (nI k)) h f = k := by
    unfold fP
    rw [ur_eq, nN (by omega)]
  refine hI.hh (Agr.up (by omega)) hh ?_ ((hI.ls hh).co2 (nf_ur (by omega)) (fun j h7 hj => ur_ne (by omega))) ((hI.hdk hh).co (nf_ur (by omega)) (ur_ne (by omega))) ?_ ?_ ?_
  · unfold NuOk
    rcases hf with ⟨rfl, f1, f2⟩ | ⟨rfl, f1⟩ | ⟨rfl, f1, f2⟩
    · rw [e1, e0 1 (by omega) (by omega), e0 2 (by omega) (by omega), e0 3 (by omega) (by omega), e0 5 (by omega) (by omega), ur_eq, ur_ne (by omega), ur_ne (by omega), ur_ne (by omega), ur_ne (by omega)]
      exact ⟨⟨rfl, f1, f2⟩, ⟨i1, i2⟩, ⟨n1, n2⟩, ⟨p1, p2⟩, q1, q2⟩
    · rw [e1, e0 0 (by omega) (by omega), e0 2 (by omega) (by omega), e0 3 (by omega) (by omega), e0 5 (by omega) (by omega), ur_eq, ur_ne (by omega), ur_ne (by omega), ur_ne (by omega), ur_ne (by omega)]
      exact ⟨⟨m1, m2, m3⟩, ⟨rfl, f1⟩, ⟨n1, n2⟩, ⟨p1, p2⟩, q1, q2⟩
    · rw [e1, e0 0 (by omega) (by omega), e0 1 (by omega) (by omega), e0 3 (by omega) (by omega), e0 5 (by omega) (by omega), ur_eq, ur_ne (by omega), ur_ne (by omega), ur_ne (by omega), ur_ne (by omega)]
      exact ⟨⟨m1, m2, m3⟩, ⟨i1, i2⟩, ⟨rfl, f1⟩, ⟨p1, p2⟩, q1, q2⟩
  · unfold hd
    rw [ur_ne (by omega)]
    exact fun h1 o ho he hq => he (hI.uh o h ho hh hq (by rw [show hd s o = hd s h from hq]; exact h1))
  · rcases hf with ⟨rfl, f1, f2⟩ | ⟨rfl, f1⟩ | ⟨rfl, f1, f2⟩
    · rw [e0 2 (by omega) (by omega)]
      exact fun h1 o ho he hq => he (hI.un o h ho hh hq (by rw [hq]; exact h1))
    · rw [e0 2 (by omega) (by omega)]
      exact fun h1 o ho he hq => he (hI.un o h ho hh hq (by rw [hq]; exact h1))
    · rw [e1]
      exact fun _ o ho he => f2 o ho he
  · rw [ur_ne (by omega), hI.2.2.2]
    congr 1
    refine sumN_congr (fun i _ => ?_)
    unfold fP
    rw [ur_ne (by omega)]
theorem op_change {M : Mem} {g : Gh} (G : GO g) (C : CL M g) (O : MO M g) (a b v : Int32) (hb : b = 0 ∨ b = 1) : Ok Sim M (f_X7_change a b v) (f_X8_change a b v) := by
  have hI := G.1.1
  have R := C.1
  have b1 := hI.h1l
  have n10 : ¬ (1 : Int32) = 0 := by decide
  by_cases c : inb a (nh g.1) = true
  · obtain ⟨h, hh, rfl⟩ := inb_ex c (by omega)
    have h12 : h < 12 := by omega
    obtain ⟨-, a2, a3, -⟩ := R.hr hh
    have w2 : M (17 + 2 * h) 2 = g.1 (30 + 14 * h + 0) := a2
    have w3 : M (17 + 2 * h) 3 = g.1 (30 + 14 * h + 1) := a3
    rcases hb with rfl | rfl
    · by_cases c1 : (1 : Int32) ≤ v ∧ v ≤ 9
      · by_cases c2 : g.1 (30 + 14 * h + 0) = v
        · refine ok_q0 (r := -5) G C O ?_ (fun M1 h' => ?_)
          · unfold f_X7_change
            rw [k_hasHousehold R hI, bd_s, c, if_neg bIne, if_pos rfl, within_n, bd_s, decide_eq_true c1, if_neg bIne, ck_t (inbN h12 (by omega)), if_pos rfl, nN (by omega), w2, if_pos c2]
          · unfold f_X8_change
            rw [isHome_n (h'.inv G), bd_s, h'.1, c, if_neg bIne, isNumber_0, bd_s, decide_eq_true c1, if_neg bIne, if_pos rfl, of0 h12, bd_s, h'.1, if_pos c2]
        · obtain ⟨k, rfl, k1, k2⟩ := rng (n := 9) (by omega) c1
          refine ok_st (s' := ur g.1 (30 + 14 * h + 0) (nI k)) (r := g.1 (30 + 14 * h + 0)) G O (hI.num hh (Or.inl ⟨rfl, k1, k2⟩)) (G.1.2.up (by omega)) ?_ (fun M0 h' => ?_)
          · obtain ⟨M1, e1, e2, e3⟩ := k_record G C
            refine ⟨M1, up M1 (17 + 2 * h) 2 (nI k), ?_, e2, RS_num e2.1 hI (Or.inl ⟨rfl, rfl, rfl⟩), fun q _ _ _ => up_ne (by omega), by rw [up_ne (by omega)], fun q hq => by rw [up_ne (by omega), e3 q (by omega)]⟩
            unfold f_X7_change
            rw [k_hasHousehold R hI, bd_s, c, if_neg bIne, if_pos rfl, within_n, bd_s, decide_eq_true c1, if_neg bIne, ck_t (inbN h12 (by omega)), if_pos rfl, nN (show h < 2147483648 by omega), w2, if_neg c2, e1, bd_s, if_pos rfl, lt_e]
          · obtain ⟨M1, e1, e2, e3⟩ := records_n G h'
            refine ⟨M1, up M1 256 (30 + 14 * h + 0) (nI k), ?_, e2, by rw [up_row, e2.1]; rfl, fun q _ _ => up_ne (by omega), by rw [up_ne (by omega)]; exact ⟨rfl, rfl, rfl⟩, fun q hq => by rw [up_ne (by omega), e3 q (by omega) (by omega)]⟩
            unfold f_X8_change
            rw [isHome_n (h'.inv G), bd_s, h'.1, c, if_neg bIne, isNumber_0, bd_s, decide_eq_true c1, if_neg bIne, if_pos rfl, of0 h12, bd_s, h'.1, if_neg c2, e1, bd_s, if_pos rfl, pu0 h12, bd_s]
      · refine ok_q0 (r := -2) G C O ?_ (fun M1 h' => ?_)
        · unfold f_X7_change
          rw [k_hasHousehold R hI, bd_s, c, if_neg bIne, if_pos rfl, within_n, bd_s, decide_eq_false c1, if_pos bI_f]
        · unfold f_X8_change
          rw [isHome_n (h'.inv G), bd_s, h'.1, c, if_neg bIne, isNumber_0, bd_s, decide_eq_false c1, if_pos bI_f]
    · by_cases c1 : (1 : Int32) ≤ v ∧ v ≤ 9999
      · by_cases c2 : g.1 (30 + 14 * h + 1) = v
        · refine ok_q0 (r := -5) G C O ?_ (fun M1 h' => ?_)
          · unfold f_X7_change
            rw [k_hasHousehold R hI, bd_s, c, if_neg bIne, if_neg n10, within_n, bd_s, decide_eq_true c1, if_neg bIne, ck_t (inbN h12 (by omega)), if_neg n10, nN (by omega), w3, if_pos c2]
          · unfold f_X8_change
            rw [isHome_n (h'.inv G), bd_s, h'.1, c, if_neg bIne, isNumber_1, bd_s, decide_eq_true c1, if_neg bIne, if_neg n10, of1 h12, bd_s, h'.1, if_pos c2]
        · obtain ⟨k, rfl, k1, k2⟩ := rng (n := 9999) (by omega) c1
          refine ok_st (s' := ur g.1 (30 + 14 * h + 1) (nI k)) (r := g.1 (30 + 14 * h + 1)) G O (hI.num hh (Or.inr (Or.inl ⟨rfl, k2⟩))) (G.1.2.up (by omega)) ?_ (fun M0 h' => ?_)
          · obtain ⟨M1, e1, e2, e3⟩ := k_record G C
            refine ⟨M1, up M1 (17 + 2 * h) 3 (nI k), ?_, e2, RS_num e2.1 hI (Or.inr (Or.inl ⟨rfl, rfl, rfl⟩)), fun q _ _ _ => up_ne (by omega), by rw [up_ne (by omega)], fun q hq => by rw [up_ne (by omega), e3 q (by omega)]⟩
            unfold f_X7_change
            rw [k_hasHousehold R hI, bd_s, c, if_neg bIne, if_neg n10, within_n, bd_s, decide_eq_true c1, if_neg bIne, ck_t (inbN h12 (by omega)), if_neg n10, nN (show h < 2147483648 by omega), w3, if_neg c2, e1, bd_s, if_neg n10, lt_e]
          · obtain ⟨M1, e1, e2, e3⟩ := records_n G h'
            refine ⟨M1, up M1 256 (30 + 14 * h + 1) (nI k), ?_, e2, by rw [up_row, e2.1]; rfl, fun q _ _ => up_ne (by omega), by rw [up_ne (by omega)]; exact ⟨rfl, rfl, rfl⟩, fun q hq => by rw [up_ne (by omega), e3 q (by omega) (by omega)]⟩
            unfold f_X8_change
            rw [isHome_n (h'.inv G), bd_s, h'.1, c, if_neg bIne, isNumber_1, bd_s, decide_eq_true c1, if_neg bIne, if_neg n10, of1 h12, bd_s, h'.1, if_neg c2, e1, bd_s, if_neg n10, pu1 h12, bd_s]
      · refine ok_q0 (r := -2) G C O ?_ (fun M1 h' => ?_)
        · unfold f_X7_change
          rw [k_hasHousehold R hI, bd_s, c, if_neg bIne, if_neg n10, within_n, bd_s, decide_eq_false c1, if_pos bI_f]
        · unfold f_X8_change
          rw [isHome_n (h'.inv G), bd_s, h'.1, c, if_neg bIne, isNumber_1, bd_s, decide_eq_false c1, if_pos bI_f]
  · refine ok_q0 (r := -1) G C O ?_ (fun M1 h => ?_)
    · unfold f_X7_change
      rw [k_hasHousehold R hI, bd_s, if_pos (bIf c)]
    · unfold f_X8_change
      rw [isHome_n (h.inv G), bd_s, h.1, if_pos (bIf c)]
theorem draw_l {M : Mem} (hI : Inv (M 256)) {h : Nat} (hh : h < nh (M 256)) (v : Int32) (K : Mem → Option (Int32 × Mem)) : ∀ (d i n : Nat), i + d = nh (M 256) → d < n → l_X8_draw_26 (nI h) v K n (nI i) M = if anyB (fun j => decide (j ≠ h) && decide (M 256 (30 + 14 * j + 2) = v)) i d = true then some (-4, M) else K M := by
  have b1 := hI.h1l
  intro d
  induction d with
  | zero =>
    intro i n hi hn
    obtain ⟨n, rfl⟩ : ∃ z, n = z + 1 := ⟨n - 1, by omega⟩
    rw [l_X8_draw_26_s, hI.h1, if_pos ((nIle (by omega) (by omega)).mpr (by omega))]
    exact (if_neg Bool.false_ne_true).symm
  | succ d ih =>
    intro i n hi hn
    obtain ⟨n, rfl⟩ : ∃ z, n = z + 1 := ⟨n - 1, by omega⟩
    rw [l_X8_draw_26_s, hI.h1, if_neg (fun q => absurd ((nIle (by omega) (by omega)).mp q) (by omega)), show (nI i : Int32) + 1 = nI (i + 1) from nI_1 i]
    unfold anyB
    by_cases e : i = h
    · rw [if_pos (by rw [e]), decide_eq_false (fun q => q e), Bool.false_and, Bool.false_or]
      exact ih (i + 1) n (by omega) (by omega)
    · rw [if_neg (fun q => e (nI_inj (by omega) (by omega) q)), of2 (by omega), bd_s, decide_eq_true e, Bool.true_and]
      by_cases c : M 256 (30 + 14 * i + 2) = v
      · rw [if_pos c, decide_eq_true c, Bool.true_or, if_pos rfl]
      · rw [if_neg c, decide_eq_false c, Bool.false_or]
        exact ih (i + 1) n (by omega) (by omega)
theorem noI_v {s : Row} (hI : Inv s) {j k : Nat} (hj : j < nh s) (h1 : 1 ≤ k) (h2 : k ≤ 999) : (noI s j = nI k ↔ fP s j 2 = k) ∧ (s (30 + 14 * j + 2) = nI k ↔ fP s j 2 = k) := by
  obtain ⟨-, -, ⟨n1, n2⟩, -⟩ := hI.nu hj
  have e2 : s (30 + 14 * j + 2) = nI k ↔ fP s j 2 = k := by
    rw [n1]
    exact nIeq (by omega) (by omega)
  refine ⟨?_, e2⟩
  unfold noI
  by_cases c : drB s j = true
  · rw [if_pos c]
    exact e2
  · rw [if_neg c]
    have h0 : fP s j 2 = 0 := by
      by_cases z : fP s j 2 = 0
      · exact z
      · exact absurd (drB_iff.mpr z) c
    constructor
    · intro q
      exact absurd q (nIm5 (by omega))
    · intro q
      omega
theorem op_draw {M : Mem} {g : Gh} (G : GO g) (C : CL M g) (O : MO M g) (a b : Int32) : Ok Sim M (f_X7_draw a b) (f_X8_draw a b) := by
  have hI := G.1.1
  have R := C.1
  have b1 := hI.h1l
  by_cases c : inb a (nh g.1) = true
  · obtain ⟨h, hh, rfl⟩ := inb_ex c (by omega)
    have h12 : h < 12 := by omega
    by_cases c1 : (1 : Int32) ≤ b ∧ b ≤ 999
    · obtain ⟨k, rfl, k1, k2⟩ := rng (n := 999) (by omega) c1
      have mst : ∀ M1, MO M1 g → f_X8_draw (nI h) (nI k) M1 = if anyB (fun j => decide (j ≠ h) && decide (g.1 (30 + 14 * j + 2) = nI k)) 0 (nh g.1) = true then some (-4, M1) else if g.1 (30 + 14 * h + 2) = nI k then some (-5, M1) else bd (f_X8_records M1) (fun r20 M21 => bd (f_X8_puts (nI h) (2) (nI k) M21) (fun r23 M24 => bd (f_X8_drawn M24) (fun r26 M27 => some (r26, M27)))) := fun M1 h' => by
        unfold f_X8_draw
        rw [isHome_n (h'.inv G), bd_s, h'.1, c, if_neg bIne, in_n, bd_s, decide_eq_true c1, if_neg bIne, show (0 : Int32) = nI 0 from rfl, draw_l (h'.inv G) (by rw [h'.1]; exact hh) (nI k) _ (nh (M1 256)) 0 LF (by omega) (by rw [h'.1]; unfold LF; omega), h'.1, of2 h12, bd_s, h'.1]
      have kst : f_X7_draw (nI h) (nI k) M = if oI (owO g.1 (nI k)) = nI h then some (-5, M) else if oI (owO g.1 (nI k)) = -5 then bd (f_X1_record 1 M) (fun r14 M15 => ck (inb (nI h) 12) (lt_ (up M15 (17 + 2 * (nI h).toNatClampNeg) 4 (nI k)) (fun M20 => bd (f_X6_countNumbered 1 M20) (fun r21 M22 => some (r21, M22))))) else some (-4, M) := by
        unfold f_X7_draw
        rw [k_hasHousehold R hI, bd_s, c, if_neg bIne, within_n, bd_s, decide_eq_true c1, if_neg bIne, k_ownerOf R hI, bd_s]
      cases ho : owO g.1 (nI k) with
      | none =>
        have hno : ∀ j, j < nh g.1 → fP g.1 j 2 ≠ k := fun j hj q => by
          have := fstO_none.mp ho j (Nat.zero_le _) (by omega)
          exact (of_decide_eq_false this) ((noI_v hI hj k1 k2).1.mpr q)
        have hany : anyB (fun j => decide (j ≠ h) && decide (g.1 (30 + 14 * j + 2) = nI k)) 0 (nh g.1) = false := by
          refine Bool.eq_false_iff.mpr (fun q => ?_)
          obtain ⟨j, -, j2, j3⟩ := anyB_iff.mp q
          rw [Bool.and_eq_true] at j3
          exact hno j (by omega) ((noI_v hI (show j < nh g.1 by omega) k1 k2).2.mp (of_decide_eq_true j3.2))
        have hI' := hI.num hh (f := 2) (k := k) (Or.inr (Or.inr ⟨rfl, k2, fun o ho _ => hno o ho⟩))
        refine ok_st (s' := ur g.1 (30 + 14 * h + 2) (nI k)) (r := nI (drN (ur g.1 (30 + 14 * h + 2) (nI k)))) G O hI' (G.1.2.up (by omega)) ?_ (fun M0 h' => ?_)
        · obtain ⟨M1, e1, e2, e3⟩ := k_record G C
          have R1 : RS (up M1 (17 + 2 * h) 4 (nI k)) 1 (ur g.1 (30 + 14 * h + 2) (nI k)) := RS_num e2.1 hI (Or.inr (Or.inr (Or.inr (Or.inr ⟨rfl, rfl, rfl, by rw [nN (by omega)]; omega⟩))))
          refine ⟨M1, up M1 (17 + 2 * h) 4 (nI k), ?_, e2, R1, fun q _ _ _ => up_ne (by omega), by rw [up_ne (by omega)], fun q hq => by rw [up_ne (by omega), e3 q (by omega)]⟩
          rw [kst, ho, if_neg (show ¬ oI none = nI h from nIm5 (by omega)), if_pos (show oI none = -5 from rfl), e1, bd_s, ck_t (inbN h12 (by omega)), nN (by omega), lt_e, k_countNumbered R1 hI', bd_s]
        · obtain ⟨M1, e1, e2, e3⟩ := records_n G h'
          have m256 : up M1 256 (30 + 14 * h + 2) (nI k) 256 = ur g.1 (30 + 14 * h + 2) (nI k) := by rw [up_row, e2.1]; rfl
          refine ⟨M1, up M1 256 (30 + 14 * h + 2) (nI k), ?_, e2, m256, fun q _ _ => up_ne (by omega), by rw [up_ne (by omega)]; exact ⟨rfl, rfl, rfl⟩, fun q hq => by rw [up_ne (by omega), e3 q (by omega) (by omega)]⟩
          rw [mst M0 h', hany, if_neg Bool.false_ne_true, if_neg (fun q => hno h hh ((noI_v hI hh k1 k2).2.mp q)), e1, bd_s, pu2 h12, bd_s, drawn_n (by rw [m256]; exact hI'), bd_s, m256]
      | some o =>
        obtain ⟨-, o2, o3, -⟩ := fstO_some ho
        have o4 : fP g.1 o 2 = k := (noI_v hI (show o < nh g.1 by omega) k1 k2).1.mp (of_decide_eq_true o3)
        by_cases e : o = h
        · subst e
          have hany : anyB (fun j => decide (j ≠ o) && decide (g.1 (30 + 14 * j + 2) = nI k)) 0 (nh g.1) = false := by
            refine Bool.eq_false_iff.mpr (fun q => ?_)
            obtain ⟨j, -, j2, j3⟩ := anyB_iff.mp q
            rw [Bool.and_eq_true] at j3
            have j4 := (noI_v hI (show j < nh g.1 by omega) k1 k2).2.mp (of_decide_eq_true j3.2)
            exact (of_decide_eq_true j3.1) (hI.un j o (by omega) hh (by omega) (by omega))
          refine ok_q0 (r := -5) G C O ?_ (fun M1 h' => ?_)
          · rw [kst, ho, if_pos (show oI (some o) = nI o from rfl)]
          · rw [mst M1 h', hany, if_neg Bool.false_ne_true, if_pos ((noI_v hI hh k1 k2).2.mpr o4)]
        · have hany : anyB (fun j => decide (j ≠ h) && decide (g.1 (30 + 14 * j + 2) = nI k)) 0 (nh g.1) = true := anyB_iff.mpr ⟨o, Nat.zero_le _, by omega, by
            rw [decide_eq_true e, decide_eq_true ((noI_v hI (show o < nh g.1 by omega) k1 k2).2.mpr o4)]
            rfl⟩
          refine ok_q0 (r := -4) G C O ?_ (fun M1 h' => ?_)
          · rw [kst, ho, if_neg (show ¬ oI (some o) = nI h from fun q => e (nI_inj (by omega) (by omega) q)), if_neg (show ¬ oI (some o) = -5 from nIne5 (by omega))]
          · rw [mst M1 h', hany, if_pos rfl]
    · refine ok_q0 (r := -2) G C O ?_ (fun M1 h' => ?_)
      · unfold f_X7_draw
        rw [k_hasHousehold R hI, bd_s, c, if_neg bIne, within_n, bd_s, decide_eq_false c1, if_pos bI_f]
      · unfold f_X8_draw
        rw [isHome_n (h'.inv G), bd_s, h'.1, c, if_neg bIne, in_n, bd_s, decide_eq_false c1, if_pos bI_f]
  · refine ok_q0 (r := -1) G C O ?_ (fun M1 h => ?_)
    · unfold f_X7_draw
      rw [k_hasHousehold R hI, bd_s, if_pos (bIf c)]
    · unfold f_X8_draw
      rw [isHome_n (h.inv G), bd_s, h.1, if_pos (bIf c)]
