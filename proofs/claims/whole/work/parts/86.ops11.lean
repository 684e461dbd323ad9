/-! an appeal -/
def apY (s : Row) (h r : Nat) : Row := ur (ur (ur s (30 + 14 * h + 5) (nI (fP s h 5 + 1))) (30 + 14 * h + 3) (nI (fP s h 3 + (1 + r)))) 3 (s 3 + 1)
def apN (s : Row) (h : Nat) : Row := ur (ur (ur s (30 + 14 * h + 5) (nI (fP s h 5 + 1))) 3 (s 3 + 1)) 4 (s 4 + 1)
theorem sumN_inc {f f' : Nat → Nat} {h : Nat} (h1 : f' h = f h + 1) (h2 : ∀ i, i ≠ h → f' i = f i) : ∀ {n : Nat}, h < n → sumN f' n = sumN f n + 1 := by
  intro n
  induction n with
  | zero => intro q; omega
  | succ n ih =>
    intro q
    unfold sumN
    by_cases e : h = n
    · subst e
      rw [h1, sumN_congr (f := f') (g := f) (fun i hi => h2 i (by omega))]
      omega
    · rw [ih (by omega), h2 n (by omega)]
      omega
theorem ap_inv {s s' : Row} (hI : Inv s) {h : Nat} (hh : h < nh s) (h2 : fP s h 5 < 2) (g : Agr s s' h) (hs : ∀ k, k < 14 → k ≠ 3 → k ≠ 5 → s' (30 + 14 * h + k) = s (30 + 14 * h + k)) (h5 : s' (30 + 14 * h + 5) = nI (fP s h 5 + 1)) {p : Nat} (hp : s' (30 + 14 * h + 3) = nI p) (hp2 : p ≤ 3 * (fP s h 5 + 1)) (h3 : s' 3 = s 3 + 1) : Inv s' := by
  obtain ⟨m, i, n, -, -⟩ := hI.nu hh
  have e0 : ∀ j, j < 14 → j ≠ 3 → j ≠ 5 → fP s' h j = fP s h j := fun j hj a b => by
    unfold fP
    rw [hs j hj a b]
  have e3 : fP s' h 3 = p := by
    unfold fP
    rw [hp, nN (by omega)]
  have e5 : fP s' h 5 = fP s h 5 + 1 := by
    show (s' (30 + 14 * h + 5)).toNatClampNeg = _
    rw [h5, nN (by omega)]
  refine hI.hh g hh ?_ ((hI.ls hh).co2 g.xnf (fun j h7 hj => hs j hj (by omega) (by omega))) ((hI.hdk hh).co g.xnf (hs 4 (by omega) (by omega) (by omega))) ?_ ?_ ?_
  · unfold NuOk
    rw [e0 0 (by omega) (by omega) (by omega), e0 1 (by omega) (by omega) (by omega), e0 2 (by omega) (by omega) (by omega), e3, e5, hs 0 (by omega) (by omega) (by omega), hs 1 (by omega) (by omega) (by omega), hs 2 (by omega) (by omega) (by omega), h5, hp]
    exact ⟨m, i, n, ⟨rfl, hp2⟩, rfl, by omega⟩
  · unfold hd
    rw [hs 4 (by omega) (by omega) (by omega)]
    exact fun h1 o ho he hq => he (hI.uh o h ho hh hq (by rw [show hd s o = hd s h from hq]; exact h1))
  · rw [e0 2 (by omega) (by omega) (by omega)]
    exact fun h1 o ho he hq => he (hI.un o h ho hh hq (by rw [hq]; exact h1))
  · rw [h3, hI.2.2.2, sumN_inc (f := fun h => fP s h 5) (f' := fun h => fP s' h 5) (h := h) e5 (fun i hi => g.xfP hi (by omega)) hh]
    exact nI_1 _
theorem op_appeal {M : Mem} {g : Gh} (G : GO g) (C : CL M g) (O : MO M g) (a b : Int32) : Ok Sim M (f_X7_appeal a b) (f_X8_appeal a b) := by
  have hI := G.1.1
  have R := C.1
  have b1 := hI.h1l
  by_cases c : inb a (nh g.1) = true
  · obtain ⟨h, hh, rfl⟩ := inb_ex c (by omega)
    have h12 : h < 12 := by omega
    by_cases c1 : (0 : Int32) ≤ b ∧ b ≤ 2
    · obtain ⟨r, hr, rfl⟩ := inb_ex (a := b) (n := 3) (by
        obtain ⟨x1, x2⟩ := c1
        rw [Int32.le_iff_toInt_le, Int32.toInt_zero] at x1
        rw [Int32.le_iff_toInt_le, show (2 : Int32).toInt = 2 from by decide] at x2
        exact decide_eq_true (by omega)) (by omega)
      obtain ⟨-, -, -, ⟨p1, p2⟩, q1, q2⟩ := hI.nu hh
      obtain ⟨-, -, -, -, -, -, a7, -⟩ := R.hr hh
      have w7 : M (17 + 2 * h) 7 = nI (fP g.1 h 5) := a7.trans q1
      by_cases c2 : fP g.1 h 5 < 2
      · have lt2 : nI (fP g.1 h 5) < (2 : Int32) := (nIlt (b := 2) (by omega) (by omega)).mpr c2
        have ne2 : ¬ nI (fP g.1 h 5) = (2 : Int32) := fun q => by
          have := nI_inj (a := fP g.1 h 5) (b := 2) (by omega) (by omega) q
          omega
        have kpre : ∀ M1, f_X1_record 1 M = some (0, M1) → RS M1 1 g.1 → f_X7_appeal (nI h) (nI r) M = (if bI (rsB g.1 h r) = 0 then lt_ (up (up M1 (17 + 2 * h) 7 (nI (fP g.1 h 5 + 1))) 1 5 ((up M1 (17 + 2 * h) 7 (nI (fP g.1 h 5 + 1)) 1 5) + 1)) (fun M21 => some ((M21 (17 + 2 * h) 5), M21)) else lt_ (up (up M1 (17 + 2 * h) 7 (nI (fP g.1 h 5 + 1))) (17 + 2 * h) 5 ((up M1 (17 + 2 * h) 7 (nI (fP g.1 h 5 + 1)) (17 + 2 * h) 5) + (nI r + 1))) (fun M22 => some (((M22 (17 + 2 * h) 5) + 100), M22))) := fun M1 e1 R1 => by
          have rh : f_X6_reasonHolds 1 (17 + 2 * h) (nI r) M1 = some (bI (rsB g.1 h r), M1) := k_reasonHolds R1 hI hh hr
          obtain ⟨-, -, -, -, -, -, a7', -⟩ := R1.hr hh
          have w7' : M1 (17 + 2 * h) 7 = nI (fP g.1 h 5) := a7'.trans q1
          unfold f_X7_appeal
          rw [k_hasHousehold R hI, bd_s, c, if_neg bIne, within_n, bd_s, decide_eq_true c1, if_neg bIne, ck_t (inbN h12 (by omega)), nN (show h < 2147483648 by omega), w7, if_pos lt2, e1, bd_s, rh, bd_s, w7', lt_e, show (nI (fP g.1 h 5) : Int32) + 1 = nI (fP g.1 h 5 + 1) from nI_1 _]
        cases hrs : rsB g.1 h r with
        | false =>
          have gA : Agr g.1 (apN g.1 h) h := fun i x2 x3 x4 x5 hi => by
            unfold apN
            rw [ur_ne x4, ur_ne x3, ur_ne (by omega)]
          have hI' : Inv (apN g.1 h) := ap_inv hI hh c2 gA (fun k hk k3 k5 => by unfold apN; rw [ur_ne (by omega), ur_ne (by omega), ur_ne (by omega)]) (by unfold apN; rw [ur_ne (by omega), ur_ne (by omega), ur_eq]) (p := fP g.1 h 3) (by unfold apN; rw [ur_ne (by omega), ur_ne (by omega), ur_ne (by omega)]; exact p1) (by omega) (by unfold apN; rw [ur_ne (by omega), ur_eq])
          refine ok_st (s' := apN g.1 h) (r := nI (fP g.1 h 3)) G O hI' (((G.1.2.up (by omega)).up (by omega)).up (by omega)) ?_ (fun M0 h' => ?_)
          · obtain ⟨M1, e1, e2, e3⟩ := k_record G C
            have R1 : RS M1 1 g.1 := e2.1
            obtain ⟨⟨r0, r1, r2, r3, r4⟩, -⟩ := id R1
            obtain ⟨z1, z2, z3, z4, z5, z6, z7, z8, z9⟩ := R1.hr hh
            have w5 : M1 (17 + 2 * h) 5 = nI (fP g.1 h 3) := z5.trans p1
            refine ⟨M1, up (up M1 (17 + 2 * h) 7 (nI (fP g.1 h 5 + 1))) 1 5 (g.1 4 + 1), ?_, e2, R1.hh hI (h := h) gA (fun q _ _ k1 k2 => by rw [up_ne (by omega), up_ne (by omega)]) ?_ (fun _ => ?_), fun q _ _ _ => by rw [up_ne (by omega), up_ne (by omega)], by rw [up_ne (by omega), up_ne (by omega)], fun q hq => by rw [up_ne (by omega), up_ne (by omega), e3 q (by omega)]⟩
            · rw [kpre M1 e1 R1, hrs, if_pos bI_f, up_ne (show 1 ≠ 17 + 2 * h by omega), r3, lt_e, up_ne (show 17 + 2 * h ≠ 1 by omega), up_other (by omega), w5]
            · refine ⟨?_, ?_, ?_, ?_, ?_⟩
              · rw [up_other (by omega), up_ne (by omega)]
              · rw [up_other (by omega), up_ne (by omega)]
              · rw [up_other (by omega), up_ne (by omega)]
                exact r2.trans (by unfold apN; rw [ur_ne (by omega), ur_ne (by omega), ur_ne (by omega)])
              · rw [up_same]
                exact ur_eq.symm
              · rw [up_other (by omega), up_ne (by omega)]
                exact r4.trans (by unfold apN; rw [ur_ne (by omega), ur_ne (by omega), ur_ne (by omega)])
            · have fs : ∀ k, k < 14 → k ≠ 5 → apN g.1 h (30 + 14 * h + k) = g.1 (30 + 14 * h + k) := fun k hk k5 => by unfold apN; rw [ur_ne (by omega), ur_ne (by omega), ur_ne (by omega)]
              have f5 : apN g.1 h (30 + 14 * h + 5) = nI (fP g.1 h 5 + 1) := by unfold apN; rw [ur_ne (by omega), ur_ne (by omega), ur_eq]
              have en : noI (apN g.1 h) h = noI g.1 h := by
                unfold noI drB fP
                rw [fs 2 (by omega) (by omega)]
              have eh : hd (apN g.1 h) h = hd g.1 h := fs 4 (by omega) (by omega)
              have e7 : fP (apN g.1 h) h 7 = fP g.1 h 7 := by
                unfold fP
                rw [fs 7 (by omega) (by omega)]
              have l2 := (hI.ls hh).1.2
              have ot : ∀ k, k ≠ 7 → up (up M1 (17 + 2 * h) 7 (nI (fP g.1 h 5 + 1))) 1 5 (g.1 4 + 1) (1 + 16 + 2 * h) k = M1 (1 + 16 + 2 * h) k := fun k hk => by rw [up_ne (by omega), up_other (by omega)]
              unfold HR
              rw [eh, en, e7, ot 1 (by omega), ot 2 (by omega), ot 3 (by omega), ot 4 (by omega), ot 5 (by omega), ot 6 (by omega), ot 8 (by omega), fs 0 (by omega) (by omega), fs 1 (by omega) (by omega), fs 3 (by omega) (by omega), fs 6 (by omega) (by omega), fs 7 (by omega) (by omega), f5]
              refine ⟨z1, z2, z3, z4, z5, z6, ?_, z8, fun k hk => ?_⟩
              · rw [up_ne (by omega), show 1 + 16 + 2 * h = 17 + 2 * h by omega, up_same]
              · rw [up_ne (by omega), up_ne (by omega), z9 k hk, show 30 + 14 * h + 8 + k = 30 + 14 * h + (8 + k) by omega, fs (8 + k) (by omega) (by omega)]
          · obtain ⟨M1, e1, e2, e3⟩ := records_n G h'
            have m256 : M1 256 = g.1 := e2.1
            refine ⟨M1, up (up (up (up M1 256 (30 + 14 * h + 5) (nI (fP g.1 h 5 + 1))) 256 (30 + 14 * h + 3) (nI (fP g.1 h 3))) 256 3 (g.1 3 + 1)) 256 4 (g.1 4 + 1), ?_, e2, ?_, fun q _ _ => by rw [up_ne (by omega), up_ne (by omega), up_ne (by omega), up_ne (by omega)], by rw [up_ne (by omega), up_ne (by omega), up_ne (by omega), up_ne (by omega)]; exact ⟨rfl, rfl, rfl⟩, fun q hq => by rw [up_ne (by omega), up_ne (by omega), up_ne (by omega), up_ne (by omega), e3 q (by omega) (by omega)]⟩
            · unfold f_X8_appeal
              rw [isHome_n (h'.inv G), bd_s, h'.1, c, if_neg bIne, in_n, bd_s, decide_eq_true c1, if_neg bIne, of5 h12, bd_s, h'.1, q1, if_neg ne2, e1, bd_s, holds_n (by rw [m256]; exact hI) (by rw [m256]; exact hh) hr, bd_s, m256, hrs, of5 h12, bd_s, m256, q1, show (nI (fP g.1 h 5) : Int32) + 1 = nI (fP g.1 h 5 + 1) from nI_1 _, pu5 h12, bd_s, of3 h12, bd_s, up_other (show ¬ (256 = 256 ∧ 30 + 14 * h + 3 = 30 + 14 * h + 5) by omega), m256, p1, if_pos bI_f, Int32.add_zero, pu3 h12, bd_s, up_other (show ¬ (256 = 256 ∧ 3 = 30 + 14 * h + 3) by omega), up_other (show ¬ (256 = 256 ∧ 3 = 30 + 14 * h + 5) by omega), m256, lt_e, if_pos bI_f, up_other (show ¬ (256 = 256 ∧ 4 = 3) by omega), up_other (show ¬ (256 = 256 ∧ 4 = 30 + 14 * h + 3) by omega), up_other (show ¬ (256 = 256 ∧ 4 = 30 + 14 * h + 5) by omega), m256, lt_e, of3 h12, bd_s, up_other (show ¬ (256 = 256 ∧ 30 + 14 * h + 3 = 4) by omega), up_other (show ¬ (256 = 256 ∧ 30 + 14 * h + 3 = 3) by omega), up_same, if_pos bI_f, Int32.add_zero]
            · rw [up_row, up_row, up_row, up_row, m256]
              have : ur (ur g.1 (30 + 14 * h + 5) (nI (fP g.1 h 5 + 1))) (30 + 14 * h + 3) (nI (fP g.1 h 3)) = ur g.1 (30 + 14 * h + 5) (nI (fP g.1 h 5 + 1)) := by
                have h0 : ur g.1 (30 + 14 * h + 5) (nI (fP g.1 h 5 + 1)) (30 + 14 * h + 3) = nI (fP g.1 h 3) := by rw [ur_ne (by omega)]; exact p1
                rw [← h0]
                exact ur_id
              rw [this]
              rfl
        | true =>
          have gA : Agr g.1 (apY g.1 h r) h := fun i x2 x3 x4 x5 hi => by
            unfold apY
            rw [ur_ne x3, ur_ne (by omega), ur_ne (by omega)]
          have hI' : Inv (apY g.1 h r) := ap_inv hI hh c2 gA (fun k hk k3 k5 => by unfold apY; rw [ur_ne (by omega), ur_ne (by omega), ur_ne (by omega)]) (by unfold apY; rw [ur_ne (by omega), ur_ne (by omega), ur_eq]) (p := fP g.1 h 3 + (1 + r)) (by unfold apY; rw [ur_ne (by omega), ur_eq]) (by omega) (by unfold apY; rw [ur_eq])
          refine ok_st (s' := apY g.1 h r) (r := nI (fP g.1 h 3 + (1 + r)) + 100) G O hI' (((G.1.2.up (by omega)).up (by omega)).up (by omega)) ?_ (fun M0 h' => ?_)
          · obtain ⟨M1, e1, e2, e3⟩ := k_record G C
            have R1 : RS M1 1 g.1 := e2.1
            obtain ⟨⟨r0, r1, r2, r3, r4⟩, -⟩ := id R1
            obtain ⟨z1, z2, z3, z4, z5, z6, z7, z8, z9⟩ := R1.hr hh
            have w5 : M1 (17 + 2 * h) 5 = nI (fP g.1 h 3) := z5.trans p1
            refine ⟨M1, up (up M1 (17 + 2 * h) 7 (nI (fP g.1 h 5 + 1))) (17 + 2 * h) 5 (nI (fP g.1 h 3 + (1 + r))), ?_, e2, R1.hh hI (h := h) gA (fun q _ _ k1 k2 => by rw [up_ne (by omega), up_ne (by omega)]) ?_ (fun _ => ?_), fun q _ _ _ => by rw [up_ne (by omega), up_ne (by omega)], by rw [up_ne (by omega), up_ne (by omega)], fun q hq => by rw [up_ne (by omega), up_ne (by omega), e3 q (by omega)]⟩
            · rw [kpre M1 e1 R1, hrs, if_neg bIne, up_other (by omega), w5, show (nI r : Int32) + 1 = nI (1 + r) from by rw [Nat.add_comm]; exact nI_1 r, nI_add, lt_e, up_same]
            · rw [up_ne (by omega), up_ne (by omega)]
              exact ⟨rfl, rfl, r2.trans (by unfold apY; rw [ur_ne (by omega), ur_ne (by omega), ur_ne (by omega)]), r3.trans (by unfold apY; rw [ur_ne (by omega), ur_ne (by omega), ur_ne (by omega)]), r4.trans (by unfold apY; rw [ur_ne (by omega), ur_ne (by omega), ur_ne (by omega)])⟩
            · have fs : ∀ k, k < 14 → k ≠ 5 → k ≠ 3 → apY g.1 h r (30 + 14 * h + k) = g.1 (30 + 14 * h + k) := fun k hk k5 k3 => by unfold apY; rw [ur_ne (by omega), ur_ne (by omega), ur_ne (by omega)]
              have f5 : apY g.1 h r (30 + 14 * h + 5) = nI (fP g.1 h 5 + 1) := by unfold apY; rw [ur_ne (by omega), ur_ne (by omega), ur_eq]
              have f3 : apY g.1 h r (30 + 14 * h + 3) = nI (fP g.1 h 3 + (1 + r)) := by unfold apY; rw [ur_ne (by omega), ur_eq]
              have en : noI (apY g.1 h r) h = noI g.1 h := by
                unfold noI drB fP
                rw [fs 2 (by omega) (by omega) (by omega)]
              have eh : hd (apY g.1 h r) h = hd g.1 h := fs 4 (by omega) (by omega) (by omega)
              have e7 : fP (apY g.1 h r) h 7 = fP g.1 h 7 := by
                unfold fP
                rw [fs 7 (by omega) (by omega) (by omega)]
              have l2 := (hI.ls hh).1.2
              have ot : ∀ k, k ≠ 7 → k ≠ 5 → up (up M1 (17 + 2 * h) 7 (nI (fP g.1 h 5 + 1))) (17 + 2 * h) 5 (nI (fP g.1 h 3 + (1 + r))) (1 + 16 + 2 * h) k = M1 (1 + 16 + 2 * h) k := fun k hk h5 => by rw [up_other (by omega), up_other (by omega)]
              unfold HR
              rw [eh, en, e7, ot 1 (by omega) (by omega), ot 2 (by omega) (by omega), ot 3 (by omega) (by omega), ot 4 (by omega) (by omega), ot 6 (by omega) (by omega), ot 8 (by omega) (by omega), fs 0 (by omega) (by omega) (by omega), fs 1 (by omega) (by omega) (by omega), fs 6 (by omega) (by omega) (by omega), fs 7 (by omega) (by omega) (by omega), f5, f3]
              refine ⟨z1, z2, z3, z4, ?_, z6, ?_, z8, fun k hk => ?_⟩
              · rw [show 1 + 16 + 2 * h = 17 + 2 * h by omega, up_same]
              · rw [show 1 + 16 + 2 * h = 17 + 2 * h by omega, up_other (by omega), up_same]
              · rw [up_ne (by omega), up_ne (by omega), z9 k hk, show 30 + 14 * h + 8 + k = 30 + 14 * h + (8 + k) by omega, fs (8 + k) (by omega) (by omega) (by omega)]
          · obtain ⟨M1, e1, e2, e3⟩ := records_n G h'
            have m256 : M1 256 = g.1 := e2.1
            refine ⟨M1, up (up (up (up M1 256 (30 + 14 * h + 5) (nI (fP g.1 h 5 + 1))) 256 (30 + 14 * h + 3) (nI (fP g.1 h 3 + (1 + r)))) 256 3 (g.1 3 + 1)) 256 4 (g.1 4), ?_, e2, ?_, fun q _ _ => by rw [up_ne (by omega), up_ne (by omega), up_ne (by omega), up_ne (by omega)], by rw [up_ne (by omega), up_ne (by omega), up_ne (by omega), up_ne (by omega)]; exact ⟨rfl, rfl, rfl⟩, fun q hq => by rw [up_ne (by omega), up_ne (by omega), up_ne (by omega), up_ne (by omega), e3 q (by omega) (by omega)]⟩
            · unfold f_X8_appeal
              rw [isHome_n (h'.inv G), bd_s, h'.1, c, if_neg bIne, in_n, bd_s, decide_eq_true c1, if_neg bIne, of5 h12, bd_s, h'.1, q1, if_neg ne2, e1, bd_s, holds_n (by rw [m256]; exact hI) (by rw [m256]; exact hh) hr, bd_s, m256, hrs, of5 h12, bd_s, m256, q1, show (nI (fP g.1 h 5) : Int32) + 1 = nI (fP g.1 h 5 + 1) from nI_1 _, pu5 h12, bd_s, of3 h12, bd_s, up_other (show ¬ (256 = 256 ∧ 30 + 14 * h + 3 = 30 + 14 * h + 5) by omega), m256, p1, if_neg bIne, show (1 : Int32) + nI r = nI (1 + r) from nI_add 1 r, nI_add, pu3 h12, bd_s, up_other (show ¬ (256 = 256 ∧ 3 = 30 + 14 * h + 3) by omega), up_other (show ¬ (256 = 256 ∧ 3 = 30 + 14 * h + 5) by omega), m256, lt_e, if_neg bIne, up_other (show ¬ (256 = 256 ∧ 4 = 3) by omega), up_other (show ¬ (256 = 256 ∧ 4 = 30 + 14 * h + 3) by omega), up_other (show ¬ (256 = 256 ∧ 4 = 30 + 14 * h + 5) by omega), m256, Int32.add_zero, lt_e, of3 h12, bd_s, up_other (show ¬ (256 = 256 ∧ 30 + 14 * h + 3 = 4) by omega), up_other (show ¬ (256 = 256 ∧ 30 + 14 * h + 3 = 3) by omega), up_same, if_neg bIne]
            · rw [up_row, up_row, up_row, up_row, m256]
              have h0 : ur (ur (ur g.1 (30 + 14 * h + 5) (nI (fP g.1 h 5 + 1))) (30 + 14 * h + 3) (nI (fP g.1 h 3 + (1 + r)))) 3 (g.1 3 + 1) 4 = g.1 4 := by rw [ur_ne (by omega), ur_ne (by omega), ur_ne (by omega)]
              rw [← h0]
              exact ur_id
      · have k2 : fP g.1 h 5 = 2 := by omega
        refine ok_q0 (r := -3) G C O ?_ (fun M1 h' => ?_)
        · unfold f_X7_appeal
          rw [k_hasHousehold R hI, bd_s, c, if_neg bIne, within_n, bd_s, decide_eq_true c1, if_neg bIne, ck_t (inbN h12 (by omega)), nN (show h < 2147483648 by omega), w7, if_neg (show ¬ nI (fP g.1 h 5) < (2 : Int32) from fun q => c2 ((nIlt (b := 2) (by omega) (by omega)).mp q))]
        · unfold f_X8_appeal
          rw [isHome_n (h'.inv G), bd_s, h'.1, c, if_neg bIne, in_n, bd_s, decide_eq_true c1, if_neg bIne, of5 h12, bd_s, h'.1, q1, if_pos (show nI (fP g.1 h 5) = (2 : Int32) by rw [k2]; rfl)]
    · refine ok_q0 (r := -2) G C O ?_ (fun M1 h' => ?_)
      · unfold f_X7_appeal
        rw [k_hasHousehold R hI, bd_s, c, if_neg bIne, within_n, bd_s, decide_eq_false c1, if_pos bI_f]
      · unfold f_X8_appeal
        rw [isHome_n (h'.inv G), bd_s, h'.1, c, if_neg bIne, in_n, bd_s, decide_eq_false c1, if_pos bI_f]
  · refine ok_q0 (r := -1) G C O ?_ (fun M1 h => ?_)
    · unfold f_X7_appeal
      rw [k_hasHousehold R hI, bd_s, if_pos (bIf c)]
    · unfold f_X8_appeal
      rw [isHome_n (h.inv G), bd_s, h.1, if_pos (bIf c)]
