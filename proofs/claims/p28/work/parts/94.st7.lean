theorem st_decline {M : Mem} {g : Gh} (G : GO g) (C : CL M g) (a : Int32) : OkC M (f_X7_decline a) (tDecline g a) := by
  have hI := G.1.1
  have R := C.1
  have b1 := hI.h1l
  by_cases c : inb a (nh g.1) = true
  · obtain ⟨h, hh, rfl⟩ := inb_ex c (by omega)
    have h12 : h < 12 := by omega
    have hd1 : M (17 + 2 * h) 6 = hd g.1 h := R.hd hh
    by_cases c1 : hd g.1 h = -5
    · refine k_q0 (r := -4) (by unfold tDecline; rw [if_pos c, nN (show h < 2147483648 by omega), if_pos c1]) G C ?_
      · unfold f_X7_decline
        rw [k_hasHousehold R hI, bd_s, c, if_neg bIne, ck_t (inbN h12 (by omega)), nN (by omega), hd1, if_pos c1]
    · have hI1 : Inv (ur g.1 (30 + 14 * h + 4) (-5)) := hI.give hh (Or.inl rfl) (fun q => absurd rfl q)
      have hZ1 : Zr (ur g.1 (30 + 14 * h + 4) (-5)) := G.1.2.up (by omega)
      have hh1 : h < nh (ur g.1 (30 + 14 * h + 4) (-5)) := by rw [nh_ur (by omega)]; exact hh
      obtain ⟨hI2, hZ2, A2, F2⟩ := rmO_inv hI1 hZ1 hh1 (hd g.1 h)
      have hh2 : h < nh (rmO (ur g.1 (30 + 14 * h + 4) (-5)) h (hd g.1 h)) := by rw [A2.xnh]; exact hh1
      obtain ⟨-, -, -, ⟨p1, p2⟩, q1, q2⟩ := hI.nu hh
      have pe : rmO (ur g.1 (30 + 14 * h + 4) (-5)) h (hd g.1 h) (30 + 14 * h + 3) = nI (fP g.1 h 3) := by
        rw [F2 3 (by omega), ur_ne (by omega)]
        exact p1
      have f5 : fP (rmO (ur g.1 (30 + 14 * h + 4) (-5)) h (hd g.1 h)) h 5 = fP g.1 h 5 := by
        unfold fP
        rw [F2 5 (by omega), ur_ne (by omega)]
      have d5 : rmO (ur g.1 (30 + 14 * h + 4) (-5)) h (hd g.1 h) 5 = g.1 5 := by
        unfold rmO
        cases hp : plO (ur g.1 (30 + 14 * h + 4) (-5)) h (hd g.1 h) with
        | none => exact ur_ne (by omega)
        | some p =>
          have := plO_lt hp
          show rmW _ h p 5 = _
          rw [rmW_ne (by omega) (by omega), ur_ne (by omega)]
      have hI3 := hI2.pts hh2 (k := fP g.1 h 3 - 1) (by rw [f5]; omega)
      generalize hs2 : rmO (ur g.1 (30 + 14 * h + 4) (-5)) h (hd g.1 h) = s2 at *
      refine k_st (s' := ur (ur s2 (30 + 14 * h + 3) (nI (fP g.1 h 3 - 1))) 5 (g.1 5 + 1)) (r := hd g.1 h) (by unfold tDecline; rw [if_pos c, nN (show h < 2147483648 by omega), if_neg c1, hs2]) G (hI3.ag (fun i _ _ h5 => ur_ne h5)) ((hZ2.up (by omega)).up (by omega)) ?_
      · obtain ⟨M1, e1, e2, e3⟩ := k_record G C
        have R1 : RS (up M1 (17 + 2 * h) 6 (-5)) 1 (ur g.1 (30 + 14 * h + 4) (-5)) := RSw e2.1 hI
        obtain ⟨M2, f1, f2, f3⟩ := k_removeO R1 hI1 hh1 (hd g.1 h)
        rw [hs2] at f2
        have w5 : M2 (17 + 2 * h) 5 = nI (fP g.1 h 3) := by
          obtain ⟨-, -, -, -, a5, -⟩ := f2.hr hh2
          have a5' : M2 (17 + 2 * h) 5 = s2 (30 + 14 * h + 3) := a5
          rw [a5', pe]
        have hv : (if (nI (fP g.1 h 3) - 1) < (0 : Int32) then (0 : Int32) else (nI (fP g.1 h 3) - 1)) = nI (fP g.1 h 3 - 1) := by
          by_cases z : fP g.1 h 3 = 0
          · rw [z]
            rfl
          · rw [show (1 : Int32) = nI 1 from rfl, pk_sub (by omega), if_neg (nI_pos (by omega))]
        have R3 : RS (up M2 (17 + 2 * h) 5 (nI (fP g.1 h 3 - 1))) 1 (ur s2 (30 + 14 * h + 3) (nI (fP g.1 h 3 - 1))) := RS_num f2 hI2 (Or.inr (Or.inr (Or.inl ⟨rfl, rfl, rfl⟩)))
        have w6 : up M2 (17 + 2 * h) 5 (nI (fP g.1 h 3 - 1)) 1 6 = g.1 5 := by
          obtain ⟨-, -, -, -, r4⟩ := R3.1
          rw [r4, ur_ne (by omega), d5]
        refine ⟨M1, up (up M2 (17 + 2 * h) 5 (nI (fP g.1 h 3 - 1))) 1 6 (g.1 5 + 1), ?_, e2, RS_ct R3 hI3 (Or.inr ⟨rfl, rfl⟩), fun q _ _ _ => by rw [up_ne (by omega), up_ne (by omega), f3 q (by omega) (by omega), up_ne (by omega)], by rw [up_ne (by omega), up_ne (by omega), f3 243 (by omega) (by omega), up_ne (by omega)], fun q hq => by rw [up_ne (by omega), up_ne (by omega), f3 q (by omega) (by omega), up_ne (by omega), e3 q (by omega)]⟩
        unfold f_X7_decline
        rw [k_hasHousehold R hI, bd_s, c, if_neg bIne, ck_t (inbN h12 (by omega)), nN (by omega), hd1, if_neg c1, e1, bd_s, lt_e, f1, bd_s, w5, hv, lt_e, w6, lt_e]
  · refine k_q0 (r := -1) (by unfold tDecline; rw [if_neg c]) G C ?_
    · unfold f_X7_decline
      rw [k_hasHousehold R hI, bd_s, if_pos (bIf c)]
theorem st_appeal {M : Mem} {g : Gh} (G : GO g) (C : CL M g) (a b : Int32) : OkC M (f_X7_appeal a b) (tAppeal g a b) := by
  have hI := G.1.1
  have R := C.1
  have b1 := hI.h1l
  by_cases c : inb a (nh g.1) = true
  · obtain ⟨h, hh, rfl⟩ := inb_ex c (by omega)
    have h12 : h < 12 := by omega
    by_cases c1 : (0 : Int32) ≤ b ∧ b ≤ 2
    · obtain ⟨r, hr, rfl⟩ := inb_ex (a := b) (n := 3) (by
        obtain ⟨x1, x2⟩ := c1
        rw [Int32.le_iff_toInt_le, Int32.toInt_zero] at x1
        rw [Int32.le_iff_toInt_le, show (2 : Int32).toInt = 2 from by decide] at x2
        exact decide_eq_true (by omega)) (by omega)
      obtain ⟨-, -, -, ⟨p1, p2⟩, q1, q2⟩ := hI.nu hh
      obtain ⟨-, -, -, -, -, -, a7, -⟩ := R.hr hh
      have w7 : M (17 + 2 * h) 7 = nI (fP g.1 h 5) := a7.trans q1
      by_cases c2 : fP g.1 h 5 < 2
      · have lt2 : nI (fP g.1 h 5) < (2 : Int32) := (nIlt (b := 2) (by omega) (by omega)).mpr c2
        have ne2 : ¬ nI (fP g.1 h 5) = (2 : Int32) := fun q => by
          have := nI_inj (a := fP g.1 h 5) (b := 2) (by omega) (by omega) q
          omega
        have kpre : ∀ M1, f_X1_record 1 M = some (0, M1) → RS M1 1 g.1 → f_X7_appeal (nI h) (nI r) M = (if bI (rsB g.1 h r) = 0 then lt_ (up (up M1 (17 + 2 * h) 7 (nI (fP g.1 h 5 + 1))) 1 5 ((up M1 (17 + 2 * h) 7 (nI (fP g.1 h 5 + 1)) 1 5) + 1)) (fun M21 => some ((M21 (17 + 2 * h) 5), M21)) else lt_ (up (up M1 (17 + 2 * h) 7 (nI (fP g.1 h 5 + 1))) (17 + 2 * h) 5 ((up M1 (17 + 2 * h) 7 (nI (fP g.1 h 5 + 1)) (17 + 2 * h) 5) + (nI r + 1))) (fun M22 => some (((M22 (17 + 2 * h) 5) + 100), M22))) := fun M1 e1 R1 => by
          have rh : f_X6_reasonHolds 1 (17 + 2 * h) (nI r) M1 = some (bI (rsB g.1 h r), M1) := k_reasonHolds R1 hI hh hr
          obtain ⟨-, -, -, -, -, -, a7', -⟩ := R1.hr hh
          have w7' : M1 (17 + 2 * h) 7 = nI (fP g.1 h 5) := a7'.trans q1
          unfold f_X7_appeal
          rw [k_hasHousehold R hI, bd_s, c, if_neg bIne, within_n, bd_s, decide_eq_true c1, if_neg bIne, ck_t (inbN h12 (by omega)), nN (show h < 2147483648 by omega), w7, if_pos lt2, e1, bd_s, rh, bd_s, w7', lt_e, show (nI (fP g.1 h 5) : Int32) + 1 = nI (fP g.1 h 5 + 1) from nI_1 _]
        cases hrs : rsB g.1 h r with
        | false =>
          have gA : Agr g.1 (apN g.1 h) h := fun i x2 x3 x4 x5 hi => by
            unfold apN
            rw [ur_ne x4, ur_ne x3, ur_ne (by omega)]
          have hI' : Inv (apN g.1 h) := ap_inv hI hh c2 gA (fun k hk k3 k5 => by unfold apN; rw [ur_ne (by omega), ur_ne (by omega), ur_ne (by omega)]) (by unfold apN; rw [ur_ne (by omega), ur_ne (by omega), ur_eq]) (p := fP g.1 h 3) (by unfold apN; rw [ur_ne (by omega), ur_ne (by omega), ur_ne (by omega)]; exact p1) (by omega) (by unfold apN; rw [ur_ne (by omega), ur_eq])
          refine k_st (s' := apN g.1 h) (r := nI (fP g.1 h 3)) (by unfold tAppeal; rw [if_pos c, if_pos c1, nN (show h < 2147483648 by omega), if_pos c2, nN (show r < 2147483648 by omega), hrs, if_neg Bool.false_ne_true]) G hI' (((G.1.2.up (by omega)).up (by omega)).up (by omega)) ?_
          · obtain ⟨M1, e1, e2, e3⟩ := k_record G C
            have R1 : RS M1 1 g.1 := e2.1
            obtain ⟨⟨r0, r1, r2, r3, r4⟩, -⟩ := id R1
            obtain ⟨z1, z2, z3, z4, z5, z6, z7, z8, z9⟩ := R1.hr hh
            have w5 : M1 (17 + 2 * h) 5 = nI (fP g.1 h 3) := z5.trans p1
            refine ⟨M1, up (up M1 (17 + 2 * h) 7 (nI (fP g.1 h 5 + 1))) 1 5 (g.1 4 + 1), ?_, e2, R1.hh hI (h := h) gA (fun q _ _ k1 k2 => by rw [up_ne (by omega), up_ne (by omega)]) ?_ (fun _ => ?_), fun q _ _ _ => by rw [up_ne (by omega), up_ne (by omega)], by rw [up_ne (by omega), up_ne (by omega)], fun q hq => by rw [up_ne (by omega), up_ne (by omega), e3 q (by omega)]⟩
            · rw [kpre M1 e1 R1, hrs, if_pos bI_f, up_ne (show 1 ≠ 17 + 2 * h by omega), r3, lt_e, up_ne (show 17 + 2 * h ≠ 1 by omega), up_other (by omega), w5]
            · refine ⟨?_, ?_, ?_, ?_, ?_⟩
              · rw [up_other (by omega), up_ne (by omega)]
              · rw [up_other (by omega), up_ne (by omega)]
              · rw [up_other (by omega), up_ne (by omega)]
                exact r2.trans (by unfold apN; rw [ur_ne (by omega), ur_ne (by omega), ur_ne (by omega)])
              · rw [up_same]
                exact ur_eq.symm
              · rw [up_other (by omega), up_ne (by omega)]
                exact r4.trans (by unfold apN; rw [ur_ne (by omega), ur_ne (by omega), ur_ne (by omega)])
            · have fs : ∀ k, k < 14 → k ≠ 5 → apN g.1 h (30 + 14 * h + k) = g.1 (30 + 14 * h + k) := fun k hk k5 => by unfold apN; rw [ur_ne (by omega), ur_ne (by omega), ur_ne (by omega)]
              have f5 : apN g.1 h (30 + 14 * h + 5) = nI (fP g.1 h 5 + 1) := by unfold apN; rw [ur_ne (by omega), ur_ne (by omega), ur_eq]
              have en : noI (apN g.1 h) h = noI g.1 h := by
                unfold noI drB fP
                rw [fs 2 (by omega) (by omega)]
              have eh : hd (apN g.1 h) h = hd g.1 h := fs 4 (by omega) (by omega)
              have e7 : fP (apN g.1 h) h 7 = fP g.1 h 7 := by
                unfold fP
                rw [fs 7 (by omega) (by omega)]
              have l2 := (hI.ls hh).1.2
              have ot : ∀ k, k ≠ 7 → up (up M1 (17 + 2 * h) 7 (nI (fP g.1 h 5 + 1))) 1 5 (g.1 4 + 1) (1 + 16 + 2 * h) k = M1 (1 + 16 + 2 * h) k := fun k hk => by rw [up_ne (by omega), up_other (by omega)]
              unfold HR
              rw [eh, en, e7, ot 1 (by omega), ot 2 (by omega), ot 3 (by omega), ot 4 (by omega), ot 5 (by omega), ot 6 (by omega), ot 8 (by omega), fs 0 (by omega) (by omega), fs 1 (by omega) (by omega), fs 3 (by omega) (by omega), fs 6 (by omega) (by omega), fs 7 (by omega) (by omega), f5]
              refine ⟨z1, z2, z3, z4, z5, z6, ?_, z8, fun k hk => ?_⟩
              · rw [up_ne (by omega), show 1 + 16 + 2 * h = 17 + 2 * h by omega, up_same]
              · rw [up_ne (by omega), up_ne (by omega), z9 k hk, show 30 + 14 * h + 8 + k = 30 + 14 * h + (8 + k) by omega, fs (8 + k) (by omega) (by omega)]
        | true =>
          have gA : Agr g.1 (apY g.1 h r) h := fun i x2 x3 x4 x5 hi => by
            unfold apY
            rw [ur_ne x3, ur_ne (by omega), ur_ne (by omega)]
          have hI' : Inv (apY g.1 h r) := ap_inv hI hh c2 gA (fun k hk k3 k5 => by unfold apY; rw [ur_ne (by omega), ur_ne (by omega), ur_ne (by omega)]) (by unfold apY; rw [ur_ne (by omega), ur_ne (by omega), ur_eq]) (p := fP g.1 h 3 + (1 + r)) (by unfold apY; rw [ur_ne (by omega), ur_eq]) (by omega) (by unfold apY; rw [ur_eq])
          refine k_st (s' := apY g.1 h r) (r := nI (fP g.1 h 3 + (1 + r)) + 100) (by unfold tAppeal; rw [if_pos c, if_pos c1, nN (show h < 2147483648 by omega), if_pos c2, nN (show r < 2147483648 by omega), hrs, if_pos rfl]) G hI' (((G.1.2.up (by omega)).up (by omega)).up (by omega)) ?_
          · obtain ⟨M1, e1, e2, e3⟩ := k_record G C
            have R1 : RS M1 1 g.1 := e2.1
            obtain ⟨⟨r0, r1, r2, r3, r4⟩, -⟩ := id R1
            obtain ⟨z1, z2, z3, z4, z5, z6, z7, z8, z9⟩ := R1.hr hh
            have w5 : M1 (17 + 2 * h) 5 = nI (fP g.1 h 3) := z5.trans p1
            refine ⟨M1, up (up M1 (17 + 2 * h) 7 (nI (fP g.1 h 5 + 1))) (17 + 2 * h) 5 (nI (fP g.1 h 3 + (1 + r))), ?_, e2, R1.hh hI (h := h) gA (fun q _ _ k1 k2 => by rw [up_ne (by omega), up_ne (by omega)]) ?_ (fun _ => ?_), fun q _ _ _ => by rw [up_ne (by omega), up_ne (by omega)], by rw [up_ne (by omega), up_ne (by omega)], fun q hq => by rw [up_ne (by omega), up_ne (by omega), e3 q (by omega)]⟩
            · rw [kpre M1 e1 R1, hrs, if_neg bIne, up_other (by omega), w5, show (nI r : Int32) + 1 = nI (1 + r) from by rw [Nat.add_comm]; exact nI_1 r, nI_add, lt_e, up_same]
            · rw [up_ne (by omega), up_ne (by omega)]
              exact ⟨rfl, rfl, r2.trans (by unfold apY; rw [ur_ne (by omega), ur_ne (by omega), ur_ne (by omega)]), r3.trans (by unfold apY; rw [ur_ne (by omega), ur_ne (by omega), ur_ne (by omega)]), r4.trans (by unfold apY; rw [ur_ne (by omega), ur_ne (by omega), ur_ne (by omega)])⟩
            · have fs : ∀ k, k < 14 → k ≠ 5 → k ≠ 3 → apY g.1 h r (30 + 14 * h + k) = g.1 (30 + 14 * h + k) := fun k hk k5 k3 => by unfold apY; rw [ur_ne (by omega), ur_ne (by omega), ur_ne (by omega)]
              have f5 : apY g.1 h r (30 + 14 * h + 5) = nI (fP g.1 h 5 + 1) := by unfold apY; rw [ur_ne (by omega), ur_ne (by omega), ur_eq]
              have f3 : apY g.1 h r (30 + 14 * h + 3) = nI (fP g.1 h 3 + (1 + r)) := by unfold apY; rw [ur_ne (by omega), ur_eq]
              have en : noI (apY g.1 h r) h = noI g.1 h := by
                unfold noI drB fP
                rw [fs 2 (by omega) (by omega) (by omega)]
              have eh : hd (apY g.1 h r) h = hd g.1 h := fs 4 (by omega) (by omega) (by omega)
              have e7 : fP (apY g.1 h r) h 7 = fP g.1 h 7 := by
                unfold fP
                rw [fs 7 (by omega) (by omega) (by omega)]
              have l2 := (hI.ls hh).1.2
              have ot : ∀ k, k ≠ 7 → k ≠ 5 → up (up M1 (17 + 2 * h) 7 (nI (fP g.1 h 5 + 1))) (17 + 2 * h) 5 (nI (fP g.1 h 3 + (1 + r))) (1 + 16 + 2 * h) k = M1 (1 + 16 + 2 * h) k := fun k hk h5 => by rw [up_other (by omega), up_other (by omega)]
              unfold HR
              rw [eh, en, e7, ot 1 (by omega) (by omega), ot 2 (by omega) (by omega), ot 3 (by omega) (by omega), ot 4 (by omega) (by omega), ot 6 (by omega) (by omega), ot 8 (by omega) (by omega), fs 0 (by omega) (by omega) (by omega), fs 1 (by omega) (by omega) (by omega), fs 6 (by omega) (by omega) (by omega), fs 7 (by omega) (by omega) (by omega), f5, f3]
              refine ⟨z1, z2, z3, z4, ?_, z6, ?_, z8, fun k hk => ?_⟩
              · rw [show 1 + 16 + 2 * h = 17 + 2 * h by omega, up_same]
              · rw [show 1 + 16 + 2 * h = 17 + 2 * h by omega, up_other (by omega), up_same]
              · rw [up_ne (by omega), up_ne (by omega), z9 k hk, show 30 + 14 * h + 8 + k = 30 + 14 * h + (8 + k) by omega, fs (8 + k) (by omega) (by omega) (by omega)]
      · have k2 : fP g.1 h 5 = 2 := by omega
        refine k_q0 (r := -3) (by unfold tAppeal; rw [if_pos c, if_pos c1, nN (show h < 2147483648 by omega), if_neg c2]) G C ?_
        · unfold f_X7_appeal
          rw [k_hasHousehold R hI, bd_s, c, if_neg bIne, within_n, bd_s, decide_eq_true c1, if_neg bIne, ck_t (inbN h12 (by omega)), nN (show h < 2147483648 by omega), w7, if_neg (show ¬ nI (fP g.1 h 5) < (2 : Int32) from fun q => c2 ((nIlt (b := 2) (by omega) (by omega)).mp q))]
    · refine k_q0 (r := -2) (by unfold tAppeal; rw [if_pos c, if_neg c1]) G C ?_
      · unfold f_X7_appeal
        rw [k_hasHousehold R hI, bd_s, c, if_neg bIne, within_n, bd_s, decide_eq_false c1, if_pos bI_f]
  · refine k_q0 (r := -1) (by unfold tAppeal; rw [if_neg c]) G C ?_
    · unfold f_X7_appeal
      rw [k_hasHousehold R hI, bd_s, if_pos (bIf c)]
theorem st_readLists {M : Mem} {g : Gh} (G : GO g) (C : CL M g) : OkC M f_X7_readLists (tRead g) := by
  have hI := G.1.1
  have hn := G.2.2.2.1
  have hx := G.2.2.2.2
  obtain ⟨M1, e1, e2, e3, e4⟩ := k_fault hn hx C.2.2.2.1 C.2.2.2.2
  have C1 : CL M1 g := C.co G (fun q h1 h2 h3 => e2 q h3 (by omega) (by omega) (by omega)) (e3 1 (by omega) (by omega))
  have fr1 : ∀ q, 255 ≤ q → M1 q = M q := fun q hq => e2 q (by omega) (by omega) (by omega) (by omega)
  cases hq : (txS (gN g) (gX g) 16 0 []).1 with
  | some q =>
    rw [hq] at e1
    have e1' : f_X3_findFault M = some (nI q, M1) := e1
    refine k_mk (g' := g) (r := -100 - nI q) (by unfold tRead; rw [hq]; rfl) G ⟨M1, ?_, C1, fr1⟩
    · unfold f_X7_readLists
      have hq5 : ¬ nI q = -5 := by
        intro z
        have h1 := congrArg Int32.toNatClampNeg z
        have h2 := congrArg Int32.toInt z
        have hql : q ≤ 64 := by
          have key : ∀ (d p : Nat) (acc : List (Nat × List Nat)) (r : Nat), p ≤ gN g + 1 → acc.length + d = 16 → 4 * acc.length ≤ p → p ≤ gN g → (txS (gN g) (gX g) d p acc).1 = some r → r ≤ 64 := by
            intro d
            induction d with
            | zero => intro p acc r _ h2 h3 h4 h5; omega
            | succ d ih =>
              intro p acc r _ h2 h3 h4 h5
              obtain ⟨p1, p2⟩ := liS_pos (n := gN g) (x := gX g) h4
              unfold txS at h5
              by_cases c : (liS (gN g) (gX g) p).1 = true
              · obtain ⟨p3, p4⟩ := p2 c
                rw [if_pos c] at h5
                by_cases c2 : chr (gN g) (gX g) (liS (gN g) (gX g) p).2.1 = -1
                · rw [if_pos c2] at h5
                  cases h5
                · have hl2 := chr_lt c2
                  rw [if_neg c2] at h5
                  by_cases c3 : chr (gN g) (gX g) (liS (gN g) (gX g) p).2.1 = 59
                  · rw [if_pos c3] at h5
                    exact ih _ _ r (by omega) (by rw [List.length_append, List.length_singleton]; omega) (by rw [List.length_append, List.length_singleton]; omega) (by omega) h5
                  · rw [if_neg c3] at h5
                    cases h5
                    omega
              · rw [if_neg c] at h5
                cases h5
                omega
          exact key 16 0 [] q (by omega) rfl (by show 4 * 0 ≤ 0; omega) (by omega) hq
        rw [nI_toInt (by omega), show (-5 : Int32).toInt = -5 from by decide] at h2
        omega
      rw [e1', bd_s, if_neg hq5]
  | none =>
    rw [hq] at e1 e4
    obtain ⟨g1, g2, g3, g4⟩ := e4 rfl
    have e1' : f_X3_findFault M = some (-5, M1) := e1
    obtain ⟨ls, hls⟩ : ∃ ls, (txS (gN g) (gX g) 16 0 []).2 = ls := ⟨_, rfl⟩
    rw [hls] at g1 g2 g3 g4
    have kn := k_names C1.1 hI g4 g2 g3 g1
    have kt := k_twice g4 g2 g3 g1
    by_cases c1 : knA g.1 ls = true
    · by_cases c2 : twA ls = true
      · refine k_mk (g' := g) (r := -2) (by unfold tRead; rw [hq, hls]; show (if knA g.1 ls = true then (if twA ls = true then ((-2 : Int32), g) else (nI ls.length, setS (psh g) (layA g.1 ls))) else (-1, g)) = _; rw [if_pos c1, if_pos c2]) G ⟨M1, ?_, C1, fr1⟩
        · unfold f_X7_readLists
          rw [e1', bd_s, if_pos rfl, kn, bd_s, c1, if_neg bIne, kt, bd_s, c2, if_neg bIne]
      · have c2' : twA ls = false := Bool.eq_false_iff.mpr c2
        obtain ⟨i1, i2⟩ := layA_inv hI G.1.2 g3 c1 c2'
        refine k_st (s' := layA g.1 ls) (r := nI ls.length) (by unfold tRead; rw [hq, hls]; show (if knA g.1 ls = true then (if twA ls = true then ((-2 : Int32), g) else (nI ls.length, setS (psh g) (layA g.1 ls))) else (-1, g)) = _; rw [if_pos c1, if_neg c2]) G i1 i2 ?_
        · obtain ⟨M2, h1, h2, h3⟩ := k_record G C1
          have hl := k_lay_l (show 1 + 40 ≤ 243 by omega) g2 g3 ls.length 0 LF M2 g.1 (fun j e he => by
            rw [h3 245 (by omega), h3 246 (by omega), h3 247 (by omega)]
            exact g4 j e he) (by rw [h3 243 (by omega)]; exact g1) (show RS M2 1 g.1 from h2.1) hI (by rw [List.drop_zero]; exact c1) (by rw [List.drop_zero]; exact c2') (by omega) (by unfold LF; omega)
          rw [List.drop_zero] at hl
          obtain ⟨M3, l1, l2, l3⟩ := hl
          refine ⟨M2, M3, ?_, h2, l2, fun q h _ _ => l3 q (by omega), by rw [l3 243 (by omega)], fun q hq => by rw [l3 q (by omega), h3 q (by omega), fr1 q hq]⟩
          unfold f_X7_readLists f_X3_layLists
          rw [e1', bd_s, if_pos rfl, kn, bd_s, c1, if_neg bIne, kt, bd_s, c2', if_pos bI_f, h1, bd_s, show (0 : Int32) = nI 0 from rfl, l1, bd_s, l3 243 (by omega), h3 243 (by omega), g1]
    · refine k_mk (g' := g) (r := -1) (by unfold tRead; rw [hq, hls]; show (if knA g.1 ls = true then (if twA ls = true then ((-2 : Int32), g) else (nI ls.length, setS (psh g) (layA g.1 ls))) else (-1, g)) = _; rw [if_neg c1]) G ⟨M1, ?_, C1, fr1⟩
      · unfold f_X7_readLists
        rw [e1', bd_s, if_pos rfl, kn, bd_s, if_pos (bIf c1)]
