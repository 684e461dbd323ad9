theorem st_wish {M : Mem} {g : Gh} (G : GO g) (C : CL M g) (a b : Int32) : OkC M (f_X7_wish a b) (tWish g a b) := by
  have hI := G.1.1
  have R := C.1
  have b0 := hI.h0l
  have b1 := hI.h1l
  by_cases c : inb a (nh g.1) = true
  · by_cases c2 : inb b (nf g.1) = true
    · obtain ⟨h, hh, rfl⟩ := inb_ex c (by omega)
      obtain ⟨f, hf, rfl⟩ := inb_ex c2 (by omega)
      have h12 : h < 12 := by omega
      obtain ⟨⟨l1, l2⟩, -⟩ := hI.ls hh
      have w1 : M (17 + 2 * h) 1 = nI (fP g.1 h 7) := (R.wc hh).trans l1
      have pl : f_X2_placeOf (17 + 2 * h) (nI f) M = some (oI (plO g.1 h (nI f)), M) := k_placeOf R hI hh (nI f)
      by_cases c3 : fP g.1 h 7 < 6
      · have lt6 : nI (fP g.1 h 7) < (6 : Int32) := (nIlt (b := 6) (by omega) (by omega)).mpr c3
        have ne6 : ¬ nI (fP g.1 h 7) = (6 : Int32) := fun q => by
          have := nI_inj (a := fP g.1 h 7) (b := 6) (by omega) (by omega) q
          omega
        cases hp : plO g.1 h (nI f) with
        | none =>
          refine k_st (s' := adW g.1 h f) (r := nI (fP g.1 h 7 + 1)) (by unfold tWish; rw [if_pos c, if_pos c2, nN (show h < 2147483648 by omega), if_pos c3, hp, nN (show f < 2147483648 by omega)]) G (adW_inv hI hh hf c3 hp) ((G.1.2.up (by omega)).up (by omega)) ?_
          · obtain ⟨M1, e1, e2, e3⟩ := k_record G C
            have R1 : RS M1 1 g.1 := e2.1
            have w1' : M1 (17 + 2 * h) 1 = nI (fP g.1 h 7) := (R1.wc hh).trans l1
            have gA : Agr g.1 (adW g.1 h f) h := fun i _ _ _ _ hi => by
              unfold adW
              rw [ur_ne (by omega), ur_ne (by omega)]
            have fs : ∀ k, k < 7 → adW g.1 h f (30 + 14 * h + k) = g.1 (30 + 14 * h + k) := fun k hk => by
              unfold adW
              rw [ur_ne (by omega), ur_ne (by omega)]
            have e18 : 17 + 2 * h + 1 = 1 + 16 + 2 * h + 1 := by omega
            have e17 : 17 + 2 * h = 1 + 16 + 2 * h := by omega
            refine ⟨M1, up (up M1 (17 + 2 * h + 1) (fP g.1 h 7) (nI f)) (17 + 2 * h) 1 (nI (fP g.1 h 7 + 1)), ?_, e2, R1.hh hI (h := h) gA (fun q _ _ h1 h2 => by rw [up_ne (by omega), up_ne (by omega)]) ?_ (fun _ => ?_), fun q _ _ _ => by rw [up_ne (by omega), up_ne (by omega)], by rw [up_ne (by omega), up_ne (by omega)], fun q hq => by rw [up_ne (by omega), up_ne (by omega), e3 q (by omega)]⟩
            · unfold f_X7_wish f_X2_addWish
              rw [k_hasHousehold R hI, bd_s, c, if_neg bIne, k_hasFlat R hI, bd_s, c2, if_neg bIne, ck_t (inbN h12 (by omega)), nN (show h < 2147483648 by omega), w1, if_pos lt6, pl, bd_s, hp, if_pos (show oI none = -5 from rfl), e1, bd_s, w1', if_neg (n6 c3), ck_t (inbN c3 (by omega)), nN (by omega), lt_e, up_ne (show 17 + 2 * h ≠ 17 + 2 * h + 1 by omega), w1', lt_e, bd_s, show (nI (fP g.1 h 7) : Int32) + 1 = nI (fP g.1 h 7 + 1) from nI_1 _, up_same]
            · obtain ⟨⟨r0, r1, r2, r3, r4⟩, -⟩ := R1
              rw [up_ne (by omega), up_ne (by omega), show adW g.1 h f 2 = g.1 2 from by unfold adW; rw [ur_ne (by omega), ur_ne (by omega)], show adW g.1 h f 4 = g.1 4 from by unfold adW; rw [ur_ne (by omega), ur_ne (by omega)], show adW g.1 h f 5 = g.1 5 from by unfold adW; rw [ur_ne (by omega), ur_ne (by omega)]]
              exact ⟨rfl, rfl, r2, r3, r4⟩
            · obtain ⟨a1, a2, a3, a4, a5, a6, a7, a8, a9⟩ := R1.hr hh
              have e7 : fP (adW g.1 h f) h 7 = fP g.1 h 7 + 1 := by
                show (adW g.1 h f (30 + 14 * h + 7)).toNatClampNeg = _
                rw [show adW g.1 h f (30 + 14 * h + 7) = nI (fP g.1 h 7 + 1) from ur_eq, nN (by omega)]
              have en : noI (adW g.1 h f) h = noI g.1 h := by
                unfold noI drB fP
                rw [fs 2 (by omega)]
              have eh : hd (adW g.1 h f) h = hd g.1 h := fs 4 (by omega)
              unfold HR
              rw [eh, en, e7, e17, fs 0 (by omega), fs 1 (by omega), fs 3 (by omega), fs 5 (by omega), fs 6 (by omega)]
              have ot : ∀ k, k ≠ 1 → up (up M1 (1 + 16 + 2 * h + 1) (fP g.1 h 7) (nI f)) (1 + 16 + 2 * h) 1 (nI (fP g.1 h 7 + 1)) (1 + 16 + 2 * h) k = M1 (1 + 16 + 2 * h) k := fun k hk => by rw [up_other (by omega), up_ne (by omega)]
              rw [ot 2 (by omega), ot 3 (by omega), ot 4 (by omega), ot 5 (by omega), ot 6 (by omega), ot 7 (by omega), ot 8 (by omega), up_same]
              refine ⟨ur_eq.symm, a2, a3, a4, a5, a6, a7, a8, fun k hk => ?_⟩
              rw [up_ne (by omega)]
              by_cases e : k = fP g.1 h 7
              · rw [e, up_same]
                unfold adW
                rw [ur_ne (by omega), ur_eq]
              · rw [up_other (by omega)]
                unfold adW
                rw [ur_ne (by omega), ur_ne (by omega)]
                exact a9 k (by omega)
        | some p =>
          have := plO_lt hp
          refine k_q0 (r := -4) (by unfold tWish; rw [if_pos c, if_pos c2, nN (show h < 2147483648 by omega), if_pos c3, hp]) G C ?_
          · unfold f_X7_wish
            rw [k_hasHousehold R hI, bd_s, c, if_neg bIne, k_hasFlat R hI, bd_s, c2, if_neg bIne, ck_t (inbN h12 (by omega)), nN (show h < 2147483648 by omega), w1, if_pos lt6, pl, bd_s, hp, if_neg (show ¬ oI (some p) = -5 from nIne5 (by omega))]
      · have k6 : fP g.1 h 7 = 6 := by omega
        refine k_q0 (r := -3) (by unfold tWish; rw [if_pos c, if_pos c2, nN (show h < 2147483648 by omega), if_neg c3]) G C ?_
        · unfold f_X7_wish
          rw [k_hasHousehold R hI, bd_s, c, if_neg bIne, k_hasFlat R hI, bd_s, c2, if_neg bIne, ck_t (inbN h12 (by omega)), nN (show h < 2147483648 by omega), w1, if_neg (show ¬ nI (fP g.1 h 7) < (6 : Int32) from fun q => c3 ((nIlt (b := 6) (by omega) (by omega)).mp q))]
    · refine k_q0 (r := -1) (by unfold tWish; rw [if_pos c, if_neg c2]) G C ?_
      · unfold f_X7_wish
        rw [k_hasHousehold R hI, bd_s, c, if_neg bIne, k_hasFlat R hI, bd_s, if_pos (bIf c2)]
  · refine k_q0 (r := -1) (by unfold tWish; rw [if_neg c]) G C ?_
    · unfold f_X7_wish
      rw [k_hasHousehold R hI, bd_s, if_pos (bIf c)]
theorem st_unwish {M : Mem} {g : Gh} (G : GO g) (C : CL M g) (a b : Int32) : OkC M (f_X7_unwish a b) (tUnwish g a b) := by
  have hI := G.1.1
  have R := C.1
  have b0 := hI.h0l
  have b1 := hI.h1l
  by_cases c : inb a (nh g.1) = true
  · by_cases c2 : inb b (nf g.1) = true
    · obtain ⟨h, hh, rfl⟩ := inb_ex c (by omega)
      have h12 : h < 12 := by omega
      obtain ⟨⟨l1, l2⟩, -⟩ := hI.ls hh
      have pl : f_X2_placeOf (17 + 2 * h) b M = some (oI (plO g.1 h b), M) := k_placeOf R hI hh b
      cases hp : plO g.1 h b with
      | none =>
        refine k_q0 (r := -5) (by unfold tUnwish; rw [if_pos c, if_pos c2, nN (show h < 2147483648 by omega), hp]) G C ?_
        · unfold f_X7_unwish
          rw [k_hasHousehold R hI, bd_s, c, if_neg bIne, k_hasFlat R hI, bd_s, c2, if_neg bIne, ck_t (inbN h12 (by omega)), nN (show h < 2147483648 by omega), pl, bd_s, hp, if_pos (show oI none = -5 from rfl)]
      | some p =>
        have hpl := plO_lt hp
        have ne5 : ¬ oI (some p) = -5 := nIne5 (by omega)
        refine k_st (s' := rmW g.1 h p) (r := nI p) (by unfold tUnwish; rw [if_pos c, if_pos c2, nN (show h < 2147483648 by omega), hp]) G (rmW_inv hI hh hpl) (rmW_Zr hI G.1.2 hh hpl) ?_
        · obtain ⟨M1, e1, e2, e3⟩ := k_record G C
          obtain ⟨M2, f1, f2, f3⟩ := k_remove (show RS M1 1 g.1 from e2.1) hI hh hp
          refine ⟨M1, M2, ?_, e2, f2, fun q _ _ _ => f3 q (by omega) (by omega), by rw [f3 243 (by omega) (by omega)], fun q hq => by rw [f3 q (by omega) (by omega), e3 q (by omega)]⟩
          unfold f_X7_unwish
          rw [k_hasHousehold R hI, bd_s, c, if_neg bIne, k_hasFlat R hI, bd_s, c2, if_neg bIne, ck_t (inbN h12 (by omega)), nN (show h < 2147483648 by omega), pl, bd_s, hp, if_neg ne5, e1, bd_s, f1, bd_s]
          rfl
    · refine k_q0 (r := -1) (by unfold tUnwish; rw [if_pos c, if_neg c2]) G C ?_
      · unfold f_X7_unwish
        rw [k_hasHousehold R hI, bd_s, c, if_neg bIne, k_hasFlat R hI, bd_s, if_pos (bIf c2)]
  · refine k_q0 (r := -1) (by unfold tUnwish; rw [if_neg c]) G C ?_
    · unfold f_X7_unwish
      rw [k_hasHousehold R hI, bd_s, if_pos (bIf c)]
