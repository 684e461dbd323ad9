/-! a wish more, a wish less -/
def adW (s : Row) (h f : Nat) : Row := ur (ur s (30 + 14 * h + 8 + fP s h 7) (nI f)) (30 + 14 * h + 7) (nI (fP s h 7 + 1))
theorem adW_inv {s : Row} (hI : Inv s) {h f : Nat} (hh : h < nh s) (hf : f < nf s) (hc : fP s h 7 < 6) (hp : plO s h (nI f) = none) : Inv (adW s h f) := by
  have b0 := hI.h0l
  obtain ⟨⟨l1, l2⟩, l3, l4⟩ := hI.ls hh
  have g : Agr s (adW s h f) h := fun i _ _ _ _ hi => by
    unfold adW
    rw [ur_ne (by omega), ur_ne (by omega)]
  have fs : ∀ k, k < 7 → adW s h f (30 + 14 * h + k) = s (30 + 14 * h + k) := fun k hk => by
    unfold adW
    rw [ur_ne (by omega), ur_ne (by omega)]
  have e7 : fP (adW s h f) h 7 = fP s h 7 + 1 := by
    show (adW s h f (30 + 14 * h + 7)).toNatClampNeg = _
    rw [show adW s h f (30 + 14 * h + 7) = nI (fP s h 7 + 1) from ur_eq, nN (by omega)]
  have ew : ∀ k, k < fP s h 7 → adW s h f (30 + 14 * h + 8 + k) = s (30 + 14 * h + 8 + k) := fun k hk => by
    unfold adW
    rw [ur_ne (by omega), ur_ne (by omega)]
  have en : adW s h f (30 + 14 * h + 8 + fP s h 7) = nI f := by
    unfold adW
    rw [ur_ne (by omega), ur_eq]
  have el : ∀ k, k < fP s h 7 → li (adW s h f) h k = li s h k := fun k hk => by
    unfold li
    rw [ew k hk]
  have eln : li (adW s h f) h (fP s h 7) = f := by
    unfold li
    rw [en, nN (by omega)]
  have hno : ∀ k, k < fP s h 7 → li s h k ≠ f := fun k hk q => by
    have := fstO_none.mp hp k (Nat.zero_le _) (by omega)
    refine (of_decide_eq_false this) ?_
    rw [(l3 k hk).1, q]
  refine hI.hh g hh ((hI.nu hh).co2 (fun k hk _ => fs k (by omega))) ?_ ((hI.hdk hh).co g.xnf (fs 4 (by omega))) ?_ ?_ ?_
  · unfold LsOk
    rw [e7, g.xnf]
    refine ⟨⟨ur_eq, by omega⟩, fun k hk => ?_, fun k k' hk hk' hq => ?_⟩
    · by_cases e : k = fP s h 7
      · rw [e, en, eln]
        exact ⟨rfl, hf⟩
      · rw [ew k (by omega), el k (by omega)]
        exact l3 k (by omega)
    · by_cases e : k = fP s h 7
      · by_cases e' : k' = fP s h 7
        · omega
        · rw [e, eln, el k' (by omega)] at hq
          exact absurd hq.symm (hno k' (by omega))
      · by_cases e' : k' = fP s h 7
        · rw [e', eln, el k (by omega)] at hq
          exact absurd hq (hno k (by omega))
        · rw [el k (by omega), el k' (by omega)] at hq
          exact l4 k k' (by omega) (by omega) hq
  · unfold hd
    rw [fs 4 (by omega)]
    exact fun h1 o ho he hq => he (hI.uh o h ho hh hq (by rw [show hd s o = hd s h from hq]; exact h1))
  · unfold fP
    rw [fs 2 (by omega)]
    exact fun h1 o ho he hq => he (hI.un o h ho hh hq (by rw [show fP s o 2 = fP s h 2 from hq]; exact h1))
  · rw [show adW s h f 3 = s 3 from by unfold adW; rw [ur_ne (by omega), ur_ne (by omega)], hI.2.2.2]
    congr 1
    refine sumN_congr (fun i _ => ?_)
    by_cases c : i = h
    · subst c
      unfold fP
      rw [fs 5 (by omega)]
    · exact (g.xfP c (by omega)).symm
theorem op_wish {M : Mem} {g : Gh} (G : GO g) (C : CL M g) (O : MO M g) (a b : Int32) : Ok Sim M (f_X7_wish a b) (f_X8_wish a b) := by
  have hI := G.1.1
  have R := C.1
  have b0 := hI.h0l
  have b1 := hI.h1l
  by_cases c : inb a (nh g.1) = true
  · by_cases c2 : inb b (nf g.1) = true
    · obtain ⟨h, hh, rfl⟩ := inb_ex c (by omega)
      obtain ⟨f, hf, rfl⟩ := inb_ex c2 (by omega)
      have h12 : h < 12 := by omega
      obtain ⟨⟨l1, l2⟩, -⟩ := hI.ls hh
      have w1 : M (17 + 2 * h) 1 = nI (fP g.1 h 7) := (R.wc hh).trans l1
      have pl : f_X2_placeOf (17 + 2 * h) (nI f) M = some (oI (plO g.1 h (nI f)), M) := k_placeOf R hI hh (nI f)
      by_cases c3 : fP g.1 h 7 < 6
      · have lt6 : nI (fP g.1 h 7) < (6 : Int32) := (nIlt (b := 6) (by omega) (by omega)).mpr c3
        have ne6 : ¬ nI (fP g.1 h 7) = (6 : Int32) := fun q => by
          have := nI_inj (a := fP g.1 h 7) (b := 6) (by omega) (by omega) q
          omega
        cases hp : plO g.1 h (nI f) with
        | none =>
          refine ok_st (s' := adW g.1 h f) (r := nI (fP g.1 h 7 + 1)) G O (adW_inv hI hh hf c3 hp) ((G.1.2.up (by omega)).up (by omega)) ?_ (fun M0 h' => ?_)
          · obtain ⟨M1, e1, e2, e3⟩ := k_record G C
            have R1 : RS M1 1 g.1 := e2.1
            have w1' : M1 (17 + 2 * h) 1 = nI (fP g.1 h 7) := (R1.wc hh).trans l1
            have gA : Agr g.1 (adW g.1 h f) h := fun i _ _ _ _ hi => by
              unfold adW
              rw [ur_ne (by omega), ur_ne (by omega)]
            have fs : ∀ k, k < 7 → adW g.1 h f (30 + 14 * h + k) = g.1 (30 + 14 * h + k) := fun k hk => by
              unfold adW
              rw [ur_ne (by omega), ur_ne (by omega)]
            have e18 : 17 + 2 * h + 1 = 1 + 16 + 2 * h + 1 := by omega
            have e17 : 17 + 2 * h = 1 + 16 + 2 * h := by omega
            refine ⟨M1, up (up M1 (17 + 2 * h + 1) (fP g.1 h 7) (nI f)) (17 + 2 * h) 1 (nI (fP g.1 h 7 + 1)), ?_, e2, R1.hh hI (h := h) gA (fun q _ _ h1 h2 => by rw [up_ne (by omega), up_ne (by omega)]) ?_ (fun _ => ?_), fun q _ _ _ => by rw [up_ne (by omega), up_ne (by omega)], by rw [up_ne (by omega), up_ne (by omega)], fun q hq => by rw [up_ne (by omega), up_ne (by omega), e3 q (by omega)]⟩
            · unfold f_X7_wish f_X2_addWish
              rw [k_hasHousehold R hI, bd_s, c, if_neg bIne, k_hasFlat R hI, bd_s, c2, if_neg bIne, ck_t (inbN h12 (by omega)), nN (show h < 2147483648 by omega), w1, if_pos lt6, pl, bd_s, hp, if_pos (show oI none = -5 from rfl), e1, bd_s, w1', if_neg (n6 c3), ck_t (inbN c3 (by omega)), nN (by omega), lt_e, up_ne (show 17 + 2 * h ≠ 17 + 2 * h + 1 by omega), w1', lt_e, bd_s, show (nI (fP g.1 h 7) : Int32) + 1 = nI (fP g.1 h 7 + 1) from nI_1 _, up_same]
            · obtain ⟨⟨r0, r1, r2, r3, r4⟩, -⟩ := R1
              rw [up_ne (by omega), up_ne (by omega), show adW g.1 h f 2 = g.1 2 from by unfold adW; rw [ur_ne (by omega), ur_ne (by omega)], show adW g.1 h f 4 = g.1 4 from by unfold adW; rw [ur_ne (by omega), ur_ne (by omega)], show adW g.1 h f 5 = g.1 5 from by unfold adW; rw [ur_ne (by omega), ur_ne (by omega)]]
              exact ⟨rfl, rfl, r2, r3, r4⟩
            · obtain ⟨a1, a2, a3, a4, a5, a6, a7, a8, a9⟩ := R1.hr hh
              have e7 : fP (adW g.1 h f) h 7 = fP g.1 h 7 + 1 := by
                show (adW g.1 h f (30 + 14 * h + 7)).toNatClampNeg = _
                rw [show adW g.1 h f (30 + 14 * h + 7) = nI (fP g.1 h 7 + 1) from ur_eq, nN (by omega)]
              have en : noI (adW g.1 h f) h = noI g.1 h := by
                unfold noI drB fP
                rw [fs 2 (by omega)]
              have eh : hd (adW g.1 h f) h = hd g.1 h := fs 4 (by omega)
              unfold HR
              rw [eh, en, e7, e17, fs 0 (by omega), fs 1 (by omega), fs 3 (by omega), fs 5 (by omega), fs 6 (by omega)]
              have ot : ∀ k, k ≠ 1 → up (up M1 (1 + 16 + 2 * h + 1) (fP g.1 h 7) (nI f)) (1 + 16 + 2 * h) 1 (nI (fP g.1 h 7 + 1)) (1 + 16 + 2 * h) k = M1 (1 + 16 + 2 * h) k := fun k hk => by rw [up_other (by omega), up_ne (by omega)]
              rw [ot 2 (by omega), ot 3 (by omega), ot 4 (by omega), ot 5 (by omega), ot 6 (by omega), ot 7 (by omega), ot 8 (by omega), up_same]
              refine ⟨ur_eq.symm, a2, a3, a4, a5, a6, a7, a8, fun k hk => ?_⟩
              rw [up_ne (by omega)]
              by_cases e : k = fP g.1 h 7
              · rw [e, up_same]
                unfold adW
                rw [ur_ne (by omega), ur_eq]
              · rw [up_other (by omega)]
                unfold adW
                rw [ur_ne (by omega), ur_ne (by omega)]
                exact a9 k (by omega)
          · obtain ⟨M1, e1, e2, e3⟩ := records_n G h'
            refine ⟨M1, up (up M1 256 (30 + 14 * h + 8 + fP g.1 h 7) (nI f)) 256 (30 + 14 * h + 7) (nI (fP g.1 h 7 + 1)), ?_, e2, by rw [up_row, up_row, e2.1]; rfl, fun q _ _ => by rw [up_ne (by omega), up_ne (by omega)], by rw [up_ne (by omega), up_ne (by omega)]; exact ⟨rfl, rfl, rfl⟩, fun q hq => by rw [up_ne (by omega), up_ne (by omega), e3 q (by omega) (by omega)]⟩
            unfold f_X8_wish
            rw [isHome_n (h'.inv G), bd_s, h'.1, c, if_neg bIne, isFlat_n (h'.inv G), bd_s, h'.1, c2, if_neg bIne, of7 h12, bd_s, h'.1, l1, if_neg ne6, placeOn_n (h'.inv G) (by rw [h'.1]; exact hh), bd_s, h'.1, hp, if_pos (show oI none = -5 from rfl), e1, bd_s, show (8 : Int32) + nI (fP g.1 h 7) = nI (8 + fP g.1 h 7) from nI_add 8 _, puts_n (k := 8 + fP g.1 h 7) h12 (by omega) rfl, bd_s, show (nI (fP g.1 h 7) : Int32) + 1 = nI (fP g.1 h 7 + 1) from nI_1 _, pu7 h12, bd_s, show 30 + 14 * h + (8 + fP g.1 h 7) = 30 + 14 * h + 8 + fP g.1 h 7 by omega]
        | some p =>
          have := plO_lt hp
          refine ok_q0 (r := -4) G C O ?_ (fun M1 h' => ?_)
          · unfold f_X7_wish
            rw [k_hasHousehold R hI, bd_s, c, if_neg bIne, k_hasFlat R hI, bd_s, c2, if_neg bIne, ck_t (inbN h12 (by omega)), nN (show h < 2147483648 by omega), w1, if_pos lt6, pl, bd_s, hp, if_neg (show ¬ oI (some p) = -5 from nIne5 (by omega))]
          · unfold f_X8_wish
            rw [isHome_n (h'.inv G), bd_s, h'.1, c, if_neg bIne, isFlat_n (h'.inv G), bd_s, h'.1, c2, if_neg bIne, of7 h12, bd_s, h'.1, l1, if_neg ne6, placeOn_n (h'.inv G) (by rw [h'.1]; exact hh), bd_s, h'.1, hp, if_neg (show ¬ oI (some p) = -5 from nIne5 (by omega))]
      · have k6 : fP g.1 h 7 = 6 := by omega
        refine ok_q0 (r := -3) G C O ?_ (fun M1 h' => ?_)
        · unfold f_X7_wish
          rw [k_hasHousehold R hI, bd_s, c, if_neg bIne, k_hasFlat R hI, bd_s, c2, if_neg bIne, ck_t (inbN h12 (by omega)), nN (show h < 2147483648 by omega), w1, if_neg (show ¬ nI (fP g.1 h 7) < (6 : Int32) from fun q => c3 ((nIlt (b := 6) (by omega) (by omega)).mp q))]
        · unfold f_X8_wish
          rw [isHome_n (h'.inv G), bd_s, h'.1, c, if_neg bIne, isFlat_n (h'.inv G), bd_s, h'.1, c2, if_neg bIne, of7 h12, bd_s, h'.1, l1, if_pos (show nI (fP g.1 h 7) = (6 : Int32) by rw [k6]; rfl)]
    · refine ok_q0 (r := -1) G C O ?_ (fun M1 h => ?_)
      · unfold f_X7_wish
        rw [k_hasHousehold R hI, bd_s, c, if_neg bIne, k_hasFlat R hI, bd_s, if_pos (bIf c2)]
      · unfold f_X8_wish
        rw [isHome_n (h.inv G), bd_s, h.1, c, if_neg bIne, isFlat_n (h.inv G), bd_s, h.1, if_pos (bIf c2)]
  · refine ok_q0 (r := -1) G C O ?_ (fun M1 h => ?_)
    · unfold f_X7_wish
      rw [k_hasHousehold R hI, bd_s, if_pos (bIf c)]
    · unfold f_X8_wish
      rw [isHome_n (h.inv G), bd_s, h.1, if_pos (bIf c)]
