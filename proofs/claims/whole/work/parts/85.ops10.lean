/-! declining -/
def rmO (s : Row) (h : Nat) (x : Int32) : Row := match plO s h x with
  | none => s
  | some p => rmW s h p
theorem rmO_inv {s : Row} (hI : Inv s) (hZ : Zr s) {h : Nat} (hh : h < nh s) (x : Int32) : Inv (rmO s h x) ∧ Zr (rmO s h x) ∧ Agr s (rmO s h x) h ∧ ∀ k, k < 7 → rmO s h x (30 + 14 * h + k) = s (30 + 14 * h + k) := by
  unfold rmO
  cases hp : plO s h x with
  | none => exact ⟨hI, hZ, fun _ _ _ _ _ _ => rfl, fun _ _ => rfl⟩
  | some p =>
    have hpl := plO_lt hp
    exact ⟨rmW_inv hI hh hpl, rmW_Zr hI hZ hh hpl, rmW_agr hI hh hpl, fun k hk => rmW_ne (by omega) (by omega)⟩
theorem k_removeO {M : Mem} {s : Row} (R : RS M 1 s) (hI : Inv s) {h : Nat} (hh : h < nh s) (x : Int32) : ∃ M', f_X2_removeWish (17 + 2 * h) x M = some (0, M') ∧ RS M' 1 (rmO s h x) ∧ ∀ q, q ≠ 17 + 2 * h → q ≠ 17 + 2 * h + 1 → M' q = M q := by
  unfold rmO
  cases hp : plO s h x with
  | none =>
    have pl : f_X2_placeOf (17 + 2 * h) x M = some (oI (plO s h x), M) := k_placeOf R hI hh x
    refine ⟨M, ?_, R, fun _ _ _ => rfl⟩
    unfold f_X2_removeWish
    rw [pl, bd_s, hp, if_pos (show oI none = -5 from rfl)]
  | some p => exact k_remove R hI hh hp
theorem RS_ct {M : Mem} {s : Row} {k f : Nat} {v : Int32} (R : RS M 1 s) (hI : Inv s) (hkf : (k = 5 ∧ f = 4) ∨ (k = 6 ∧ f = 5)) : RS (up M 1 k v) 1 (ur s f v) := by
  have hb : ∀ o i, i < 14 → ur s f v (30 + 14 * o + i) = s (30 + 14 * o + i) := fun o i hi => ur_ne (by omega)
  obtain ⟨⟨r0, r1, r2, r3, r4⟩, rf, rh⟩ := R
  refine ⟨?_, fun j hf => ?_, fun o ho => ?_⟩
  · rcases hkf with ⟨rfl, rfl⟩ | ⟨rfl, rfl⟩
    · rw [up_other (by omega), up_other (by omega), up_other (by omega), up_same, up_other (by omega), ur_ne (by omega), ur_ne (by omega), ur_ne (by omega), ur_eq, ur_ne (by omega)]
      exact ⟨r0, r1, r2, rfl, r4⟩
    · rw [up_other (by omega), up_other (by omega), up_other (by omega), up_other (by omega), up_same, ur_ne (by omega), ur_ne (by omega), ur_ne (by omega), ur_ne (by omega), ur_eq]
      exact ⟨r0, r1, r2, r3, rfl⟩
  · rw [nf_ur (by omega)] at hf
    rw [up_ne (by omega), ur_ne (by omega), ur_ne (by omega)]
    exact rf j hf
  · rw [nh_ur (by omega)] at ho
    exact (rh o ho).co (hI.ls ho).1.2 (hb o) (up_ne (by omega)) (up_ne (by omega))
theorem Inv.pts {s : Row} (hI : Inv s) {h : Nat} (hh : h < nh s) {k : Nat} (hk : k ≤ 3 * fP s h 5) : Inv (ur s (30 + 14 * h + 3) (nI k)) := by
  obtain ⟨m, i, n, ⟨p1, p2⟩, q1, q2⟩ := hI.nu hh
  have e0 : ∀ j, j < 14 → j ≠ 3 → fP (ur s (30 + 14 * h + 3) (nI k)) h j = fP s h j := fun j _ hj => by
    unfold fP
    rw [ur_ne (by omega)]
  have e1 : fP (ur s (30 + 14 * h + 3) (nI k)) h 3 = k := by
    unfold fP
    rw [ur_eq, nN (by omega)]
  refine hI.hh (Agr.up (by omega)) hh ?_ ((hI.ls hh).co2 (nf_ur (by omega)) (fun j h7 hj => ur_ne (by omega))) ((hI.hdk hh).co (nf_ur (by omega)) (ur_ne (by omega))) ?_ ?_ ?_
  · unfold NuOk
    rw [e1, e0 0 (by omega) (by omega), e0 1 (by omega) (by omega), e0 2 (by omega) (by omega), e0 5 (by omega) (by omega), ur_eq, ur_ne (by omega), ur_ne (by omega), ur_ne (by omega), ur_ne (by omega)]
    exact ⟨m, i, n, ⟨rfl, hk⟩, q1, q2⟩
  · unfold hd
    rw [ur_ne (by omega)]
    exact fun h1 o ho he hq => he (hI.uh o h ho hh hq (by rw [show hd s o = hd s h from hq]; exact h1))
  · rw [e0 2 (by omega) (by omega)]
    exact fun h1 o ho he hq => he (hI.un o h ho hh hq (by rw [hq]; exact h1))
  · rw [ur_ne (by omega), hI.2.2.2]
    congr 1
    refine sumN_congr (fun i _ => ?_)
    unfold fP
    rw [ur_ne (by omega)]
theorem op_decline {M : Mem} {g : Gh} (G : GO g) (C : CL M g) (O : MO M g) (a : Int32) : Ok Sim M (f_X7_decline a) (f_X8_decline a) := by
  have hI := G.1.1
  have R := C.1
  have b1 := hI.h1l
  by_cases c : inb a (nh g.1) = true
  · obtain ⟨h, hh, rfl⟩ := inb_ex c (by omega)
    have h12 : h < 12 := by omega
    have hd1 : M (17 + 2 * h) 6 = hd g.1 h := R.hd hh
    by_cases c1 : hd g.1 h = -5
    · refine ok_q0 (r := -4) G C O ?_ (fun M1 h' => ?_)
      · unfold f_X7_decline
        rw [k_hasHousehold R hI, bd_s, c, if_neg bIne, ck_t (inbN h12 (by omega)), nN (by omega), hd1, if_pos c1]
      · unfold f_X8_decline
        rw [isHome_n (h'.inv G), bd_s, h'.1, c, if_neg bIne, of4 h12, bd_s, h'.1, if_pos c1]
    · have hI1 : Inv (ur g.1 (30 + 14 * h + 4) (-5)) := hI.give hh (Or.inl rfl) (fun q => absurd rfl q)
      have hZ1 : Zr (ur g.1 (30 + 14 * h + 4) (-5)) := G.1.2.up (by omega)
      have hh1 : h < nh (ur g.1 (30 + 14 * h + 4) (-5)) := by rw [nh_ur (by omega)]; exact hh
      obtain ⟨hI2, hZ2, A2, F2⟩ := rmO_inv hI1 hZ1 hh1 (hd g.1 h)
      have hh2 : h < nh (rmO (ur g.1 (30 + 14 * h + 4) (-5)) h (hd g.1 h)) := by rw [A2.xnh]; exact hh1
      obtain ⟨-, -, -, ⟨p1, p2⟩, q1, q2⟩ := hI.nu hh
      have pe : rmO (ur g.1 (30 + 14 * h + 4) (-5)) h (hd g.1 h) (30 + 14 * h + 3) = nI (fP g.1 h 3) := by
        rw [F2 3 (by omega), ur_ne (by omega)]
        exact p1
      have f5 : fP (rmO (ur g.1 (30 + 14 * h + 4) (-5)) h (hd g.1 h)) h 5 = fP g.1 h 5 := by
        unfold fP
        rw [F2 5 (by omega), ur_ne (by omega)]
      have d5 : rmO (ur g.1 (30 + 14 * h + 4) (-5)) h (hd g.1 h) 5 = g.1 5 := by
        unfold rmO
        cases hp : plO (ur g.1 (30 + 14 * h + 4) (-5)) h (hd g.1 h) with
        | none => exact ur_ne (by omega)
        | some p =>
          have := plO_lt hp
          show rmW _ h p 5 = _
          rw [rmW_ne (by omega) (by omega), ur_ne (by omega)]
      have hI3 := hI2.pts hh2 (k := fP g.1 h 3 - 1) (by rw [f5]; omega)
      generalize hs2 : rmO (ur g.1 (30 + 14 * h + 4) (-5)) h (hd g.1 h) = s2 at *
      refine ok_st (s' := ur (ur s2 (30 + 14 * h + 3) (nI (fP g.1 h 3 - 1))) 5 (g.1 5 + 1)) (r := hd g.1 h) G O (hI3.ag (fun i _ _ h5 => ur_ne h5)) ((hZ2.up (by omega)).up (by omega)) ?_ (fun M0 h' => ?_)
      · obtain ⟨M1, e1, e2, e3⟩ := k_record G C
        have R1 : RS (up M1 (17 + 2 * h) 6 (-5)) 1 (ur g.1 (30 + 14 * h + 4) (-5)) := RSw e2.1 hI
        obtain ⟨M2, f1, f2, f3⟩ := k_removeO R1 hI1 hh1 (hd g.1 h)
        rw [hs2] at f2
        have w5 : M2 (17 + 2 * h) 5 = nI (fP g.1 h 3) := by
          obtain ⟨-, -, -, -, a5, -⟩ := f2.hr hh2
          have a5' : M2 (17 + 2 * h) 5 = s2 (30 + 14 * h + 3) := a5
          rw [a5', pe]
        have hv : (if (nI (fP g.1 h 3) - 1) < (0 : Int32) then (0 : Int32) else (nI (fP g.1 h 3) - 1)) = nI (fP g.1 h 3 - 1) := by
          by_cases z : fP g.1 h 3 = 0
          · rw [z]
            rfl
          · rw [show (1 : Int32) = nI 1 from rfl, pk_sub (by omega), if_neg (nI_pos (by omega))]
        have R3 : RS (up M2 (17 + 2 * h) 5 (nI (fP g.1 h 3 - 1))) 1 (ur s2 (30 + 14 * h + 3) (nI (fP g.1 h 3 - 1))) := RS_num f2 hI2 (Or.inr (Or.inr (Or.inl ⟨rfl, rfl, rfl⟩)))
        have w6 : up M2 (17 + 2 * h) 5 (nI (fP g.1 h 3 - 1)) 1 6 = g.1 5 := by
          obtain ⟨-, -, -, -, r4⟩ := R3.1
          rw [r4, ur_ne (by omega), d5]
        refine ⟨M1, up (up M2 (17 + 2 * h) 5 (nI (fP g.1 h 3 - 1))) 1 6 (g.1 5 + 1), ?_, e2, RS_ct R3 hI3 (Or.inr ⟨rfl, rfl⟩), fun q _ _ _ => by rw [up_ne (by omega), up_ne (by omega), f3 q (by omega) (by omega), up_ne (by omega)], by rw [up_ne (by omega), up_ne (by omega), f3 243 (by omega) (by omega), up_ne (by omega)], fun q hq => by rw [up_ne (by omega), up_ne (by omega), f3 q (by omega) (by omega), up_ne (by omega), e3 q (by omega)]⟩
        unfold f_X7_decline
        rw [k_hasHousehold R hI, bd_s, c, if_neg bIne, ck_t (inbN h12 (by omega)), nN (by omega), hd1, if_neg c1, e1, bd_s, lt_e, f1, bd_s, w5, hv, lt_e, w6, lt_e]
      · obtain ⟨M1, e1, e2, e3⟩ := records_n G h'
        have m256 : up M1 256 (30 + 14 * h + 4) (-5) 256 = ur g.1 (30 + 14 * h + 4) (-5) := by rw [up_row, e2.1]; rfl
        have tail : ∀ N : Mem, N 256 = s2 → (∀ q, q ≠ 256 → N q = M1 q) → (bd (f_X8_of (nI h) 3 N) (fun r19 M20 => if r19 ≤ (0) then bd (f_X8_puts (nI h) (3) (0) M20) (fun r23 M24 => lt_ (up M24 256 5 ((M24 256 5) + (1))) (fun M26 => some (hd g.1 h, M26))) else bd (f_X8_puts (nI h) (3) (r19 - (1)) M20) (fun r27 M28 => lt_ (up M28 256 5 ((M28 256 5) + (1))) (fun M30 => some (hd g.1 h, M30))))) = some (hd g.1 h, up (up N 256 (30 + 14 * h + 3) (nI (fP g.1 h 3 - 1))) 256 5 (g.1 5 + 1)) := fun N hN _ => by
          rw [of3 h12, bd_s, hN, pe]
          by_cases z : fP g.1 h 3 = 0
          · rw [if_pos (by rw [z]; decide), pu3 h12, bd_s, lt_e, up_other (show ¬ (256 = 256 ∧ 5 = 30 + 14 * h + 3) by omega), hN, d5, z]
            rfl
          · rw [if_neg (fun q => by
              have := (nIle (a := fP g.1 h 3) (b := 0) (by omega) (by omega)).mp q
              omega), pu3 h12, bd_s, lt_e, up_other (show ¬ (256 = 256 ∧ 5 = 30 + 14 * h + 3) by omega), hN, d5, show (1 : Int32) = nI 1 from rfl, pk_sub (by omega)]
        have pick : ∃ N : Mem, f_X8_decline (nI h) M0 = some (hd g.1 h, up (up N 256 (30 + 14 * h + 3) (nI (fP g.1 h 3 - 1))) 256 5 (g.1 5 + 1)) ∧ N 256 = s2 ∧ ∀ q, q ≠ 256 → N q = M1 q := by
          unfold f_X8_decline
          rw [isHome_n (h'.inv G), bd_s, h'.1, c, if_neg bIne, of4 h12, bd_s, h'.1, if_neg c1, e1, bd_s, pu4 h12, bd_s, placeOn_n (by rw [m256]; exact hI1) (by rw [m256]; exact hh1), bd_s, m256]
          cases hp : plO (ur g.1 (30 + 14 * h + 4) (-5)) h (hd g.1 h) with
          | none =>
            have hN : up M1 256 (30 + 14 * h + 4) (-5) 256 = s2 := by
              rw [m256, ← hs2]
              unfold rmO
              rw [hp]
            rw [if_pos (show oI none = -5 from rfl)]
            exact ⟨_, tail _ hN (fun q hq => up_ne hq), hN, fun q hq => up_ne hq⟩
          | some p =>
            have hpl := plO_lt hp
            obtain ⟨N, f1, f2, f3⟩ := takesOff_n m256 hI1 hh1 hpl
            have hN : N 256 = s2 := by
              rw [f2, ← hs2]
              unfold rmO
              rw [hp]
            have l2 := (hI1.ls hh1).1.2
            rw [if_neg (show ¬ oI (some p) = -5 from nIne5 (by omega)), show oI (some p) = nI p from rfl, f1, bd_s]
            exact ⟨N, tail N hN (fun q hq => by rw [f3 q hq, up_ne hq]), hN, fun q hq => by rw [f3 q hq, up_ne hq]⟩
        obtain ⟨N, n1, n2, n3⟩ := pick
        exact ⟨M1, _, n1, e2, by rw [up_row, up_row, n2], fun q _ _ => by rw [up_ne (by omega), up_ne (by omega), n3 q (by omega)], by rw [up_ne (by omega), up_ne (by omega), n3 255 (by omega)]; exact ⟨rfl, rfl, rfl⟩, fun q hq => by rw [up_ne (by omega), up_ne (by omega), n3 q (by omega), e3 q (by omega) (by omega)]⟩
  · refine ok_q0 (r := -1) G C O ?_ (fun M1 h => ?_)
    · unfold f_X7_decline
      rw [k_hasHousehold R hI, bd_s, if_pos (bIf c)]
    · unfold f_X8_decline
      rw [isHome_n (h.inv G), bd_s, h.1, if_pos (bIf c)]
