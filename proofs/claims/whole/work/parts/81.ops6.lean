/-! a new flat, a new household -/
def adF (s : Row) (a b : Int32) : Row := ur (ur (ur s (6 + 2 * nf s) a) (6 + 2 * nf s + 1) b) 0 (nI (nf s + 1))
theorem adF_ne {s : Row} {a b : Int32} {i : Nat} (h0 : i ≠ 0) (h1 : i ≠ 6 + 2 * nf s) (h2 : i ≠ 6 + 2 * nf s + 1) : adF s a b i = s i := by
  unfold adF
  rw [ur_ne h0, ur_ne h2, ur_ne h1]
theorem adF_nf {s : Row} (h : nf s < 12) {a b : Int32} : nf (adF s a b) = nf s + 1 := by
  show (adF s a b 0).toNatClampNeg = _
  rw [show adF s a b 0 = nI (nf s + 1) from ur_eq, nN (by omega)]
theorem adF_nh {s : Row} (h : nf s < 12) {a b : Int32} : nh (adF s a b) = nh s := by
  unfold nh
  rw [adF_ne (by omega) (by omega) (by omega)]
theorem adF_inv {s : Row} (hI : Inv s) (hn : nf s < 12) {j k : Nat} (j1 : 1 ≤ j) (j2 : j ≤ 5) (k1 : 1 ≤ k) (k2 : k ≤ 999) : Inv (adF s (nI j) (nI k)) := by
  have hb : ∀ o i, i < 14 → adF s (nI j) (nI k) (30 + 14 * o + i) = s (30 + 14 * o + i) := fun o i hi => adF_ne (by omega) (by omega) (by omega)
  have ef : ∀ o i, i < 14 → fP (adF s (nI j) (nI k)) o i = fP s o i := fun o i hi => by
    unfold fP
    rw [hb o i hi]
  have eh : ∀ o, hd (adF s (nI j) (nI k)) o = hd s o := fun o => hb o 4 (by omega)
  refine ⟨⟨⟨?_, ?_⟩, ?_, ?_⟩, ⟨fun f hf => ?_, fun o ho => ⟨?_, ?_, ?_⟩⟩, ⟨fun a b ha hb2 hq hne => ?_, fun a b ha hb2 hq hne => ?_⟩, ?_⟩
  · rw [adF_nf hn]
    exact ur_eq
  · rw [adF_nf hn]
    omega
  · rw [adF_nh hn, adF_ne (by omega) (by omega) (by omega)]
    exact hI.h1
  · rw [adF_nh hn]
    exact hI.h1l
  · rw [adF_nf hn] at hf
    by_cases e : f = nf s
    · subst e
      have v1 : adF s (nI j) (nI k) (6 + 2 * nf s) = nI j := by
        unfold adF
        rw [ur_ne (by omega), ur_ne (by omega), ur_eq]
      have v2 : adF s (nI j) (nI k) (6 + 2 * nf s + 1) = nI k := by
        unfold adF
        rw [ur_ne (by omega), ur_eq]
      unfold FlOk rm rt
      rw [v1, v2, nN (by omega), nN (by omega)]
      exact ⟨⟨rfl, j1, j2⟩, rfl, k1, k2⟩
    · have := hI.fl (show f < nf s by omega)
      unfold FlOk rm rt at *
      rw [adF_ne (by omega) (by omega) (by omega), adF_ne (i := 6 + 2 * f + 1) (by omega) (by omega) (by omega)]
      exact this
  · rw [adF_nh hn] at ho
    exact (hI.nu ho).co (hb o)
  · rw [adF_nh hn] at ho
    obtain ⟨⟨l1, l2⟩, l3, l4⟩ := hI.ls ho
    have el : ∀ i, i < 6 → adF s (nI j) (nI k) (30 + 14 * o + 8 + i) = s (30 + 14 * o + 8 + i) := fun i hi => adF_ne (by omega) (by omega) (by omega)
    have ek : ∀ i, i < 6 → li (adF s (nI j) (nI k)) o i = li s o i := fun i hi => by
      unfold li
      rw [el i hi]
    unfold LsOk
    rw [ef o 7 (by omega), hb o 7 (by omega), adF_nf hn]
    refine ⟨⟨l1, l2⟩, fun i hi => ?_, fun i i' hi hi' hq => ?_⟩
    · rw [el i (by omega), ek i (by omega)]
      exact ⟨(l3 i hi).1, Nat.lt_succ_of_lt (l3 i hi).2⟩
    · rw [ek i (by omega), ek i' (by omega)] at hq
      exact l4 i i' hi hi' hq
  · rw [adF_nh hn] at ho
    unfold HdOk
    rw [eh, adF_nf hn]
    rcases hI.hdk ho with h1 | ⟨f, h1, h2⟩
    · exact Or.inl h1
    · exact Or.inr ⟨f, Nat.lt_succ_of_lt h1, h2⟩
  · rw [adF_nh hn] at ha hb2
    rw [eh, eh] at hq
    rw [eh] at hne
    exact hI.uh a b ha hb2 hq hne
  · rw [adF_nh hn] at ha hb2
    rw [ef a 2 (by omega)] at hq hne
    rw [ef b 2 (by omega)] at hq
    exact hI.un a b ha hb2 hq hne
  · rw [adF_nh hn, adF_ne (by omega) (by omega) (by omega), hI.2.2.2]
    congr 1
    exact sumN_congr (fun i _ => (ef i 5 (by omega)).symm)
theorem n12eq {k : Nat} (h : k ≤ 12) : nI k = (12 : Int32) ↔ k = 12 := nIeq (b := 12) (by omega) (by omega)
theorem n12lt {k : Nat} (h : k ≤ 12) : nI k < (12 : Int32) ↔ k < 12 := nIlt (b := 12) (by omega) (by omega)
theorem op_addFlat {M : Mem} {g : Gh} (G : GO g) (C : CL M g) (O : MO M g) (a b : Int32) : Ok Sim M (f_X7_addFlat a b) (f_X8_addFlat a b) := by
  have hI := G.1.1
  have R := C.1
  have b0 := hI.h0l
  by_cases c1 : (1 : Int32) ≤ a ∧ a ≤ 5
  · by_cases c2 : (1 : Int32) ≤ b ∧ b ≤ 999
    · by_cases c3 : nf g.1 < 12
      · obtain ⟨j, rfl, j1, j2⟩ := rng (n := 5) (by omega) c1
        obtain ⟨k, rfl, k1, k2⟩ := rng (n := 999) (by omega) c2
        refine ok_st (s' := adF g.1 (nI j) (nI k)) (r := nI (nf g.1)) G O (adF_inv hI c3 j1 j2 k1 k2) (((G.1.2.up (by omega)).up (by omega)).up (by omega)) ?_ (fun M0 h' => ?_)
        · obtain ⟨M1, e1, e2, e3⟩ := k_record G C
          have R1 := e2.1
          obtain ⟨⟨r0, r1, r2, r3, r4⟩, rf, rh⟩ := id R1
          have r0' : M1 1 2 = nI (nf g.1) := r0.trans hI.h0
          refine ⟨M1, up (up (up M1 (5 + nf g.1) 0 (nI j)) (5 + nf g.1) 1 (nI k)) 1 2 (nI (nf g.1 + 1)), ?_, e2, ⟨⟨?_, ?_, ?_, ?_, ?_⟩, fun f hf => ?_, fun o ho => ?_⟩, fun q _ _ _ => by rw [up_ne (by omega), up_ne (by omega), up_ne (by omega)], by rw [up_ne (by omega), up_ne (by omega), up_ne (by omega)], fun q hq => by rw [up_ne (by omega), up_ne (by omega), up_ne (by omega), e3 q (by omega)]⟩
          · unfold f_X7_addFlat
            rw [within_n, bd_s, decide_eq_true c1, if_neg bIne, within_n, bd_s, decide_eq_true c2, if_neg bIne, R.n0, hI.h0, if_pos ((n12lt b0).mpr c3), e1, bd_s, r0', ck_t (inbN c3 (by omega)), nN (by omega), lt_e, lt_e, up_ne (show 1 ≠ 5 + nf g.1 by omega), up_ne (show 1 ≠ 5 + nf g.1 by omega), r0', lt_e, show (nI (nf g.1) : Int32) + 1 = nI (nf g.1 + 1) from nI_1 _, up_same, show (1 : Int32) = nI 1 from rfl, pk_sub (by omega)]
            rfl
          · rw [up_same]
            exact ur_eq.symm
          · rw [up_other (by omega), up_ne (by omega), up_ne (by omega), adF_ne (by omega) (by omega) (by omega)]
            exact r1
          · rw [up_other (by omega), up_ne (by omega), up_ne (by omega), adF_ne (by omega) (by omega) (by omega)]
            exact r2
          · rw [up_other (by omega), up_ne (by omega), up_ne (by omega), adF_ne (by omega) (by omega) (by omega)]
            exact r3
          · rw [up_other (by omega), up_ne (by omega), up_ne (by omega), adF_ne (by omega) (by omega) (by omega)]
            exact r4
          · rw [adF_nf c3] at hf
            rw [up_ne (show 1 + 4 + f ≠ 1 by omega)]
            by_cases e : f = nf g.1
            · subst e
              have e5 : 1 + 4 + nf g.1 = 5 + nf g.1 := by omega
              rw [e5, up_same, up_other (by omega), up_same]
              unfold adF
              rw [ur_ne (by omega), ur_ne (by omega), ur_eq, ur_ne (by omega), ur_eq]
              exact ⟨rfl, rfl⟩
            · rw [up_ne (by omega), up_ne (by omega), adF_ne (by omega) (by omega) (by omega), adF_ne (i := 6 + 2 * f + 1) (by omega) (by omega) (by omega)]
              exact rf f (show f < nf g.1 by omega)
          · rw [adF_nh c3] at ho
            have b1 := hI.h1l
            exact (rh o ho).co (hI.ls ho).1.2 (fun i hi => adF_ne (by omega) (by omega) (by omega)) (by rw [up_ne (by omega), up_ne (by omega), up_ne (by omega)]) (by rw [up_ne (by omega), up_ne (by omega), up_ne (by omega)])
        · obtain ⟨M1, e1, e2, e3⟩ := records_n G h'
          have m0 : M0 256 0 = nI (nf g.1) := by rw [h'.1]; exact hI.h0
          have m1 : M1 256 0 = nI (nf g.1) := by rw [e2.1]; exact hI.h0
          refine ⟨M1, up (up (up M1 256 (6 + 2 * nf g.1) (nI j)) 256 (6 + 2 * nf g.1 + 1) (nI k)) 256 0 (nI (nf g.1 + 1)), ?_, e2, by rw [up_row, up_row, up_row, e2.1]; rfl, fun q _ _ => by rw [up_ne (by omega), up_ne (by omega), up_ne (by omega)], by rw [up_ne (by omega), up_ne (by omega), up_ne (by omega)]; exact ⟨rfl, rfl, rfl⟩, fun q hq => by rw [up_ne (by omega), up_ne (by omega), up_ne (by omega), e3 q (by omega) (by omega)]⟩
          unfold f_X8_addFlat
          rw [in_n, bd_s, decide_eq_true c1, if_neg bIne, in_n, bd_s, decide_eq_true c2, if_neg bIne, m0, if_neg (fun q => by have := (n12eq b0).mp q; omega), e1, bd_s, show (6 : Int32) = nI 6 from rfl, show (2 : Int32) = nI 2 from rfl, pk_mul, nI_add, ck_t (inbN (by omega) (by omega)), nN (show 6 + 2 * nf g.1 < 2147483648 by omega), lt_e, show (nI (6 + 2 * nf g.1) : Int32) + 1 = nI (6 + 2 * nf g.1 + 1) from nI_1 _, ck_t (inbN (by omega) (by omega)), nN (by omega), lt_e, up_other (show ¬ (256 = 256 ∧ 0 = 6 + 2 * nf g.1 + 1) by omega), up_other (show ¬ (256 = 256 ∧ 0 = 6 + 2 * nf g.1) by omega), m1, lt_e, show (nI (nf g.1) : Int32) + 1 = nI (nf g.1 + 1) from nI_1 _]
      · have k12 : nf g.1 = 12 := by omega
        refine ok_q0 (r := -3) G C O ?_ (fun M1 h' => ?_)
        · unfold f_X7_addFlat
          rw [within_n, bd_s, decide_eq_true c1, if_neg bIne, within_n, bd_s, decide_eq_true c2, if_neg bIne, R.n0, hI.h0, if_neg (fun q => c3 ((n12lt b0).mp q))]
        · unfold f_X8_addFlat
          rw [in_n, bd_s, decide_eq_true c1, if_neg bIne, in_n, bd_s, decide_eq_true c2, if_neg bIne, h'.1, hI.h0, if_pos ((n12eq b0).mpr k12)]
    · refine ok_q0 (r := -2) G C O ?_ (fun M1 h' => ?_)
      · unfold f_X7_addFlat
        rw [within_n, bd_s, decide_eq_true c1, if_neg bIne, within_n, bd_s, decide_eq_false c2, if_pos bI_f]
      · unfold f_X8_addFlat
        rw [in_n, bd_s, decide_eq_true c1, if_neg bIne, in_n, bd_s, decide_eq_false c2, if_pos bI_f]
  · refine ok_q0 (r := -2) G C O ?_ (fun M1 h' => ?_)
    · unfold f_X7_addFlat
      rw [within_n, bd_s, decide_eq_false c1, if_pos bI_f]
    · unfold f_X8_addFlat
      rw [in_n, bd_s, decide_eq_false c1, if_pos bI_f]
def zrB (s : Row) (n i : Nat) : Row := fun q => if 30 + 14 * n ≤ q ∧ q < 30 + 14 * n + i then 0 else s q
def adH (s : Row) (a b : Int32) : Row := ur (ur (ur (ur (zrB s (nh s) 14) (30 + 14 * nh s + 0) a) (30 + 14 * nh s + 1) b) (30 + 14 * nh s + 4) (-5)) 1 (nI (nh s + 1))
theorem adH_ne {s : Row} {a b : Int32} {i : Nat} (h1 : i ≠ 1) (h2 : i < 30 + 14 * nh s ∨ 30 + 14 * nh s + 14 ≤ i) : adH s a b i = s i := by
  unfold adH zrB
  rw [ur_ne h1, ur_ne (by omega), ur_ne (by omega), ur_ne (by omega), if_neg (by omega)]
theorem adH_new {s : Row} {a b : Int32} {k : Nat} (hk : k < 14) : adH s a b (30 + 14 * nh s + k) = if k = 0 then a else if k = 1 then b else if k = 4 then -5 else 0 := by
  unfold adH
  rw [ur_ne (by omega)]
  by_cases c4 : k = 4
  · subst c4
    rw [ur_eq]
    rfl
  · rw [ur_ne (by omega)]
    by_cases c1 : k = 1
    · subst c1
      rw [ur_eq]
      rfl
    · rw [ur_ne (by omega)]
      by_cases c0 : k = 0
      · subst c0
        rw [ur_eq]
        rfl
      · rw [ur_ne (by omega), if_neg c0, if_neg c1, if_neg c4]
        unfold zrB
        rw [if_pos (by omega)]
theorem adH_nh {s : Row} (h : nh s < 12) {a b : Int32} : nh (adH s a b) = nh s + 1 := by
  show (adH s a b 1).toNatClampNeg = _
  rw [show adH s a b 1 = nI (nh s + 1) from ur_eq, nN (by omega)]
theorem adH_nf {s : Row} {a b : Int32} : nf (adH s a b) = nf s := by
  unfold nf
  rw [adH_ne (by omega) (by omega)]
theorem adH_inv {s : Row} (hI : Inv s) (hn : nh s < 12) {j k : Nat} (j1 : 1 ≤ j) (j2 : j ≤ 9) (k2 : k ≤ 9999) : Inv (adH s (nI j) (nI k)) := by
  have hb : ∀ o i, o < nh s → i < 14 → adH s (nI j) (nI k) (30 + 14 * o + i) = s (30 + 14 * o + i) := fun o i ho hi => adH_ne (by omega) (by omega)
  have ef : ∀ o i, o < nh s → i < 14 → fP (adH s (nI j) (nI k)) o i = fP s o i := fun o i ho hi => by
    unfold fP
    rw [hb o i ho hi]
  have eh : ∀ o, o < nh s → hd (adH s (nI j) (nI k)) o = hd s o := fun o ho => hb o 4 ho (by omega)
  have nw : ∀ i, i < 14 → adH s (nI j) (nI k) (30 + 14 * nh s + i) = if i = 0 then nI j else if i = 1 then nI k else if i = 4 then -5 else 0 := fun i hi => adH_new hi
  have hn5 : hd (adH s (nI j) (nI k)) (nh s) = -5 := by
    unfold hd
    rw [nw 4 (by omega)]
    rfl
  have n2 : fP (adH s (nI j) (nI k)) (nh s) 2 = 0 := by
    unfold fP
    rw [nw 2 (by omega)]
    rfl
  have n3 : fP (adH s (nI j) (nI k)) (nh s) 3 = 0 := by
    unfold fP
    rw [nw 3 (by omega)]
    rfl
  have n5 : fP (adH s (nI j) (nI k)) (nh s) 5 = 0 := by
    unfold fP
    rw [nw 5 (by omega)]
    rfl
  have n7 : fP (adH s (nI j) (nI k)) (nh s) 7 = 0 := by
    unfold fP
    rw [nw 7 (by omega)]
    rfl
  have n0 : fP (adH s (nI j) (nI k)) (nh s) 0 = j := by
    unfold fP
    rw [nw 0 (by omega)]
    exact nN (by omega)
  have n1 : fP (adH s (nI j) (nI k)) (nh s) 1 = k := by
    unfold fP
    rw [nw 1 (by omega)]
    exact nN (by omega)
  refine ⟨⟨⟨?_, ?_⟩, ?_, ?_⟩, ⟨fun f hf => ?_, fun o ho => ?_⟩, ⟨fun a b ha hb2 hq hne => ?_, fun a b ha hb2 hq hne => ?_⟩, ?_⟩
  · rw [adH_nf, adH_ne (by omega) (by omega)]
    exact hI.h0
  · rw [adH_nf]
    exact hI.h0l
  · rw [adH_nh hn]
    exact ur_eq
  · rw [adH_nh hn]
    omega
  · rw [adH_nf] at hf
    have b0 := hI.h0l
    have := hI.fl hf
    unfold FlOk rm rt at *
    rw [adH_ne (by omega) (by omega), adH_ne (i := 6 + 2 * f + 1) (by omega) (by omega)]
    exact this
  · rw [adH_nh hn] at ho
    by_cases e : o = nh s
    · subst e
      refine ⟨?_, ?_, Or.inl hn5⟩
      · unfold NuOk
        rw [n0, n1, n2, n3, n5, nw 0 (by omega), nw 1 (by omega), nw 2 (by omega), nw 3 (by omega), nw 5 (by omega)]
        exact ⟨⟨rfl, j1, j2⟩, ⟨rfl, k2⟩, ⟨rfl, by omega⟩, ⟨rfl, by omega⟩, rfl, by omega⟩
      · unfold LsOk
        rw [n7, nw 7 (by omega)]
        exact ⟨⟨rfl, by omega⟩, fun i hi => absurd hi (Nat.not_lt_zero _), fun i i' hi => absurd hi (Nat.not_lt_zero _)⟩
    · have ho2 : o < nh s := by omega
      exact ⟨(hI.nu ho2).co (fun i hi => hb o i ho2 hi), (hI.ls ho2).co adH_nf (fun i hi => hb o i ho2 hi), (hI.hdk ho2).co adH_nf (hb o 4 ho2 (by omega))⟩
  · rw [adH_nh hn] at ha hb2
    by_cases ea : a = nh s
    · rw [ea] at hne
      exact absurd hn5 hne
    · by_cases eb : b = nh s
      · rw [eb, hn5] at hq
        exact absurd hq hne
      · rw [eh a (by omega), eh b (by omega)] at hq
        rw [eh a (by omega)] at hne
        exact hI.uh a b (by omega) (by omega) hq hne
  · rw [adH_nh hn] at ha hb2
    by_cases ea : a = nh s
    · rw [ea] at hne
      exact absurd n2 hne
    · by_cases eb : b = nh s
      · rw [eb, n2] at hq
        exact absurd hq hne
      · rw [ef a 2 (by omega) (by omega)] at hq hne
        rw [ef b 2 (by omega) (by omega)] at hq
        exact hI.un a b (by omega) (by omega) hq hne
  · rw [adH_nh hn, adH_ne (by omega) (by omega), hI.2.2.2]
    congr 1
    show _ = sumN (fun h => fP (adH s (nI j) (nI k)) h 5) (nh s) + fP (adH s (nI j) (nI k)) (nh s) 5
    rw [n5, Nat.add_zero]
    exact sumN_congr (fun i hi => (ef i 5 hi (by omega)).symm)
theorem zr_l {s : Row} {m : Nat} (hm : m < 12) (K : Mem → Option (Int32 × Mem)) : ∀ (c i n : Nat) (M : Mem), M 256 = zrB s m i → i + c = 14 → c < n → ∃ M', l_X8_addHousehold_42 (nI m) K n (nI i) M = K M' ∧ M' 256 = zrB s m 14 ∧ ∀ q, q ≠ 256 → M' q = M q := by
  intro c
  induction c with
  | zero =>
    intro i n M h hi hn
    obtain ⟨n, rfl⟩ : ∃ z, n = z + 1 := ⟨n - 1, by omega⟩
    refine ⟨M, ?_, by rw [h, show i = 14 by omega], fun _ _ => rfl⟩
    rw [l_X8_addHousehold_42_s, if_pos (show (14 : Int32) ≤ nI i by rw [show i = 14 by omega]; decide)]
  | succ c ih =>
    intro i n M h hi hn
    obtain ⟨n, rfl⟩ : ∃ z, n = z + 1 := ⟨n - 1, by omega⟩
    have n14 : ¬ (14 : Int32) ≤ nI i := fun q => absurd ((nIle (a := 14) (b := i) (by omega) (by omega)).mp q) (by omega)
    rw [l_X8_addHousehold_42_s, if_neg n14, puts_n (k := i) hm (by omega) rfl, bd_s, show (nI i : Int32) + 1 = nI (i + 1) from nI_1 i]
    obtain ⟨M', e1, e2, e3⟩ := ih (i + 1) n (up M 256 (30 + 14 * m + i) 0) (by
      rw [up_row, h]
      funext q
      show (if q = 30 + 14 * m + i then 0 else zrB s m i q) = zrB s m (i + 1) q
      unfold zrB
      by_cases c1 : q = 30 + 14 * m + i
      · rw [if_pos c1, if_pos (by omega)]
      · rw [if_neg c1]
        by_cases c2 : 30 + 14 * m ≤ q ∧ q < 30 + 14 * m + i
        · rw [if_pos c2, if_pos (by omega)]
        · rw [if_neg c2, if_neg (by omega)]) (by omega) (by omega)
    exact ⟨M', e1, e2, fun q hq => by rw [e3 q hq, up_ne hq]⟩
theorem op_addHousehold {M : Mem} {g : Gh} (G : GO g) (C : CL M g) (O : MO M g) (a b : Int32) : Ok Sim M (f_X7_addHousehold a b) (f_X8_addHousehold a b) := by
  have hI := G.1.1
  have R := C.1
  have b1 := hI.h1l
  by_cases c1 : (1 : Int32) ≤ a ∧ a ≤ 9
  · by_cases c2 : (1 : Int32) ≤ b ∧ b ≤ 9999
    · by_cases c3 : nh g.1 < 12
      · obtain ⟨j, rfl, j1, j2⟩ := rng (n := 9) (by omega) c1
        obtain ⟨k, rfl, k1, k2⟩ := rng (n := 9999) (by omega) c2
        have hZ : Zr (adH g.1 (nI j) (nI k)) := fun i hi => by
          rw [adH_ne (by omega) (by omega)]
          exact G.1.2 i hi
        refine ok_st (s' := adH g.1 (nI j) (nI k)) (r := nI (nh g.1)) G O (adH_inv hI c3 j1 j2 k2) hZ ?_ (fun M0 h' => ?_)
        · obtain ⟨M1, e1, e2, e3⟩ := k_record G C
          obtain ⟨⟨r0, r1, r2, r3, r4⟩, rf, rh⟩ := id e2.1
          have r1' : M1 1 3 = nI (nh g.1) := r1.trans hI.h1
          have hx : ∃ M2, f_X2_begin (17 + 2 * nh g.1) (nI j) (nI k) M1 = some (0, M2) ∧ (M2 (17 + 2 * nh g.1) 1 = 0 ∧ M2 (17 + 2 * nh g.1) 2 = nI j ∧ M2 (17 + 2 * nh g.1) 3 = nI k ∧ M2 (17 + 2 * nh g.1) 4 = -5 ∧ M2 (17 + 2 * nh g.1) 5 = 0 ∧ M2 (17 + 2 * nh g.1) 6 = -5 ∧ M2 (17 + 2 * nh g.1) 7 = 0 ∧ M2 (17 + 2 * nh g.1) 8 = 0) ∧ ∀ q, q ≠ 17 + 2 * nh g.1 → M2 q = M1 q := by
            unfold f_X2_begin
            rw [lt_e, lt_e, lt_e, lt_e, lt_e, lt_e, lt_e, lt_e]
            refine ⟨_, rfl, ?_, fun q hq => ?_⟩
            · simp (disch := omega) only [up_same, up_other]
              exact ⟨trivial, trivial, trivial, trivial, trivial, trivial, trivial, trivial⟩
            · simp only [up_ne hq]
          obtain ⟨M2, f1, ⟨f2, f3, f4, f5, f6, f7, f8, f9⟩, f10⟩ := hx
          have fr : ∀ q, q ≠ 1 → q ≠ 17 + 2 * nh g.1 → up M2 1 3 (nI (nh g.1 + 1)) q = M1 q := fun q h1 h2 => by rw [up_ne h1, f10 q h2]
          refine ⟨M1, up M2 1 3 (nI (nh g.1 + 1)), ?_, e2, ⟨⟨?_, ?_, ?_, ?_, ?_⟩, fun f hf => ?_, fun o ho => ?_⟩, fun q _ _ _ => fr q (by omega) (by omega), by rw [fr 243 (by omega) (by omega)], fun q hq => by rw [fr q (by omega) (by omega), e3 q (by omega)]⟩
          · unfold f_X7_addHousehold
            rw [within_n, bd_s, decide_eq_true c1, if_neg bIne, within_n, bd_s, decide_eq_true c2, if_neg bIne, R.n1, hI.h1, if_pos ((n12lt b1).mpr c3), e1, bd_s, r1', ck_t (inbN c3 (by omega)), nN (by omega), f1, bd_s, f10 1 (by omega), r1', lt_e, show (nI (nh g.1) : Int32) + 1 = nI (nh g.1 + 1) from nI_1 _, up_same, show (1 : Int32) = nI 1 from rfl, pk_sub (by omega)]
            rfl
          · rw [up_other (by omega), f10 1 (by omega), adH_ne (by omega) (by omega)]
            exact r0
          · rw [up_same]
            exact ur_eq.symm
          · rw [up_other (by omega), f10 1 (by omega), adH_ne (by omega) (by omega)]
            exact r2
          · rw [up_other (by omega), f10 1 (by omega), adH_ne (by omega) (by omega)]
            exact r3
          · rw [up_other (by omega), f10 1 (by omega), adH_ne (by omega) (by omega)]
            exact r4
          · rw [adH_nf] at hf
            have b0 := hI.h0l
            rw [fr (1 + 4 + f) (by omega) (by omega), adH_ne (by omega) (by omega), adH_ne (i := 6 + 2 * f + 1) (by omega) (by omega)]
            exact rf f hf
          · rw [adH_nh c3] at ho
            by_cases e : o = nh g.1
            · subst e
              have n2 : drB (adH g.1 (nI j) (nI k)) (nh g.1) = false := by
                unfold drB fP
                rw [adH_new (by omega)]
                rfl
              have n7 : fP (adH g.1 (nI j) (nI k)) (nh g.1) 7 = 0 := by
                unfold fP
                rw [adH_new (by omega)]
                rfl
              unfold HR noI hd
              rw [n2, n7, show 1 + 16 + 2 * nh g.1 = 17 + 2 * nh g.1 by omega, up_ne (by omega), f2, f3, f4, f5, f6, f7, f8, f9, adH_new (by omega), adH_new (by omega), adH_new (by omega), adH_new (by omega), adH_new (by omega), adH_new (by omega), adH_new (by omega)]
              exact ⟨rfl, rfl, rfl, rfl, rfl, rfl, rfl, ((adH_new (k := 6) (by omega)).trans rfl).symm, fun k hk => absurd hk (Nat.not_lt_zero _)⟩
            · have ho2 : o < nh g.1 := by omega
              exact (rh o ho2).co (hI.ls ho2).1.2 (fun i hi => adH_ne (by omega) (by omega)) (fr _ (by omega) (by omega)) (fr _ (by omega) (by omega))
        · obtain ⟨M1, e1, e2, e3⟩ := records_n G h'
          have m0 : M0 256 1 = nI (nh g.1) := by rw [h'.1]; exact hI.h1
          obtain ⟨M2, f1, f2, f3⟩ := zr_l (s := g.1) c3 (fun (M17 : Mem) => bd (f_X8_puts (nI (nh g.1)) (0) (nI j) M17) (fun r18 M19 => bd (f_X8_puts (nI (nh g.1)) (1) (nI k) M19) (fun r21 M22 => bd (f_X8_puts (nI (nh g.1)) (4) (-5) M22) (fun r24 M25 => lt_ (up M25 256 1 ((M25 256 1) + (1))) (fun M27 => some ((nI (nh g.1)), M27)))))) 14 0 LF M1 (by
            rw [e2.1]
            funext q
            unfold zrB
            rw [if_neg (by omega)]
            rfl) (by omega) (by unfold LF; omega)
          have m1 : zrB g.1 (nh g.1) 14 1 = nI (nh g.1) := by
            unfold zrB
            rw [if_neg (by omega)]
            exact hI.h1
          refine ⟨M1, up (up (up (up M2 256 (30 + 14 * nh g.1 + 0) (nI j)) 256 (30 + 14 * nh g.1 + 1) (nI k)) 256 (30 + 14 * nh g.1 + 4) (-5)) 256 1 (nI (nh g.1 + 1)), ?_, e2, by rw [up_row, up_row, up_row, up_row, f2]; rfl, fun q _ _ => by rw [up_ne (by omega), up_ne (by omega), up_ne (by omega), up_ne (by omega), f3 q (by omega)], by rw [up_ne (by omega), up_ne (by omega), up_ne (by omega), up_ne (by omega), f3 255 (by omega)]; exact ⟨rfl, rfl, rfl⟩, fun q hq => by rw [up_ne (by omega), up_ne (by omega), up_ne (by omega), up_ne (by omega), f3 q (by omega), e3 q (by omega) (by omega)]⟩
          unfold f_X8_addHousehold
          rw [isNumber_0, bd_s, decide_eq_true c1, if_neg bIne, isNumber_1, bd_s, decide_eq_true c2, if_neg bIne, m0, if_neg (fun q => by have := (n12eq b1).mp q; omega), e1, bd_s]
          refine Eq.trans f1 ?_
          show bd (f_X8_puts (nI (nh g.1)) (0) (nI j) M2) (fun r18 M19 => bd (f_X8_puts (nI (nh g.1)) (1) (nI k) M19) (fun r21 M22 => bd (f_X8_puts (nI (nh g.1)) (4) (-5) M22) (fun r24 M25 => lt_ (up M25 256 1 ((M25 256 1) + (1))) (fun M27 => some ((nI (nh g.1)), M27))))) = _
          rw [pu0 c3, bd_s, pu1 c3, bd_s, pu4 c3, bd_s, lt_e, up_other (show ¬ (256 = 256 ∧ 1 = 30 + 14 * nh g.1 + 4) by omega), up_other (show ¬ (256 = 256 ∧ 1 = 30 + 14 * nh g.1 + 1) by omega), up_other (show ¬ (256 = 256 ∧ 1 = 30 + 14 * nh g.1 + 0) by omega), f2, m1, show (nI (nh g.1) : Int32) + 1 = nI (nh g.1 + 1) from nI_1 _]
      · have k12 : nh g.1 = 12 := by omega
        refine ok_q0 (r := -3) G C O ?_ (fun M1 h' => ?_)
        · unfold f_X7_addHousehold
          rw [within_n, bd_s, decide_eq_true c1, if_neg bIne, within_n, bd_s, decide_eq_true c2, if_neg bIne, R.n1, hI.h1, if_neg (fun q => c3 ((n12lt b1).mp q))]
        · unfold f_X8_addHousehold
          rw [isNumber_0, bd_s, decide_eq_true c1, if_neg bIne, isNumber_1, bd_s, decide_eq_true c2, if_neg bIne, h'.1, hI.h1, if_pos ((n12eq b1).mpr k12)]
    · refine ok_q0 (r := -2) G C O ?_ (fun M1 h' => ?_)
      · unfold f_X7_addHousehold
        rw [within_n, bd_s, decide_eq_true c1, if_neg bIne, within_n, bd_s, decide_eq_false c2, if_pos bI_f]
      · unfold f_X8_addHousehold
        rw [isNumber_0, bd_s, decide_eq_true c1, if_neg bIne, isNumber_1, bd_s, decide_eq_false c2, if_pos bI_f]
  · refine ok_q0 (r := -2) G C O ?_ (fun M1 h' => ?_)
    · unfold f_X7_addHousehold
      rw [within_n, bd_s, decide_eq_false c1, if_pos bI_f]
    · unfold f_X8_addHousehold
      rw [isNumber_0, bd_s, decide_eq_false c1, if_pos bI_f]
