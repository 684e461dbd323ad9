/-! a wish is taken off -/
def rmP (s : Row) (h p i : Nat) : Row := fun q => if 30 + 14 * h + 8 + p ≤ q ∧ q < 30 + 14 * h + 8 + i then s (q + 1) else s q
def rmW (s : Row) (h p : Nat) : Row := ur (rmP s h p (fP s h 7 - 1)) (30 + 14 * h + 7) (nI (fP s h 7 - 1))
theorem rmW_ne {s : Row} {h p i : Nat} (hi : i < 30 + 14 * h + 7 ∨ 30 + 14 * h + 7 + fP s h 7 ≤ i) (h0 : 0 < fP s h 7) : rmW s h p i = s i := by
  unfold rmW rmP
  rw [ur_ne (by omega), if_neg (by omega)]
theorem rmW_7 {s : Row} {h p : Nat} : rmW s h p (30 + 14 * h + 7) = nI (fP s h 7 - 1) := ur_eq
theorem rmW_at {s : Row} {h p k : Nat} (hk : k < fP s h 7 - 1) : rmW s h p (30 + 14 * h + 8 + k) = s (30 + 14 * h + 8 + (if k < p then k else k + 1)) := by
  unfold rmW rmP
  rw [ur_ne (by omega)]
  by_cases c : k < p
  · rw [if_neg (by omega), if_pos c]
  · rw [if_pos (by omega), if_neg c, show 30 + 14 * h + 8 + k + 1 = 30 + 14 * h + 8 + (k + 1) by omega]
theorem rmW_agr {s : Row} (hI : Inv s) {h p : Nat} (hh : h < nh s) (hp : p < fP s h 7) : Agr s (rmW s h p) h := fun i _ _ _ _ hi => by
  have := (hI.ls hh).1.2
  exact rmW_ne (by omega) (by omega)
theorem rmW_Zr {s : Row} (hI : Inv s) (hZ : Zr s) {h p : Nat} (hh : h < nh s) (hp : p < fP s h 7) : Zr (rmW s h p) := fun i hi => by
  have := (hI.ls hh).1.2
  have b1 := hI.h1l
  rw [rmW_ne (by omega) (by omega)]
  exact hZ i hi
theorem rmW_c {s : Row} (hI : Inv s) {h p : Nat} (hh : h < nh s) : fP (rmW s h p) h 7 = fP s h 7 - 1 := by
  have := (hI.ls hh).1.2
  unfold fP
  rw [rmW_7, nN (by omega)]
  rfl
theorem rmW_inv {s : Row} (hI : Inv s) {h p : Nat} (hh : h < nh s) (hp : p < fP s h 7) : Inv (rmW s h p) := by
  have b0 := hI.h0l
  obtain ⟨⟨l1, l2⟩, l3, l4⟩ := hI.ls hh
  have g := rmW_agr hI hh hp
  have fs : ∀ k, k < 7 → rmW s h p (30 + 14 * h + k) = s (30 + 14 * h + k) := fun k hk => rmW_ne (by omega) (by omega)
  have e7 : fP (rmW s h p) h 7 = fP s h 7 - 1 := rmW_c hI hh
  have el : ∀ k, k < fP s h 7 - 1 → li (rmW s h p) h k = li s h (if k < p then k else k + 1) := fun k hk => by
    unfold li
    rw [rmW_at hk]
  refine hI.hh g hh ((hI.nu hh).co2 (fun k hk _ => fs k (by omega))) ?_ ((hI.hdk hh).co g.xnf (fs 4 (by omega))) ?_ ?_ ?_
  · unfold LsOk
    rw [e7, g.xnf]
    refine ⟨⟨rmW_7, by omega⟩, fun k hk => ?_, fun k k' hk hk' hq => ?_⟩
    · rw [rmW_at hk, el k hk]
      exact l3 _ (by split <;> omega)
    · rw [el k hk, el k' hk'] at hq
      have := l4 _ _ (by split <;> omega) (by split <;> omega) hq
      by_cases c1 : k < p
      · by_cases c2 : k' < p
        · rw [if_pos c1, if_pos c2] at this
          exact this
        · rw [if_pos c1, if_neg c2] at this
          omega
      · by_cases c2 : k' < p
        · rw [if_neg c1, if_pos c2] at this
          omega
        · rw [if_neg c1, if_neg c2] at this
          omega
  · unfold hd
    rw [fs 4 (by omega)]
    exact fun h1 o ho he hq => he (hI.uh o h ho hh hq (by rw [show hd s o = hd s h from hq]; exact h1))
  · have e2 : fP (rmW s h p) h 2 = fP s h 2 := by
      unfold fP
      rw [fs 2 (by omega)]
    rw [e2]
    exact fun h1 o ho he hq => he (hI.un o h ho hh hq (by rw [hq]; exact h1))
  · rw [rmW_ne (by omega) (by omega), hI.2.2.2]
    congr 1
    refine sumN_congr (fun i _ => ?_)
    by_cases c : i = h
    · subst c
      unfold fP
      rw [fs 5 (by omega)]
    · exact (g.xfP c (by omega)).symm
theorem takesOff_l {s : Row} (hI : Inv s) {h p : Nat} (hh : h < nh s) (hp : p < fP s h 7) : ∀ (d i n : Nat) (M : Mem), p ≤ i → i + d = fP s h 7 - 1 → d < n → M 256 = rmP s h p i → ∃ M', l_X8_takesOff_13 (nI h) (nI (fP s h 7 - 1)) n (nI i) M = some (0, M') ∧ M' 256 = rmW s h p ∧ ∀ q, q ≠ 256 → M' q = M q := by
  have b1 := hI.h1l
  have l2 := (hI.ls hh).1.2
  intro d
  induction d with
  | zero =>
    intro i n M hpi hi hn h256
    obtain ⟨n, rfl⟩ : ∃ z, n = z + 1 := ⟨n - 1, by omega⟩
    refine ⟨up M 256 (30 + 14 * h + 7) (nI (fP s h 7 - 1)), ?_, ?_, fun q hq => up_ne hq⟩
    · rw [l_X8_takesOff_13_s, if_pos ((nIle (by omega) (by omega)).mpr (by omega)), pu7 (by omega), bd_s]
    · rw [up_row, h256, show i = fP s h 7 - 1 by omega]
      rfl
  | succ d ih =>
    intro i n M hpi hi hn h256
    obtain ⟨n, rfl⟩ : ∃ z, n = z + 1 := ⟨n - 1, by omega⟩
    rw [l_X8_takesOff_13_s, if_neg (fun q => absurd ((nIle (by omega) (by omega)).mp q) (by omega)), show (8 : Int32) + nI i = nI (8 + i) from nI_add 8 i, show (nI (8 + i) : Int32) + 1 = nI (8 + i + 1) from nI_1 _, of_n (k := 8 + i + 1) (by omega) (by omega) rfl, bd_s, puts_n (k := 8 + i) (by omega) (by omega) rfl, bd_s, show (nI i : Int32) + 1 = nI (i + 1) from nI_1 i]
    obtain ⟨M', e1, e2, e3⟩ := ih (i + 1) n (up M 256 (30 + 14 * h + (8 + i)) (M 256 (30 + 14 * h + (8 + i + 1)))) (by omega) (by omega) (by omega) (by
      rw [up_row, h256]
      funext q
      show (if q = 30 + 14 * h + (8 + i) then rmP s h p i (30 + 14 * h + (8 + i + 1)) else rmP s h p i q) = rmP s h p (i + 1) q
      unfold rmP
      by_cases c1 : q = 30 + 14 * h + (8 + i)
      · rw [if_pos c1, if_neg (by omega), if_pos (by omega), c1]
        rfl
      · rw [if_neg c1]
        by_cases c2 : 30 + 14 * h + 8 + p ≤ q ∧ q < 30 + 14 * h + 8 + i
        · rw [if_pos c2, if_pos (by omega)]
        · rw [if_neg c2, if_neg (by omega)])
    exact ⟨M', e1, e2, fun q hq => by rw [e3 q hq, up_ne hq]⟩
theorem takesOff_n {M : Mem} {h p : Nat} {s : Row} (hM : M 256 = s) (hI : Inv s) (hh : h < nh s) (hp : p < fP s h 7) : ∃ M', f_X8_takesOff (nI h) (nI p) M = some (0, M') ∧ M' 256 = rmW s h p ∧ ∀ q, q ≠ 256 → M' q = M q := by
  have b1 := hI.h1l
  obtain ⟨⟨l1, l2⟩, -⟩ := hI.ls hh
  unfold f_X8_takesOff
  rw [of7 (by omega), bd_s, hM, l1, show (1 : Int32) = nI 1 from rfl, pk_sub (by omega)]
  exact takesOff_l hI hh hp (fP s h 7 - 1 - p) p LF M (Nat.le_refl _) (by omega) (by unfold LF; omega) (by
    rw [hM]
    funext q
    unfold rmP
    rw [if_neg (by omega)])
theorem k_remove_l {g c p : Nat} (hc : c ≤ 6) (hp : p < c) : ∀ (d i n : Nat) (M : Mem), p < i → i + d = c → d < n → M g 1 = nI c → ∃ M', l_X2_removeWish_17 g n (nI i) M = some (0, M') ∧ M' g 1 = nI (c - 1) ∧ (∀ k, k ≠ 1 → M' g k = M g k) ∧ (∀ k, k < i - 1 → M' (g + 1) k = M (g + 1) k) ∧ (∀ k, i - 1 ≤ k → k < c - 1 → M' (g + 1) k = M (g + 1) (k + 1)) ∧ ∀ q, q ≠ g → q ≠ g + 1 → M' q = M q := by
  intro d
  induction d with
  | zero =>
    intro i n M hpi hi hn h1
    obtain ⟨n, rfl⟩ : ∃ z, n = z + 1 := ⟨n - 1, by omega⟩
    refine ⟨up M g 1 (nI (c - 1)), ?_, up_same, fun k hk => up_other (fun q => hk q.2), fun k _ => by rw [up_ne (by omega)], fun k a b => by omega, fun q hq _ => up_ne hq⟩
    rw [l_X2_removeWish_17_s, h1, if_pos ((nIle (by omega) (by omega)).mpr (by omega)), lt_e, show (1 : Int32) = nI 1 from rfl, pk_sub (by omega)]
  | succ d ih =>
    intro i n M hpi hi hn h1
    obtain ⟨n, rfl⟩ : ∃ z, n = z + 1 := ⟨n - 1, by omega⟩
    rw [l_X2_removeWish_17_s, h1, if_neg (fun q => absurd ((nIle (by omega) (by omega)).mp q) (by omega)), ck_t (inbN (by omega) (by omega)), show (nI i : Int32) + 1 = nI (i + 1) from nI_1 i, show (1 : Int32) = nI 1 from rfl, pk_sub (by omega), ck_t (inbN (by omega) (by omega)), nN (show i < 2147483648 by omega), nN (by omega), lt_e]
    obtain ⟨M', e1, e2, e3, e4, e5, e6⟩ := ih (i + 1) n (up M (g + 1) (i - 1) (M (g + 1) i)) (by omega) (by omega) (by omega) (by rw [up_ne (by omega)]; exact h1)
    refine ⟨M', e1, e2, fun k hk => by rw [e3 k hk, up_ne (by omega)], fun k hk => by rw [e4 k (by omega), up_other (by omega)], fun k k1 k2 => ?_, fun q h1 h2 => by rw [e6 q h1 h2, up_ne h2]⟩
    by_cases e : k = i - 1
    · subst e
      rw [e4 (i - 1) (by omega), up_same, show i - 1 + 1 = i by omega]
    · rw [e5 k (by omega) k2, up_other (by omega)]
theorem k_remove {M : Mem} {s : Row} (R : RS M 1 s) (hI : Inv s) {h p : Nat} (hh : h < nh s) {x : Int32} (hp : plO s h x = some p) : ∃ M', f_X2_removeWish (17 + 2 * h) x M = some (0, M') ∧ RS M' 1 (rmW s h p) ∧ ∀ q, q ≠ 17 + 2 * h → q ≠ 17 + 2 * h + 1 → M' q = M q := by
  have b1 := hI.h1l
  obtain ⟨⟨l1, l2⟩, -⟩ := hI.ls hh
  have hpl := plO_lt hp
  have pl : f_X2_placeOf (17 + 2 * h) x M = some (oI (plO s h x), M) := k_placeOf R hI hh x
  have w1 : M (17 + 2 * h) 1 = nI (fP s h 7) := (R.wc hh).trans l1
  unfold f_X2_removeWish
  rw [pl, bd_s, hp, if_neg (show ¬ oI (some p) = -5 from nIne5 (by omega)), show oI (some p) + 1 = nI (p + 1) from nI_1 p]
  obtain ⟨M', e1, e2, e3, e4, e5, e6⟩ := k_remove_l (g := 17 + 2 * h) (c := fP s h 7) (p := p) l2 hpl (fP s h 7 - (p + 1)) (p + 1) LF M (by omega) (by omega) (by unfold LF; omega) w1
  refine ⟨M', e1, R.hh hI (h := h) (rmW_agr hI hh hpl) (fun q _ _ h1 h2 => e6 q (by omega) (by omega)) ?_ (fun _ => ?_), e6⟩
  · obtain ⟨⟨r0, r1, r2, r3, r4⟩, -⟩ := R
    rw [e6 1 (by omega) (by omega), rmW_ne (by omega) (by omega), rmW_ne (by omega) (by omega), rmW_ne (by omega) (by omega)]
    exact ⟨rfl, rfl, r2, r3, r4⟩
  · obtain ⟨a1, a2, a3, a4, a5, a6, a7, a8, a9⟩ := R.hr hh
    have fs : ∀ k, k < 7 → rmW s h p (30 + 14 * h + k) = s (30 + 14 * h + k) := fun k hk => rmW_ne (by omega) (by omega)
    have en : noI (rmW s h p) h = noI s h := by
      unfold noI drB fP
      rw [fs 2 (by omega)]
    have eh : hd (rmW s h p) h = hd s h := fs 4 (by omega)
    have e17 : 17 + 2 * h = 1 + 16 + 2 * h := by omega
    rw [e17] at e2 e3 e4 e5
    unfold HR
    rw [eh, en, rmW_c hI hh, fs 0 (by omega), fs 1 (by omega), fs 3 (by omega), fs 5 (by omega), fs 6 (by omega), e2, e3 2 (by omega), e3 3 (by omega), e3 4 (by omega), e3 5 (by omega), e3 6 (by omega), e3 7 (by omega), e3 8 (by omega)]
    refine ⟨rmW_7.symm, a2, a3, a4, a5, a6, a7, a8, fun k hk => ?_⟩
    rw [rmW_at hk]
    by_cases c : k < p
    · rw [if_pos c, e4 k (by omega)]
      exact a9 k (by omega)
    · rw [if_neg c, e5 k (by omega) hk]
      exact a9 (k + 1) (by omega)
theorem op_unwish {M : Mem} {g : Gh} (G : GO g) (C : CL M g) (O : MO M g) (a b : Int32) : Ok Sim M (f_X7_unwish a b) (f_X8_unwish a b) := by
  have hI := G.1.1
  have R := C.1
  have b0 := hI.h0l
  have b1 := hI.h1l
  by_cases c : inb a (nh g.1) = true
  · by_cases c2 : inb b (nf g.1) = true
    · obtain ⟨h, hh, rfl⟩ := inb_ex c (by omega)
      have h12 : h < 12 := by omega
      obtain ⟨⟨l1, l2⟩, -⟩ := hI.ls hh
      have pl : f_X2_placeOf (17 + 2 * h) b M = some (oI (plO g.1 h b), M) := k_placeOf R hI hh b
      cases hp : plO g.1 h b with
      | none =>
        refine ok_q0 (r := -5) G C O ?_ (fun M1 h' => ?_)
        · unfold f_X7_unwish
          rw [k_hasHousehold R hI, bd_s, c, if_neg bIne, k_hasFlat R hI, bd_s, c2, if_neg bIne, ck_t (inbN h12 (by omega)), nN (show h < 2147483648 by omega), pl, bd_s, hp, if_pos (show oI none = -5 from rfl)]
        · unfold f_X8_unwish
          rw [isHome_n (h'.inv G), bd_s, h'.1, c, if_neg bIne, isFlat_n (h'.inv G), bd_s, h'.1, c2, if_neg bIne, placeOn_n (h'.inv G) (by rw [h'.1]; exact hh), bd_s, h'.1, hp, if_pos (show oI none = -5 from rfl)]
      | some p =>
        have hpl := plO_lt hp
        have ne5 : ¬ oI (some p) = -5 := nIne5 (by omega)
        refine ok_st (s' := rmW g.1 h p) (r := nI p) G O (rmW_inv hI hh hpl) (rmW_Zr hI G.1.2 hh hpl) ?_ (fun M0 h' => ?_)
        · obtain ⟨M1, e1, e2, e3⟩ := k_record G C
          obtain ⟨M2, f1, f2, f3⟩ := k_remove (show RS M1 1 g.1 from e2.1) hI hh hp
          refine ⟨M1, M2, ?_, e2, f2, fun q _ _ _ => f3 q (by omega) (by omega), by rw [f3 243 (by omega) (by omega)], fun q hq => by rw [f3 q (by omega) (by omega), e3 q (by omega)]⟩
          unfold f_X7_unwish
          rw [k_hasHousehold R hI, bd_s, c, if_neg bIne, k_hasFlat R hI, bd_s, c2, if_neg bIne, ck_t (inbN h12 (by omega)), nN (show h < 2147483648 by omega), pl, bd_s, hp, if_neg ne5, e1, bd_s, f1, bd_s]
          rfl
        · obtain ⟨M1, e1, e2, e3⟩ := records_n G h'
          obtain ⟨M2, f1, f2, f3⟩ := takesOff_n (M := M1) (show M1 256 = g.1 from e2.1) hI hh hpl
          refine ⟨M1, M2, ?_, e2, f2, fun q _ _ => f3 q (by omega), by rw [f3 255 (by omega)]; exact ⟨rfl, rfl, rfl⟩, fun q hq => by rw [f3 q (by omega), e3 q (by omega) (by omega)]⟩
          unfold f_X8_unwish
          rw [isHome_n (h'.inv G), bd_s, h'.1, c, if_neg bIne, isFlat_n (h'.inv G), bd_s, h'.1, c2, if_neg bIne, placeOn_n (h'.inv G) (by rw [h'.1]; exact hh), bd_s, h'.1, hp, if_neg ne5, e1, bd_s, show oI (some p) = nI p from rfl, f1, bd_s]
    · refine ok_q0 (r := -1) G C O ?_ (fun M1 h => ?_)
      · unfold f_X7_unwish
        rw [k_hasHousehold R hI, bd_s, c, if_neg bIne, k_hasFlat R hI, bd_s, if_pos (bIf c2)]
      · unfold f_X8_unwish
        rw [isHome_n (h.inv G), bd_s, h.1, c, if_neg bIne, isFlat_n (h.inv G), bd_s, h.1, if_pos (bIf c2)]
  · refine ok_q0 (r := -1) G C O ?_ (fun M1 h => ?_)
    · unfold f_X7_unwish
      rw [k_hasHousehold R hI, bd_s, if_pos (bIf c)]
    · unfold f_X8_unwish
      rw [isHome_n (h.inv G), bd_s, h.1, if_pos (bIf c)]
