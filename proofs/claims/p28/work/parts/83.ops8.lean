/-! a wish is taken off -/
def rmP (s : Row) (h p i : Nat) : Row := fun q => if 30 + 14 * h + 8 + p ≤ q ∧ q < 30 + 14 * h + 8 + i then s (q + 1) else s q
def rmW (s : Row) (h p : Nat) : Row := ur (rmP s h p (fP s h 7 - 1)) (30 + 14 * h + 7) (nI (fP s h 7 - 1))
theorem rmW_ne {s : Row} {h p i : Nat} (hi : i < 30 + 14 * h + 7 ∨ 30 + 14 * h + 7 + fP s h 7 ≤ i) (h0 : 0 < fP s h 7) : rmW s h p i = s i := by
  unfold rmW rmP
  rw [ur_ne (by omega), if_neg (by omega)]
theorem rmW_7 {s : Row} {h p : Nat} : rmW s h p (30 + 14 * h + 7) = nI (fP s h 7 - 1) := ur_eq
theorem rmW_at {s : Row} {h p k : Nat} (hk : k < fP s h 7 - 1) : rmW s h p (30 + 14 * h + 8 + k) = s (30 + 14 * h + 8 + (if k < p then k else k + 1)) := by
  unfold rmW rmP
  rw [ur_ne (by omega)]
  by_cases c : k < p
  · rw [if_neg (by omega), if_pos c]
  · rw [if_pos (by omega), if_neg c, show 30 + 14 * h + 8 + k + 1 = 30 + 14 * h + 8 + (k + 1) by omega]
theorem rmW_agr {s : Row} (hI : Inv s) {h p : Nat} (hh : h < nh s) (hp : p < fP s h 7) : Agr s (rmW s h p) h := fun i _ _ _ _ hi => by
  have := (hI.ls hh).1.2
  exact rmW_ne (by omega) (by omega)
theorem rmW_Zr {s : Row} (hI : Inv s) (hZ : Zr s) {h p : Nat} (hh : h < nh s) (hp : p < fP s h 7) : Zr (rmW s h p) := fun i hi => by
  have := (hI.ls hh).1.2
  have b1 := hI.h1l
  rw [rmW_ne (by omega) (by omega)]
  exact hZ i hi
theorem rmW_c {s : Row} (hI : Inv s) {h p : Nat} (hh : h < nh s) : fP (rmW s h p) h 7 = fP s h 7 - 1 := by
  have := (hI.ls hh).1.2
  unfold fP
  rw [rmW_7, nN (by omega)]
  rfl
theorem rmW_inv {s : Row} (hI : Inv s) {h p : Nat} (hh : h < nh s) (hp : p < fP s h 7) : Inv (rmW s h p) := by
  have b0 := hI.h0l
  obtain ⟨⟨l1, l2⟩, l3, l4⟩ := hI.ls hh
  have g := rmW_agr hI hh hp
  have fs : ∀ k, k < 7 → rmW s h p (30 + 14 * h + k) = s (30 + 14 * h + k) := fun k hk => rmW_ne (by omega) (by omega)
  have e7 : fP (rmW s h p) h 7 = fP s h 7 - 1 := rmW_c hI hh
  have el : ∀ k, k < fP s h 7 - 1 → li (rmW s h p) h k = li s h (if k < p then k else k + 1) := fun k hk => by
    unfold li
    rw [rmW_at hk]
  refine hI.hh g hh ((hI.nu hh).co2 (fun k hk _ => fs k (by omega))) ?_ ((hI.hdk hh).co g.xnf (fs 4 (by omega))) ?_ ?_ ?_
  · unfold LsOk
    rw [e7, g.xnf]
    refine ⟨⟨rmW_7, by omega⟩, fun k hk => ?_, fun k k' hk hk' hq => ?_⟩
    · rw [rmW_at hk, el k hk]
      exact l3 _ (by split <;> omega)
    · rw [el k hk, el k' hk'] at hq
      have := l4 _ _ (by split <;> omega) (by split <;> omega) hq
      by_cases c1 : k < p
      · by_cases c2 : k' < p
        · rw [if_pos c1, if_pos c2] at this
          exact this
        · rw [if_pos c1, if_neg c2] at this
          omega
      · by_cases c2 : k' < p
        · rw [if_neg c1, if_pos c2] at this
          omega
        · rw [if_neg c1, if_neg c2] at this
          omega
  · unfold hd
    rw [fs 4 (by omega)]
    exact fun h1 o ho he hq => he (hI.uh o h ho hh hq (by rw [show hd s o = hd s h from hq]; exact h1))
  · have e2 : fP (rmW s h p) h 2 = fP s h 2 := by
      unfold fP
      rw [fs 2 (by omega)]
    rw [e2]
    exact fun h1 o ho he hq => he (hI.un o h ho hh hq (by rw [hq]; exact h1))
  · rw [rmW_ne (by omega) (by omega), hI.2.2.2]
    congr 1
    refine sumN_congr (fun i _ => ?_)
    by_cases c : i = h
    · subst c
      unfold fP
      rw [fs 5 (by omega)]
    · exact (g.xfP c (by omega)).symm
theorem k_remove_l {g c p : Nat} (hc : c ≤ 6) (hp : p < c) : ∀ (d i n : Nat) (M : Mem), p < i → i + d = c → d < n → M g 1 = nI c → ∃ M', l_X2_removeWish_17 g n (nI i) M = some (0, M') ∧ M' g 1 = nI (c - 1) ∧ (∀ k, k ≠ 1 → M' g k = M g k) ∧ (∀ k, k < i - 1 → M' (g + 1) k = M (g + 1) k) ∧ (∀ k, i - 1 ≤ k → k < c - 1 → M' (g + 1) k = M (g + 1) (k + 1)) ∧ ∀ q, q ≠ g → q ≠ g + 1 → M' q = M q := by
  intro d
  induction d with
  | zero =>
    intro i n M hpi hi hn h1
    obtain ⟨n, rfl⟩ : ∃ z, n = z + 1 := ⟨n - 1, by omega⟩
    refine ⟨up M g 1 (nI (c - 1)), ?_, up_same, fun k hk => up_other (fun q => hk q.2), fun k _ => by rw [up_ne (by omega)], fun k a b => by omega, fun q hq _ => up_ne hq⟩
    rw [l_X2_removeWish_17_s, h1, if_pos ((nIle (by omega) (by omega)).mpr (by omega)), lt_e, show (1 : Int32) = nI 1 from rfl, pk_sub (by omega)]
  | succ d ih =>
    intro i n M hpi hi hn h1
    obtain ⟨n, rfl⟩ : ∃ z, n = z + 1 := ⟨n - 1, by omega⟩
    rw [l_X2_removeWish_17_s, h1, if_neg (fun q => absurd ((nIle (by omega) (by omega)).mp q) (by omega)), ck_t (inbN (by omega) (by omega)), show (nI i : Int32) + 1 = nI (i + 1) from nI_1 i, show (1 : Int32) = nI 1 from rfl, pk_sub (by omega), ck_t (inbN (by omega) (by omega)), nN (show i < 2147483648 by omega), nN (by omega), lt_e]
    obtain ⟨M', e1, e2, e3, e4, e5, e6⟩ := ih (i + 1) n (up M (g + 1) (i - 1) (M (g + 1) i)) (by omega) (by omega) (by omega) (by rw [up_ne (by omega)]; exact h1)
    refine ⟨M', e1, e2, fun k hk => by rw [e3 k hk, up_ne (by omega)], fun k hk => by rw [e4 k (by omega), up_other (by omega)], fun k k1 k2 => ?_, fun q h1 h2 => by rw [e6 q h1 h2, up_ne h2]⟩
    by_cases e : k = i - 1
    · subst e
      rw [e4 (i - 1) (by omega), up_same, show i - 1 + 1 = i by omega]
    · rw [e5 k (by omega) k2, up_other (by omega)]
theorem k_remove {M : Mem} {s : Row} (R : RS M 1 s) (hI : Inv s) {h p : Nat} (hh : h < nh s) {x : Int32} (hp : plO s h x = some p) : ∃ M', f_X2_removeWish (17 + 2 * h) x M = some (0, M') ∧ RS M' 1 (rmW s h p) ∧ ∀ q, q ≠ 17 + 2 * h → q ≠ 17 + 2 * h + 1 → M' q = M q := by
  have b1 := hI.h1l
  obtain ⟨⟨l1, l2⟩, -⟩ := hI.ls hh
  have hpl := plO_lt hp
  have pl : f_X2_placeOf (17 + 2 * h) x M = some (oI (plO s h x), M) := k_placeOf R hI hh x
  have w1 : M (17 + 2 * h) 1 = nI (fP s h 7) := (R.wc hh).trans l1
  unfold f_X2_removeWish
  rw [pl, bd_s, hp, if_neg (show ¬ oI (some p) = -5 from nIne5 (by omega)), show oI (some p) + 1 = nI (p + 1) from nI_1 p]
  obtain ⟨M', e1, e2, e3, e4, e5, e6⟩ := k_remove_l (g := 17 + 2 * h) (c := fP s h 7) (p := p) l2 hpl (fP s h 7 - (p + 1)) (p + 1) LF M (by omega) (by omega) (by unfold LF; omega) w1
  refine ⟨M', e1, R.hh hI (h := h) (rmW_agr hI hh hpl) (fun q _ _ h1 h2 => e6 q (by omega) (by omega)) ?_ (fun _ => ?_), e6⟩
  · obtain ⟨⟨r0, r1, r2, r3, r4⟩, -⟩ := R
    rw [e6 1 (by omega) (by omega), rmW_ne (by omega) (by omega), rmW_ne (by omega) (by omega), rmW_ne (by omega) (by omega)]
    exact ⟨rfl, rfl, r2, r3, r4⟩
  · obtain ⟨a1, a2, a3, a4, a5, a6, a7, a8, a9⟩ := R.hr hh
    have fs : ∀ k, k < 7 → rmW s h p (30 + 14 * h + k) = s (30 + 14 * h + k) := fun k hk => rmW_ne (by omega) (by omega)
    have en : noI (rmW s h p) h = noI s h := by
      unfold noI drB fP
      rw [fs 2 (by omega)]
    have eh : hd (rmW s h p) h = hd s h := fs 4 (by omega)
    have e17 : 17 + 2 * h = 1 + 16 + 2 * h := by omega
    rw [e17] at e2 e3 e4 e5
    unfold HR
    rw [eh, en, rmW_c hI hh, fs 0 (by omega), fs 1 (by omega), fs 3 (by omega), fs 5 (by omega), fs 6 (by omega), e2, e3 2 (by omega), e3 3 (by omega), e3 4 (by omega), e3 5 (by omega), e3 6 (by omega), e3 7 (by omega), e3 8 (by omega)]
    refine ⟨rmW_7.symm, a2, a3, a4, a5, a6, a7, a8, fun k hk => ?_⟩
    rw [rmW_at hk]
    by_cases c : k < p
    · rw [if_pos c, e4 k (by omega)]
      exact a9 k (by omega)
    · rw [if_neg c, e5 k (by omega) hk]
      exact a9 (k + 1) (by omega)
