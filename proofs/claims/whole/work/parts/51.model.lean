/-! THE REFERENCE's questions, over its row -/
theorem Inv.h0 {s : Row} (h : Inv s) : s 0 = nI (nf s) := h.1.1.1
theorem Inv.h0l {s : Row} (h : Inv s) : nf s ≤ 12 := h.1.1.2
theorem Inv.h1 {s : Row} (h : Inv s) : s 1 = nI (nh s) := h.1.2.1
theorem Inv.h1l {s : Row} (h : Inv s) : nh s ≤ 12 := h.1.2.2
theorem Inv.fl {s : Row} (h : Inv s) {f : Nat} (hf : f < nf s) : FlOk s f := h.2.1.1 f hf
theorem Inv.nu {s : Row} (h : Inv s) {k : Nat} (hk : k < nh s) : NuOk s k := (h.2.1.2 k hk).1
theorem Inv.ls {s : Row} (h : Inv s) {k : Nat} (hk : k < nh s) : LsOk s k := (h.2.1.2 k hk).2.1
theorem Inv.hdk {s : Row} (h : Inv s) {k : Nat} (hk : k < nh s) : HdOk s k := (h.2.1.2 k hk).2.2
theorem Inv.uh {s : Row} (h : Inv s) : ∀ a b, a < nh s → b < nh s → hd s a = hd s b → hd s a ≠ -5 → a = b := h.2.2.1.1
theorem Inv.un {s : Row} (h : Inv s) : ∀ a b, a < nh s → b < nh s → fP s a 2 = fP s b 2 → fP s a 2 ≠ 0 → a = b := h.2.2.1.2
theorem inb_ex {a : Int32} {n : Nat} (h : inb a n = true) (hn : n < 2147483648) : ∃ j, j < n ∧ a = nI j := by
  obtain ⟨j, h1, h2⟩ := vp_in_of (inb_in h) hn
  exact ⟨j, h1, h2⟩
theorem of_n {M : Mem} {h k : Nat} {c : Int32} (hh : h < 12) (hk : k < 14) (hc : nI k = c) : f_X8_of (nI h) c M = some (M 256 (30 + 14 * h + k), M) := by
  unfold f_X8_of
  rw [← hc, show (30 : Int32) = nI 30 from rfl, show (14 : Int32) = nI 14 from rfl, pk_mul, nI_add, nI_add, ck_t (inbN (by omega) (by omega)), nN (by omega)]
theorem puts_n {M : Mem} {h k : Nat} {c v : Int32} (hh : h < 12) (hk : k < 14) (hc : nI k = c) : f_X8_puts (nI h) c v M = some (0, up M 256 (30 + 14 * h + k) v) := by
  unfold f_X8_puts lt_
  rw [← hc, show (30 : Int32) = nI 30 from rfl, show (14 : Int32) = nI 14 from rfl, pk_mul, nI_add, nI_add, ck_t (inbN (by omega) (by omega)), nN (by omega)]
theorem of0 {M : Mem} {h : Nat} (hh : h < 12) : f_X8_of (nI h) 0 M = some (M 256 (30 + 14 * h + 0), M) := of_n hh (by decide) rfl
theorem of1 {M : Mem} {h : Nat} (hh : h < 12) : f_X8_of (nI h) 1 M = some (M 256 (30 + 14 * h + 1), M) := of_n hh (by decide) rfl
theorem of2 {M : Mem} {h : Nat} (hh : h < 12) : f_X8_of (nI h) 2 M = some (M 256 (30 + 14 * h + 2), M) := of_n hh (by decide) rfl
theorem of3 {M : Mem} {h : Nat} (hh : h < 12) : f_X8_of (nI h) 3 M = some (M 256 (30 + 14 * h + 3), M) := of_n hh (by decide) rfl
theorem of4 {M : Mem} {h : Nat} (hh : h < 12) : f_X8_of (nI h) 4 M = some (hd (M 256) h, M) := of_n hh (by decide) rfl
theorem of5 {M : Mem} {h : Nat} (hh : h < 12) : f_X8_of (nI h) 5 M = some (M 256 (30 + 14 * h + 5), M) := of_n hh (by decide) rfl
theorem of6 {M : Mem} {h : Nat} (hh : h < 12) : f_X8_of (nI h) 6 M = some (M 256 (30 + 14 * h + 6), M) := of_n hh (by decide) rfl
theorem of7 {M : Mem} {h : Nat} (hh : h < 12) : f_X8_of (nI h) 7 M = some (M 256 (30 + 14 * h + 7), M) := of_n hh (by decide) rfl
theorem pu0 {M : Mem} {h : Nat} {v : Int32} (hh : h < 12) : f_X8_puts (nI h) 0 v M = some (0, up M 256 (30 + 14 * h + 0) v) := puts_n hh (by decide) rfl
theorem pu1 {M : Mem} {h : Nat} {v : Int32} (hh : h < 12) : f_X8_puts (nI h) 1 v M = some (0, up M 256 (30 + 14 * h + 1) v) := puts_n hh (by decide) rfl
theorem pu2 {M : Mem} {h : Nat} {v : Int32} (hh : h < 12) : f_X8_puts (nI h) 2 v M = some (0, up M 256 (30 + 14 * h + 2) v) := puts_n hh (by decide) rfl
theorem pu3 {M : Mem} {h : Nat} {v : Int32} (hh : h < 12) : f_X8_puts (nI h) 3 v M = some (0, up M 256 (30 + 14 * h + 3) v) := puts_n hh (by decide) rfl
theorem pu4 {M : Mem} {h : Nat} {v : Int32} (hh : h < 12) : f_X8_puts (nI h) 4 v M = some (0, up M 256 (30 + 14 * h + 4) v) := puts_n hh (by decide) rfl
theorem pu5 {M : Mem} {h : Nat} {v : Int32} (hh : h < 12) : f_X8_puts (nI h) 5 v M = some (0, up M 256 (30 + 14 * h + 5) v) := puts_n hh (by decide) rfl
theorem pu6 {M : Mem} {h : Nat} {v : Int32} (hh : h < 12) : f_X8_puts (nI h) 6 v M = some (0, up M 256 (30 + 14 * h + 6) v) := puts_n hh (by decide) rfl
theorem pu7 {M : Mem} {h : Nat} {v : Int32} (hh : h < 12) : f_X8_puts (nI h) 7 v M = some (0, up M 256 (30 + 14 * h + 7) v) := puts_n hh (by decide) rfl
theorem rooms_n {M : Mem} {f : Nat} (hf : f < 12) : f_X8_rooms (nI f) M = some (M 256 (6 + 2 * f), M) := by
  unfold f_X8_rooms
  rw [show (6 : Int32) = nI 6 from rfl, show (2 : Int32) = nI 2 from rfl, pk_mul, nI_add, ck_t (inbN (by omega) (by omega)), nN (by omega)]
theorem rent_n {M : Mem} {f : Nat} (hf : f < 12) : f_X8_rent (nI f) M = some (M 256 (6 + 2 * f + 1), M) := by
  unfold f_X8_rent
  rw [show (6 : Int32) = nI 6 from rfl, show (2 : Int32) = nI 2 from rfl, show (1 : Int32) = nI 1 from rfl, pk_mul, nI_add, nI_add, ck_t (inbN (by omega) (by omega)), nN (by omega)]
theorem in_n {M : Mem} (a lo hi : Int32) : f_X8_in a lo hi M = some (bI (decide (lo ≤ a ∧ a ≤ hi)), M) := by
  unfold f_X8_in
  by_cases h1 : a < lo
  · rw [if_pos h1, decide_eq_false (fun q => absurd h1 (Int32.not_lt.mpr q.1))]
    rfl
  · rw [if_neg h1]
    by_cases h2 : hi < a
    · rw [if_pos h2, decide_eq_false (fun q => absurd h2 (Int32.not_lt.mpr q.2))]
      rfl
    · rw [if_neg h2, decide_eq_true ⟨Int32.not_lt.mp h1, Int32.not_lt.mp h2⟩]
      rfl
theorem in0 {a : Int32} {n : Nat} (hn : n ≤ 12) : decide ((0 : Int32) ≤ a ∧ a ≤ nI n - 1) = inb a n := by
  unfold inb
  have h : (nI n - 1).toInt = (n : Int) - 1 := pk_sub_toInt (b := 1) (by omega) (by omega)
  refine decide_eq_decide.mpr ?_
  rw [Int32.le_iff_toInt_le, Int32.le_iff_toInt_le, h, Int32.toInt_zero]
  constructor <;> rintro ⟨h1, h2⟩ <;> exact ⟨h1, by omega⟩
theorem isHome_n {M : Mem} (hI : Inv (M 256)) (a : Int32) : f_X8_isHome a M = some (bI (inb a (nh (M 256))), M) := by
  unfold f_X8_isHome
  rw [in_n, bd_s, hI.h1, in0 hI.h1l, ck_t (isb_bI _)]
theorem isFlat_n {M : Mem} (hI : Inv (M 256)) (a : Int32) : f_X8_isFlat a M = some (bI (inb a (nf (M 256))), M) := by
  unfold f_X8_isFlat
  rw [in_n, bd_s, hI.h0, in0 hI.h0l, ck_t (isb_bI _)]
theorem isNumber_0 {M : Mem} (a : Int32) : f_X8_isNumber 0 a M = some (bI (decide ((1 : Int32) ≤ a ∧ a ≤ 9)), M) := by
  unfold f_X8_isNumber
  rw [if_pos rfl, in_n, bd_s, ck_t (isb_bI _)]
theorem isNumber_1 {M : Mem} (a : Int32) : f_X8_isNumber 1 a M = some (bI (decide ((1 : Int32) ≤ a ∧ a ≤ 9999)), M) := by
  unfold f_X8_isNumber
  rw [if_neg (by decide), in_n, bd_s, ck_t (isb_bI _)]
theorem isEligible_n {M : Mem} (hI : Inv (M 256)) {h f : Nat} (hh : h < nh (M 256)) (hf : f < nf (M 256)) : f_X8_isEligible (nI h) (nI f) M = some (bI (elB (M 256) h f), M) := by
  have b1 := hI.h1l
  have b0 := hI.h0l
  obtain ⟨⟨r1, r2, r3⟩, r4, r5, r6⟩ := hI.fl hf
  obtain ⟨⟨m1, m2, m3⟩, ⟨i1, i2⟩, -⟩ := hI.nu hh
  unfold f_X8_isEligible
  rw [of0 (by omega), bd_s, rooms_n (by omega), bd_s, rooms_n (by omega), bd_s, rent_n (by omega), bd_s, of1 (by omega), bd_s, m1, r1, r4, i1]
  rw [show (2 : Int32) = nI 2 from rfl, show (1 : Int32) = nI 1 from rfl, show (3 : Int32) = nI 3 from rfl, pk_mul, nI_add, pk_mul]
  unfold elB
  by_cases c1 : 2 * rm (M 256) f < fP (M 256) h 0
  · rw [if_pos ((nIlt (by omega) (by omega)).mpr c1), decide_eq_false (by omega)]
    rfl
  · rw [if_neg (fun q => c1 ((nIlt (by omega) (by omega)).mp q))]
    by_cases c2 : fP (M 256) h 0 + 1 < rm (M 256) f
    · rw [if_pos ((nIlt (by omega) (by omega)).mpr c2), decide_eq_false (by omega)]
      rfl
    · rw [if_neg (fun q => c2 ((nIlt (by omega) (by omega)).mp q))]
      by_cases c3 : fP (M 256) h 1 < 3 * rt (M 256) f
      · rw [if_pos ((nIlt (by omega) (by omega)).mpr c3), decide_eq_false (by omega)]
        rfl
      · rw [if_neg (fun q => c3 ((nIlt (by omega) (by omega)).mp q)), decide_eq_true (by omega)]
        rfl
theorem placeOn_l {M : Mem} (hI : Inv (M 256)) {h : Nat} (hh : h < nh (M 256)) (x : Int32) : ∀ (d i n : Nat) (acc : Option Nat), i + d = fP (M 256) h 7 → d < n → l_X8_placeOn_6 (nI h) x n (oI acc) (nI i) M = some (oI (lstO (fun k => decide (M 256 (30 + 14 * h + 8 + k) = x)) i d acc), M) := by
  have b1 := hI.h1l
  obtain ⟨⟨l1, l2⟩, -⟩ := hI.ls hh
  intro d
  induction d with
  | zero =>
    intro i n acc hi hn
    obtain ⟨n, rfl⟩ : ∃ z, n = z + 1 := ⟨n - 1, by omega⟩
    rw [l_X8_placeOn_6_s, of7 (by omega), bd_s, l1, if_pos ((nIle (by omega) (by omega)).mpr (by omega))]
    rfl
  | succ d ih =>
    intro i n acc hi hn
    obtain ⟨n, rfl⟩ : ∃ z, n = z + 1 := ⟨n - 1, by omega⟩
    rw [l_X8_placeOn_6_s, of7 (by omega), bd_s, l1, if_neg (fun q => absurd ((nIle (by omega) (by omega)).mp q) (by omega)), show (8 : Int32) + nI i = nI (8 + i) from nI_add 8 i, of_n (k := 8 + i) (by omega) (by omega) rfl, bd_s, show (30 + 14 * h + (8 + i)) = 30 + 14 * h + 8 + i by omega]
    unfold lstO
    by_cases c : M 256 (30 + 14 * h + 8 + i) = x
    · rw [if_pos c, if_pos (decide_eq_true c), show (nI i : Int32) + 1 = nI (i + 1) from nI_1 i]
      exact ih (i + 1) n (some i) (by omega) (by omega)
    · rw [if_neg c, if_neg (fun q => c (of_decide_eq_true q)), show (nI i : Int32) + 1 = nI (i + 1) from nI_1 i]
      exact ih (i + 1) n acc (by omega) (by omega)
theorem lstO_none {p : Nat → Bool} {d i : Nat} (hu : ∀ j k, i ≤ j → j < i + d → i ≤ k → k < i + d → p j = true → p k = true → j = k) : lstO p i d none = fstO p i d := by
  rw [lstO_fst hu]
  cases fstO p i d <;> rfl
theorem placeOn_n {M : Mem} (hI : Inv (M 256)) {h : Nat} (hh : h < nh (M 256)) (x : Int32) : f_X8_placeOn (nI h) x M = some (oI (plO (M 256) h x), M) := by
  obtain ⟨⟨l1, l2⟩, l3, l4⟩ := hI.ls hh
  have b0 := hI.h0l
  unfold f_X8_placeOn
  have h1 := placeOn_l hI hh x (fP (M 256) h 7) 0 LF none (by omega) (by unfold LF; omega)
  rw [lstO_none (fun j k _ h2 _ h4 h5 h6 => ?_)] at h1
  · exact h1
  · have e5 := of_decide_eq_true h5
    have e6 := of_decide_eq_true h6
    rw [(l3 j (by omega)).1] at e5
    rw [(l3 k (by omega)).1] at e6
    have g1 := (l3 j (by omega)).2
    have g2 := (l3 k (by omega)).2
    exact l4 j k (by omega) (by omega) (nI_inj (by omega) (by omega) (e5.trans e6.symm))
theorem plO_lt {s : Row} {h k : Nat} {x : Int32} (hp : plO s h x = some k) : k < fP s h 7 := by
  have := (fstO_some hp).2.1
  omega
theorem plO_m5 {s : Row} (hI : Inv s) {h : Nat} (hh : h < nh s) : plO s h (-5) = none := by
  obtain ⟨-, l3, -⟩ := hI.ls hh
  have b0 := hI.h0l
  refine fstO_none.mpr (fun j _ h2 => decide_eq_false (fun q => ?_))
  obtain ⟨a1, a2⟩ := l3 j (by omega)
  rw [a1] at q
  exact nIne5 (by omega) q
theorem wishesMore_n {M : Mem} (hI : Inv (M 256)) {h : Nat} (hh : h < nh (M 256)) (x : Int32) : f_X8_wishesMore (nI h) x M = some (bI (wmB (M 256) h x), M) := by
  have b1 := hI.h1l
  obtain ⟨⟨l1, l2⟩, -⟩ := hI.ls hh
  unfold f_X8_wishesMore
  rw [placeOn_n hI hh, bd_s, of4 (by omega), bd_s]
  unfold wmB
  by_cases c : hd (M 256) h = -5
  · rw [if_pos c, c, plO_m5 hI hh]
    cases hp : plO (M 256) h x with
    | none => rfl
    | some k =>
      have := plO_lt hp
      show (if nI k = (-5 : Int32) then _ else _) = _
      rw [if_neg (nIne5 (by omega)), if_pos rfl]
      rfl
  · rw [if_neg c, of4 (by omega), bd_s, placeOn_n hI hh, bd_s]
    cases hp : plO (M 256) h x with
    | none => rfl
    | some k =>
      have := plO_lt hp
      show (if nI k = (-5 : Int32) then _ else _) = _
      rw [if_neg (nIne5 (by omega))]
      cases hq : plO (M 256) h (hd (M 256) h) with
      | none => rfl
      | some k' =>
        have := plO_lt hq
        show (if nI k' = (-5 : Int32) then _ else if nI k' ≤ nI k then _ else _) = _
        rw [if_neg (nIne5 (by omega))]
        by_cases c2 : k < k'
        · rw [if_neg (fun q => absurd ((nIle (by omega) (by omega)).mp q) (by omega))]
          show some (1, M) = some (bI (decide (k < k')), M)
          rw [decide_eq_true c2]
          rfl
        · rw [if_pos ((nIle (by omega) (by omega)).mpr (by omega))]
          show some (0, M) = some (bI (decide (k < k')), M)
          rw [decide_eq_false c2]
          rfl
theorem holder_l {M : Mem} (hI : Inv (M 256)) (x : Int32) : ∀ (d i n : Nat) (acc : Option Nat), i + d = nh (M 256) → d < n → l_X8_holder_5 x n (oI acc) (nI i) M = some (oI (lstO (fun h => decide (hd (M 256) h = x)) i d acc), M) := by
  have b1 := hI.h1l
  intro d
  induction d with
  | zero =>
    intro i n acc hi hn
    obtain ⟨n, rfl⟩ : ∃ z, n = z + 1 := ⟨n - 1, by omega⟩
    rw [l_X8_holder_5_s, hI.h1, if_pos ((nIle (by omega) (by omega)).mpr (by omega))]
    rfl
  | succ d ih =>
    intro i n acc hi hn
    obtain ⟨n, rfl⟩ : ∃ z, n = z + 1 := ⟨n - 1, by omega⟩
    rw [l_X8_holder_5_s, hI.h1, if_neg (fun q => absurd ((nIle (by omega) (by omega)).mp q) (by omega)), of4 (by omega), bd_s]
    unfold lstO
    by_cases c : hd (M 256) i = x
    · rw [if_pos c, if_pos (decide_eq_true c), show (nI i : Int32) + 1 = nI (i + 1) from nI_1 i]
      exact ih (i + 1) n (some i) (by omega) (by omega)
    · rw [if_neg c, if_neg (fun q => c (of_decide_eq_true q)), show (nI i : Int32) + 1 = nI (i + 1) from nI_1 i]
      exact ih (i + 1) n acc (by omega) (by omega)
theorem holder_n {M : Mem} (hI : Inv (M 256)) {f : Nat} (hf : f < 2147483648) : f_X8_holder (nI f) M = some (oI (hoO (M 256) (nI f)), M) := by
  have b1 := hI.h1l
  unfold f_X8_holder
  have h1 := holder_l hI (nI f) (nh (M 256)) 0 LF none (by omega) (by unfold LF; omega)
  rw [lstO_none (fun j k _ h2 _ h4 h5 h6 => ?_)] at h1
  · exact h1
  · have e5 := of_decide_eq_true h5
    have e6 := of_decide_eq_true h6
    exact hI.uh j k (by omega) (by omega) (e5.trans e6.symm) (by rw [e5]; exact nIne5 hf)
/-- a count over the households -/
theorem held_l {M : Mem} (hI : Inv (M 256)) : ∀ (d i n a : Nat), i + d = nh (M 256) → d < n → l_X8_held_4 n (nI a) (nI i) M = some (nI (a + cntN (fun h => decide (hd (M 256) h ≠ -5)) i d), M) := by
  have b1 := hI.h1l
  intro d
  induction d with
  | zero =>
    intro i n a hi hn
    obtain ⟨n, rfl⟩ : ∃ z, n = z + 1 := ⟨n - 1, by omega⟩
    rw [l_X8_held_4_s, hI.h1, if_pos ((nIle (by omega) (by omega)).mpr (by omega))]
    rfl
  | succ d ih =>
    intro i n a hi hn
    obtain ⟨n, rfl⟩ : ∃ z, n = z + 1 := ⟨n - 1, by omega⟩
    rw [l_X8_held_4_s, hI.h1, if_neg (fun q => absurd ((nIle (by omega) (by omega)).mp q) (by omega)), of4 (by omega), bd_s]
    unfold cntN
    by_cases c : hd (M 256) i = -5
    · rw [if_pos c, if_neg (fun q => (of_decide_eq_true q) c), show (nI i : Int32) + 1 = nI (i + 1) from nI_1 i, show (nI a : Int32) + 0 = nI (a + 0) from nI_add a 0]
      have := ih (i + 1) n (a + 0) (by omega) (by omega)
      rw [this, Nat.add_zero, Nat.zero_add]
    · rw [if_neg c, if_pos (decide_eq_true c), show (nI i : Int32) + 1 = nI (i + 1) from nI_1 i, show (nI a : Int32) + 1 = nI (a + 1) from nI_1 a]
      rw [ih (i + 1) n (a + 1) (by omega) (by omega), Nat.add_assoc]
theorem held_n {M : Mem} (hI : Inv (M 256)) : f_X8_held M = some (nI (hdN (M 256)), M) := by
  have b1 := hI.h1l
  unfold f_X8_held hdN
  have := held_l hI (nh (M 256)) 0 LF 0 (by omega) (by unfold LF; omega)
  rwa [Nat.zero_add] at this
theorem isDrawn_n {M : Mem} (hI : Inv (M 256)) {h : Nat} (hh : h < nh (M 256)) : f_X8_isDrawn (nI h) M = some (bI (drB (M 256) h), M) := by
  have b1 := hI.h1l
  obtain ⟨-, -, ⟨n1, n2⟩, -⟩ := hI.nu hh
  unfold f_X8_isDrawn drB
  rw [of2 (by omega), bd_s, n1, show (0 : Int32) = nI 0 from rfl]
  by_cases c : fP (M 256) h 2 = 0
  · rw [if_pos ((nIle (by omega) (by omega)).mpr (by omega)), decide_eq_false (fun q => q c)]
    rfl
  · rw [if_neg (fun q => absurd ((nIle (by omega) (by omega)).mp q) (by omega)), decide_eq_true c]
    rfl
theorem drawn_l {M : Mem} (hI : Inv (M 256)) : ∀ (d i n a : Nat), i + d = nh (M 256) → d < n → l_X8_drawn_4 n (nI a) (nI i) M = some (nI (a + cntN (drB (M 256)) i d), M) := by
  have b1 := hI.h1l
  intro d
  induction d with
  | zero =>
    intro i n a hi hn
    obtain ⟨n, rfl⟩ : ∃ z, n = z + 1 := ⟨n - 1, by omega⟩
    rw [l_X8_drawn_4_s, hI.h1, if_pos ((nIle (by omega) (by omega)).mpr (by omega))]
    rfl
  | succ d ih =>
    intro i n a hi hn
    obtain ⟨n, rfl⟩ : ∃ z, n = z + 1 := ⟨n - 1, by omega⟩
    rw [l_X8_drawn_4_s, hI.h1, if_neg (fun q => absurd ((nIle (by omega) (by omega)).mp q) (by omega)), isDrawn_n hI (by omega), bd_s]
    unfold cntN
    cases c : drB (M 256) i with
    | false =>
      rw [if_pos bI_f, if_neg (by decide), show (nI i : Int32) + 1 = nI (i + 1) from nI_1 i, show (nI a : Int32) + 0 = nI (a + 0) from nI_add a 0]
      rw [ih (i + 1) n (a + 0) (by omega) (by omega), Nat.add_zero, Nat.zero_add]
    | true =>
      rw [if_neg (by decide), if_pos rfl, show (nI i : Int32) + 1 = nI (i + 1) from nI_1 i, show (nI a : Int32) + 1 = nI (a + 1) from nI_1 a]
      rw [ih (i + 1) n (a + 1) (by omega) (by omega), Nat.add_assoc]
theorem drawn_n {M : Mem} (hI : Inv (M 256)) : f_X8_drawn M = some (nI (drN (M 256)), M) := by
  have b1 := hI.h1l
  unfold f_X8_drawn drN
  have := drawn_l hI (nh (M 256)) 0 LF 0 (by omega) (by unfold LF; omega)
  rwa [Nat.zero_add] at this
theorem isAhead_n {M : Mem} (hI : Inv (M 256)) {h o : Nat} (hh : h < nh (M 256)) (ho : o < nh (M 256)) : f_X8_isAhead (nI h) (nI o) M = some (bI (ahB (M 256) h o), M) := by
  have b1 := hI.h1l
  obtain ⟨-, -, ⟨n1, n2⟩, ⟨p1, p2⟩, -, a2⟩ := hI.nu hh
  obtain ⟨-, -, ⟨n3, n4⟩, ⟨p3, p4⟩, -, a4⟩ := hI.nu ho
  unfold f_X8_isAhead ahB
  rw [of3 (by omega), bd_s, of3 (by omega), bd_s, isDrawn_n hI hh, bd_s, isDrawn_n hI ho, bd_s, of2 (by omega), bd_s, of2 (by omega), bd_s, n1, n3, p1, p3]
  cases drB (M 256) h with
  | false => rfl
  | true =>
    rw [if_neg (by decide)]
    cases drB (M 256) o with
    | false => rfl
    | true =>
      rw [if_neg (by decide)]
      have hz : (nI (fP (M 256) h 3) - nI (fP (M 256) o 3)).toInt = (fP (M 256) h 3 : Int) - fP (M 256) o 3 := pk_sub_toInt (by omega) (by omega)
      by_cases c1 : fP (M 256) o 3 < fP (M 256) h 3
      · rw [if_pos (by rw [Int32.lt_iff_toInt_lt, hz, Int32.toInt_zero]; omega), decide_eq_true c1]
        rfl
      · rw [if_neg (by rw [Int32.lt_iff_toInt_lt, hz, Int32.toInt_zero]; omega), decide_eq_false c1]
        by_cases c2 : fP (M 256) h 3 = fP (M 256) o 3
        · rw [if_pos (by rw [← Int32.toInt_inj, hz, Int32.toInt_zero]; omega), decide_eq_true c2]
          by_cases c3 : fP (M 256) h 2 < fP (M 256) o 2
          · rw [if_neg (fun q => absurd ((nIle (by omega) (by omega)).mp q) (by omega)), decide_eq_true c3]
            rfl
          · rw [if_pos ((nIle (by omega) (by omega)).mpr (by omega)), decide_eq_false c3]
            rfl
        · rw [if_neg (by rw [← Int32.toInt_inj, hz, Int32.toInt_zero]; omega), decide_eq_false c2]
          rfl
theorem placeOf_l {M : Mem} (hI : Inv (M 256)) {h : Nat} (hh : h < nh (M 256)) : ∀ (d i n a : Nat), i + d = nh (M 256) → d < n → l_X8_placeOf_4 (nI h) n (nI a) (nI i) M = some (if drB (M 256) h = true then nI (a + cntN (fun k => ahB (M 256) k h) i d) else -5, M) := by
  have b1 := hI.h1l
  intro d
  induction d with
  | zero =>
    intro i n a hi hn
    obtain ⟨n, rfl⟩ : ∃ z, n = z + 1 := ⟨n - 1, by omega⟩
    rw [l_X8_placeOf_4_s, hI.h1, if_pos ((nIle (by omega) (by omega)).mpr (by omega)), isDrawn_n hI hh, bd_s]
    cases drB (M 256) h <;> rfl
  | succ d ih =>
    intro i n a hi hn
    obtain ⟨n, rfl⟩ : ∃ z, n = z + 1 := ⟨n - 1, by omega⟩
    rw [l_X8_placeOf_4_s, hI.h1, if_neg (fun q => absurd ((nIle (by omega) (by omega)).mp q) (by omega)), isDrawn_n hI (by omega), bd_s, isAhead_n hI (by omega) hh, bd_s]
    rw [show (nI i : Int32) + 1 = nI (i + 1) from nI_1 i, show (nI a : Int32) + 0 = nI (a + 0) from nI_add a 0, show (nI a : Int32) + 1 = nI (a + 1) from nI_1 a]
    cases c : drB (M 256) i with
    | false =>
      have ca : ahB (M 256) i h = false := by unfold ahB; rw [c]; rfl
      rw [if_pos bI_f, ih (i + 1) n (a + 0) (by omega) (by omega), cntN_f (p := fun k => ahB (M 256) k h) ca, Nat.add_zero]
    | true =>
      rw [if_neg (show ¬ bI true = 0 by decide)]
      cases ca : ahB (M 256) i h with
      | false => rw [if_pos bI_f, ih (i + 1) n (a + 0) (by omega) (by omega), cntN_f (p := fun k => ahB (M 256) k h) ca, Nat.add_zero]
      | true => rw [if_neg (show ¬ bI true = 0 by decide), ih (i + 1) n (a + 1) (by omega) (by omega), cntN_t (p := fun k => ahB (M 256) k h) ca, Nat.add_assoc]
theorem placeOf_n {M : Mem} (hI : Inv (M 256)) {h : Nat} (hh : h < nh (M 256)) : f_X8_placeOf (nI h) M = some (if drB (M 256) h = true then nI (poN (M 256) h) else -5, M) := by
  have b1 := hI.h1l
  unfold f_X8_placeOf poN
  have := placeOf_l hI hh (nh (M 256)) 0 LF 0 (by omega) (by unfold LF; omega)
  rwa [Nat.zero_add] at this
theorem at_l {M : Mem} (hI : Inv (M 256)) (r : Int32) : ∀ (d i n : Nat) (acc : Option Nat), i + d = nh (M 256) → d < n → l_X8_at_5 r n (oI acc) (nI i) M = some (oI (lstO (fun h => drB (M 256) h && decide (nI (poN (M 256) h) = r)) i d acc), M) := by
  have b1 := hI.h1l
  intro d
  induction d with
  | zero =>
    intro i n acc hi hn
    obtain ⟨n, rfl⟩ : ∃ z, n = z + 1 := ⟨n - 1, by omega⟩
    rw [l_X8_at_5_s, hI.h1, if_pos ((nIle (by omega) (by omega)).mpr (by omega))]
    rfl
  | succ d ih =>
    intro i n acc hi hn
    obtain ⟨n, rfl⟩ : ∃ z, n = z + 1 := ⟨n - 1, by omega⟩
    rw [l_X8_at_5_s, hI.h1, if_neg (fun q => absurd ((nIle (by omega) (by omega)).mp q) (by omega)), isDrawn_n hI (by omega), bd_s, placeOf_n hI (by omega), bd_s, show (nI i : Int32) + 1 = nI (i + 1) from nI_1 i]
    unfold lstO
    cases c : drB (M 256) i with
    | false =>
      rw [if_pos bI_f, Bool.false_and, if_neg (by decide)]
      exact ih (i + 1) n acc (by omega) (by omega)
    | true =>
      rw [if_neg (by decide), if_pos rfl, Bool.true_and]
      by_cases c2 : nI (poN (M 256) i) = r
      · rw [if_pos c2, if_pos (decide_eq_true c2)]
        exact ih (i + 1) n (some i) (by omega) (by omega)
      · rw [if_neg c2, if_neg (fun q => c2 (of_decide_eq_true q))]
        exact ih (i + 1) n acc (by omega) (by omega)
/-- the order: ahead of another: a strict order, total on those with a number -/
theorem ahB_iff {s : Row} {h o : Nat} : ahB s h o = true ↔ fP s h 2 ≠ 0 ∧ (fP s o 2 = 0 ∨ fP s o 3 < fP s h 3 ∨ (fP s h 3 = fP s o 3 ∧ fP s h 2 < fP s o 2)) := by
  unfold ahB drB
  simp only [Bool.and_eq_true, Bool.or_eq_true, decide_eq_true_eq, Bool.not_eq_true', decide_eq_false_iff_not, ne_eq, Decidable.not_not]
theorem drB_iff {s : Row} {h : Nat} : drB s h = true ↔ fP s h 2 ≠ 0 := by
  unfold drB
  exact decide_eq_true_iff
theorem cntN_lt {p q : Nat → Bool} {d i k : Nat} (hk : i ≤ k) (hk2 : k < i + d) (hq : q k = true) (hp : p k = false) (h : ∀ j, i ≤ j → j < i + d → p j = true → q j = true) : cntN p i d < cntN q i d := by
  induction d generalizing i with
  | zero => omega
  | succ d ih =>
    unfold cntN
    by_cases e : k = i
    · subst e
      rw [hq, hp, if_neg (by decide), if_pos rfl]
      have : cntN p (k + 1) d ≤ cntN q (k + 1) d := by
        clear ih
        have h2 : ∀ j, k + 1 ≤ j → j < k + 1 + d → p j = true → q j = true := fun j h1 h2 => h j (by omega) (by omega)
        clear h hk hk2 hq hp
        generalize k + 1 = z at h2 ⊢
        induction d generalizing z with
        | zero => exact Nat.le_refl _
        | succ d ih =>
          unfold cntN
          have := ih (z + 1) (fun j a b => h2 j (by omega) (by omega))
          have h3 := h2 z (Nat.le_refl _) (by omega)
          by_cases c : p z = true
          · rw [if_pos c, if_pos (h3 c)]
            omega
          · rw [if_neg c]
            omega
      omega
    · have := ih (i := i + 1) (by omega) (by omega) (fun j h1 h2 => h j (by omega) (by omega))
      have h3 := h i (Nat.le_refl _) (by omega)
      by_cases c : p i = true
      · rw [if_pos c, if_pos (h3 c)]
        omega
      · rw [if_neg c]
        omega
theorem poN_lt {s : Row} (hI : Inv s) {a b : Nat} (ha : a < nh s) (hb : b < nh s) (da : fP s a 2 ≠ 0) (h : ahB s a b = true) : poN s a < poN s b := by
  unfold poN
  refine cntN_lt (k := a) (Nat.zero_le _) (by omega) h ?_ (fun j _ h2 h3 => ?_)
  · refine Bool.eq_false_iff.mpr (fun q => ?_)
    have := ahB_iff.mp q
    omega
  · have h4 := ahB_iff.mp h
    have h5 := ahB_iff.mp h3
    refine ahB_iff.mpr ?_
    omega
theorem poN_inj {s : Row} (hI : Inv s) {a b : Nat} (ha : a < nh s) (hb : b < nh s) (da : drB s a = true) (db : drB s b = true) (h : poN s a = poN s b) : a = b := by
  have da := drB_iff.mp da
  have db := drB_iff.mp db
  by_cases e : a = b
  · exact e
  · have hu : fP s a 2 ≠ fP s b 2 := fun q => e (hI.un a b ha hb q da)
    by_cases c : ahB s a b = true
    · have := poN_lt hI ha hb da c
      omega
    · have c2 : ahB s b a = true := by
        refine ahB_iff.mpr ?_
        have c3 : ¬ (fP s a 2 ≠ 0 ∧ (fP s b 2 = 0 ∨ fP s b 3 < fP s a 3 ∨ (fP s a 3 = fP s b 3 ∧ fP s a 2 < fP s b 2))) := fun q => c (ahB_iff.mpr q)
        omega
      have := poN_lt hI hb ha db c2
      omega
theorem poN_lt12 {s : Row} (hI : Inv s) {h : Nat} : poN s h ≤ 12 := by
  have := hI.h1l
  have h2 : poN s h ≤ nh s := cntN_le
  omega
theorem at_n {M : Mem} (hI : Inv (M 256)) (r : Int32) : f_X8_at r M = some (oI (atO (M 256) r), M) := by
  have b1 := hI.h1l
  unfold f_X8_at
  have h1 := at_l hI r (nh (M 256)) 0 LF none (by omega) (by unfold LF; omega)
  rw [lstO_none (fun j k _ h2 _ h4 h5 h6 => ?_)] at h1
  · exact h1
  · rw [Bool.and_eq_true] at h5 h6
    have e5 := of_decide_eq_true h5.2
    have e6 := of_decide_eq_true h6.2
    have p5 := poN_lt12 hI (h := j)
    have p6 := poN_lt12 hI (h := k)
    exact poN_inj hI (by omega) (by omega) h5.1 h6.1 (nI_inj (by omega) (by omega) (e5.trans e6.symm))
