/-! THE REFERENCE's questions, over its row -/
theorem Inv.h0 {s : Row} (h : Inv s) : s 0 = nI (nf s) := h.1.1.1
theorem Inv.h0l {s : Row} (h : Inv s) : nf s ≤ 12 := h.1.1.2
theorem Inv.h1 {s : Row} (h : Inv s) : s 1 = nI (nh s) := h.1.2.1
theorem Inv.h1l {s : Row} (h : Inv s) : nh s ≤ 12 := h.1.2.2
theorem Inv.fl {s : Row} (h : Inv s) {f : Nat} (hf : f < nf s) : FlOk s f := h.2.1.1 f hf
theorem Inv.nu {s : Row} (h : Inv s) {k : Nat} (hk : k < nh s) : NuOk s k := (h.2.1.2 k hk).1
theorem Inv.ls {s : Row} (h : Inv s) {k : Nat} (hk : k < nh s) : LsOk s k := (h.2.1.2 k hk).2.1
theorem Inv.hdk {s : Row} (h : Inv s) {k : Nat} (hk : k < nh s) : HdOk s k := (h.2.1.2 k hk).2.2
theorem Inv.uh {s : Row} (h : Inv s) : ∀ a b, a < nh s → b < nh s → hd s a = hd s b → hd s a ≠ -5 → a = b := h.2.2.1.1
theorem Inv.un {s : Row} (h : Inv s) : ∀ a b, a < nh s → b < nh s → fP s a 2 = fP s b 2 → fP s a 2 ≠ 0 → a = b := h.2.2.1.2
theorem inb_ex {a : Int32} {n : Nat} (h : inb a n = true) (hn : n < 2147483648) : ∃ j, j < n ∧ a = nI j := by
  obtain ⟨j, h1, h2⟩ := vp_in_of (inb_in h) hn
  exact ⟨j, h1, h2⟩
theorem of_n {M : Mem} {h k : Nat} {c : Int32} (hh : h < 12) (hk : k < 14) (hc : nI k = c) : f_X8_of (nI h) c M = some (M 256 (30 + 14 * h + k), M) := by
  unfold f_X8_of
  rw [← hc, show (30 : Int32) = nI 30 from rfl, show (14 : Int32) = nI 14 from rfl, pk_mul, nI_add, nI_add, ck_t (inbN (by omega) (by omega)), nN (by omega)]
theorem puts_n {M : Mem} {h k : Nat} {c v : Int32} (hh : h < 12) (hk : k < 14) (hc : nI k = c) : f_X8_puts (nI h) c v M = some (0, up M 256 (30 + 14 * h + k) v) := by
  unfold f_X8_puts lt_
  rw [← hc, show (30 : Int32) = nI 30 from rfl, show (14 : Int32) = nI 14 from rfl, pk_mul, nI_add, nI_add, ck_t (inbN (by omega) (by omega)), nN (by omega)]
theorem rooms_n {M : Mem} {f : Nat} (hf : f < 12) : f_X8_rooms (nI f) M = some (M 256 (6 + 2 * f), M) := by
  unfold f_X8_rooms
  rw [show (6 : Int32) = nI 6 from rfl, show (2 : Int32) = nI 2 from rfl, pk_mul, nI_add, ck_t (inbN (by omega) (by omega)), nN (by omega)]
theorem rent_n {M : Mem} {f : Nat} (hf : f < 12) : f_X8_rent (nI f) M = some (M 256 (6 + 2 * f + 1), M) := by
  unfold f_X8_rent
  rw [show (6 : Int32) = nI 6 from rfl, show (2 : Int32) = nI 2 from rfl, show (1 : Int32) = nI 1 from rfl, pk_mul, nI_add, nI_add, ck_t (inbN (by omega) (by omega)), nN (by omega)]
theorem in_n {M : Mem} (a lo hi : Int32) : f_X8_in a lo hi M = some (bI (decide (lo ≤ a ∧ a ≤ hi)), M) := by
  unfold f_X8_in
  by_cases h1 : a < lo
  · rw [if_pos h1, decide_eq_false (fun q => absurd h1 (Int32.not_lt.mpr q.1))]
    rfl
  · rw [if_neg h1]
    by_cases h2 : hi < a
    · rw [if_pos h2, decide_eq_false (fun q => absurd h2 (Int32.not_lt.mpr q.2))]
      rfl
    · rw [if_neg h2, decide_eq_true ⟨Int32.not_lt.mp h1, Int32.not_lt.mp h2⟩]
      rfl
theorem in0 {a : Int32} {n : Nat} (hn : n ≤ 12) : decide ((0 : Int32) ≤ a ∧ a ≤ nI n - 1) = inb a n := by
  unfold inb
  have h : (nI n - 1).toInt = (n : Int) - 1 := pk_sub_toInt (b := 1) (by omega) (by omega)
  refine decide_eq_decide.mpr ?_
  rw [Int32.le_iff_toInt_le, Int32.le_iff_toInt_le, h, Int32.toInt_zero]
  constructor <;> rintro ⟨h1, h2⟩ <;> exact ⟨h1, by omega⟩
theorem isHome_n {M : Mem} (hI : Inv (M 256)) (a : Int32) : f_X8_isHome a M = some (bI (inb a (nh (M 256))), M) := by
  unfold f_X8_isHome
  rw [in_n, bd_s, hI.h1, in0 hI.h1l, ck_t (isb_bI _)]
theorem isFlat_n {M : Mem} (hI : Inv (M 256)) (a : Int32) : f_X8_isFlat a M = some (bI (inb a (nf (M 256))), M) := by
  unfold f_X8_isFlat
  rw [in_n, bd_s, hI.h0, in0 hI.h0l, ck_t (isb_bI _)]
theorem isNumber_0 {M : Mem} (a : Int32) : f_X8_isNumber 0 a M = some (bI (decide ((1 : Int32) ≤ a ∧ a ≤ 9)), M) := by
  unfold f_X8_isNumber
  rw [if_pos rfl, in_n, bd_s, ck_t (isb_bI _)]
theorem isNumber_1 {M : Mem} (a : Int32) : f_X8_isNumber 1 a M = some (bI (decide ((1 : Int32) ≤ a ∧ a ≤ 9999)), M) := by
  unfold f_X8_isNumber
  rw [if_neg (by decide), in_n, bd_s, ck_t (isb_bI _)]
theorem isEligible_n {M : Mem} (hI : Inv (M 256)) {h f : Nat} (hh : h < nh (M 256)) (hf : f < nf (M 256)) : f_X8_isEligible (nI h) (nI f) M = some (bI (elB (M 256) h f), M) := by
  have b1 := hI.h1l
  have b0 := hI.h0l
  obtain ⟨⟨r1, r2, r3⟩, r4, r5, r6⟩ := hI.fl hf
  obtain ⟨⟨m1, m2, m3⟩, ⟨i1, i2⟩, -⟩ := hI.nu hh
  unfold f_X8_isEligible
  rw [of_n (k := 0) (by omega) (by omega) rfl, bd_s, rooms_n (by omega), bd_s, rooms_n (by omega), bd_s, rent_n (by omega), bd_s, of_n (k := 1) (by omega) (by omega) rfl, bd_s, m1, r1, r4, i1]
  rw [show (2 : Int32) = nI 2 from rfl, show (1 : Int32) = nI 1 from rfl, show (3 : Int32) = nI 3 from rfl, pk_mul, nI_add, pk_mul]
  unfold elB
  by_cases c1 : 2 * rm (M 256) f < fP (M 256) h 0
  · rw [if_pos ((nIlt (by omega) (by omega)).mpr c1), decide_eq_false (by omega)]
    rfl
  · rw [if_neg (fun q => c1 ((nIlt (by omega) (by omega)).mp q))]
    by_cases c2 : fP (M 256) h 0 + 1 < rm (M 256) f
    · rw [if_pos ((nIlt (by omega) (by omega)).mpr c2), decide_eq_false (by omega)]
      rfl
    · rw [if_neg (fun q => c2 ((nIlt (by omega) (by omega)).mp q))]
      by_cases c3 : fP (M 256) h 1 < 3 * rt (M 256) f
      · rw [if_pos ((nIlt (by omega) (by omega)).mpr c3), decide_eq_false (by omega)]
        rfl
      · rw [if_neg (fun q => c3 ((nIlt (by omega) (by omega)).mp q)), decide_eq_true (by omega)]
        rfl
theorem placeOn_l {M : Mem} (hI : Inv (M 256)) {h : Nat} (hh : h < nh (M 256)) (x : Int32) : ∀ (d i n : Nat) (acc : Option Nat), i + d = fP (M 256) h 7 → d < n → l_X8_placeOn_6 (nI h) x n (oI acc) (nI i) M = some (oI (lstO (fun k => decide (M 256 (30 + 14 * h + 8 + k) = x)) i d acc), M) := by
  have b1 := hI.h1l
  obtain ⟨⟨l1, l2⟩, -⟩ := hI.ls hh
  intro d
  induction d with
  | zero =>
    intro i n acc hi hn
    obtain ⟨n, rfl⟩ : ∃ z, n = z + 1 := ⟨n - 1, by omega⟩
    rw [l_X8_placeOn_6_s, of_n (k := 7) (by omega) (by omega) rfl, bd_s, l1, if_pos ((nIle (by omega) (by omega)).mpr (by omega))]
    rfl
  | succ d ih =>
    intro i n acc hi hn
    obtain ⟨n, rfl⟩ : ∃ z, n = z + 1 := ⟨n - 1, by omega⟩
    rw [l_X8_placeOn_6_s, of_n (k := 7) (by omega) (by omega) rfl, bd_s, l1, if_neg (fun q => absurd ((nIle (by omega) (by omega)).mp q) (by omega)), show (8 : Int32) + nI i = nI (8 + i) from nI_add 8 i, of_n (k := 8 + i) (by omega) (by omega) rfl, bd_s, show (30 + 14 * h + (8 + i)) = 30 + 14 * h + 8 + i by omega]
    unfold lstO
    by_cases c : M 256 (30 + 14 * h + 8 + i) = x
    · rw [if_pos c, if_pos (decide_eq_true c), show (nI i : Int32) + 1 = nI (i + 1) from nI_1 i]
      exact ih (i + 1) n (some i) (by omega) (by omega)
    · rw [if_neg c, if_neg (fun q => c (of_decide_eq_true q)), show (nI i : Int32) + 1 = nI (i + 1) from nI_1 i]
      exact ih (i + 1) n acc (by omega) (by omega)
theorem lstO_none {p : Nat → Bool} {d i : Nat} (hu : ∀ j k, i ≤ j → j < i + d → i ≤ k → k < i + d → p j = true → p k = true → j = k) : lstO p i d none = fstO p i d := by
  rw [lstO_fst hu]
  cases fstO p i d <;> rfl
theorem placeOn_n {M : Mem} (hI : Inv (M 256)) {h : Nat} (hh : h < nh (M 256)) (x : Int32) : f_X8_placeOn (nI h) x M = some (oI (plO (M 256) h x), M) := by
  obtain ⟨⟨l1, l2⟩, l3, l4⟩ := hI.ls hh
  have b0 := hI.h0l
  unfold f_X8_placeOn
  have h1 := placeOn_l hI hh x (fP (M 256) h 7) 0 LF none (by omega) (by unfold LF; omega)
  rw [lstO_none (fun j k _ h2 _ h4 h5 h6 => ?_)] at h1
  · exact h1
  · have e5 := of_decide_eq_true h5
    have e6 := of_decide_eq_true h6
    rw [(l3 j (by omega)).1] at e5
    rw [(l3 k (by omega)).1] at e6
    have g1 := (l3 j (by omega)).2
    have g2 := (l3 k (by omega)).2
    exact l4 j k (by omega) (by omega) (nI_inj (by omega) (by omega) (e5.trans e6.symm))
theorem plO_lt {s : Row} {h k : Nat} {x : Int32} (hp : plO s h x = some k) : k < fP s h 7 := by
  have := (fstO_some hp).2.1
  omega
theorem plO_m5 {s : Row} (hI : Inv s) {h : Nat} (hh : h < nh s) : plO s h (-5) = none := by
  obtain ⟨-, l3, -⟩ := hI.ls hh
  have b0 := hI.h0l
  refine fstO_none.mpr (fun j _ h2 => decide_eq_false (fun q => ?_))
  obtain ⟨a1, a2⟩ := l3 j (by omega)
  rw [a1] at q
  exact nIne5 (by omega) q
theorem wishesMore_n {M : Mem} (hI : Inv (M 256)) {h : Nat} (hh : h < nh (M 256)) (x : Int32) : f_X8_wishesMore (nI h) x M = some (bI (wmB (M 256) h x), M) := by
  have b1 := hI.h1l
  obtain ⟨⟨l1, l2⟩, -⟩ := hI.ls hh
  unfold f_X8_wishesMore
  rw [placeOn_n hI hh, bd_s, of_n (k := 4) (by omega) (by omega) rfl, bd_s]
  unfold wmB
  by_cases c : M 256 (30 + 14 * h + 4) = -5
  · rw [if_pos c, show hd (M 256) h = -5 from c, plO_m5 hI hh]
    cases hp : plO (M 256) h x with
    | none => rfl
    | some k =>
      have := plO_lt hp
      show (if nI k = (-5 : Int32) then _ else _) = _
      rw [if_neg (nIne5 (by omega)), if_pos rfl]
      rfl
  · rw [if_neg c, bd_s, placeOn_n hI hh, bd_s]
    show _ = some (bI (match plO (M 256) h x, plO (M 256) h (M 256 (30 + 14 * h + 4)) with | none, _ => false | some _, none => true | some k, some k' => decide (k < k')), M)
    cases hp : plO (M 256) h x with
    | none => rfl
    | some k =>
      have := plO_lt hp
      show (if nI k = (-5 : Int32) then _ else _) = _
      rw [if_neg (nIne5 (by omega))]
      cases hq : plO (M 256) h (M 256 (30 + 14 * h + 4)) with
      | none => rfl
      | some k' =>
        have := plO_lt hq
        show (if nI k' = (-5 : Int32) then _ else if nI k' ≤ nI k then _ else _) = _
        rw [if_neg (nIne5 (by omega))]
        by_cases c2 : k < k'
        · rw [if_neg (fun q => absurd ((nIle (by omega) (by omega)).mp q) (by omega)), decide_eq_true c2]
          rfl
        · rw [if_pos ((nIle (by omega) (by omega)).mpr (by omega)), decide_eq_false c2]
          rfl
theorem holder_l {M : Mem} (hI : Inv (M 256)) (x : Int32) : ∀ (d i n : Nat) (acc : Option Nat), i + d = nh (M 256) → d < n → l_X8_holder_5 x n (oI acc) (nI i) M = some (oI (lstO (fun h => decide (hd (M 256) h = x)) i d acc), M) := by
  have b1 := hI.h1l
  intro d
  induction d with
  | zero =>
    intro i n acc hi hn
    obtain ⟨n, rfl⟩ : ∃ z, n = z + 1 := ⟨n - 1, by omega⟩
    rw [l_X8_holder_5_s, hI.h1, if_pos ((nIle (by omega) (by omega)).mpr (by omega))]
    rfl
  | succ d ih =>
    intro i n acc hi hn
    obtain ⟨n, rfl⟩ : ∃ z, n = z + 1 := ⟨n - 1, by omega⟩
    rw [l_X8_holder_5_s, hI.h1, if_neg (fun q => absurd ((nIle (by omega) (by omega)).mp q) (by omega)), of_n (k := 4) (by omega) (by omega) rfl, bd_s]
    unfold lstO
    by_cases c : M 256 (30 + 14 * i + 4) = x
    · rw [if_pos c, if_pos (decide_eq_true (show hd (M 256) i = x from c)), show (nI i : Int32) + 1 = nI (i + 1) from nI_1 i]
      exact ih (i + 1) n (some i) (by omega) (by omega)
    · rw [if_neg c, if_neg (fun q => c (of_decide_eq_true q)), show (nI i : Int32) + 1 = nI (i + 1) from nI_1 i]
      exact ih (i + 1) n acc (by omega) (by omega)
theorem holder_n {M : Mem} (hI : Inv (M 256)) {f : Nat} (hf : f < 2147483648) : f_X8_holder (nI f) M = some (oI (hoO (M 256) (nI f)), M) := by
  have b1 := hI.h1l
  unfold f_X8_holder
  have h1 := holder_l hI (nI f) (nh (M 256)) 0 LF none (by omega) (by unfold LF; omega)
  rw [lstO_none (fun j k _ h2 _ h4 h5 h6 => ?_)] at h1
  · exact h1
  · have e5 := of_decide_eq_true h5
    have e6 := of_decide_eq_true h6
    exact hI.uh j k (by omega) (by omega) (e5.trans e6.symm) (by rw [e5]; exact nIne5 hf)
/-- a count over the households -/
theorem held_l {M : Mem} (hI : Inv (M 256)) : ∀ (d i n a : Nat), i + d = nh (M 256) → d < n → l_X8_held_4 n (nI a) (nI i) M = some (nI (a + cntN (fun h => decide (hd (M 256) h ≠ -5)) i d), M) := by
  have b1 := hI.h1l
  intro d
  induction d with
  | zero =>
    intro i n a hi hn
    obtain ⟨n, rfl⟩ : ∃ z, n = z + 1 := ⟨n - 1, by omega⟩
    rw [l_X8_held_4_s, hI.h1, if_pos ((nIle (by omega) (by omega)).mpr (by omega))]
    rfl
  | succ d ih =>
    intro i n a hi hn
    obtain ⟨n, rfl⟩ : ∃ z, n = z + 1 := ⟨n - 1, by omega⟩
    rw [l_X8_held_4_s, hI.h1, if_neg (fun q => absurd ((nIle (by omega) (by omega)).mp q) (by omega)), of_n (k := 4) (by omega) (by omega) rfl, bd_s]
    unfold cntN
    by_cases c : M 256 (30 + 14 * i + 4) = -5
    · rw [if_pos c, if_neg (fun q => (of_decide_eq_true q) c), show (nI i : Int32) + 1 = nI (i + 1) from nI_1 i, show (nI a : Int32) + 0 = nI (a + 0) from nI_add a 0]
      have := ih (i + 1) n (a + 0) (by omega) (by omega)
      rw [this, Nat.add_zero, Nat.zero_add]
    · rw [if_neg c, if_pos (decide_eq_true c), show (nI i : Int32) + 1 = nI (i + 1) from nI_1 i, show (nI a : Int32) + 1 = nI (a + 1) from nI_1 a]
      rw [ih (i + 1) n (a + 1) (by omega) (by omega), Nat.add_assoc]
theorem held_n {M : Mem} (hI : Inv (M 256)) : f_X8_held M = some (nI (hdN (M 256)), M) := by
  have b1 := hI.h1l
  unfold f_X8_held hdN
  have := held_l hI (nh (M 256)) 0 LF 0 (by omega) (by unfold LF; omega)
  rwa [Nat.zero_add] at this
theorem isDrawn_n {M : Mem} (hI : Inv (M 256)) {h : Nat} (hh : h < nh (M 256)) : f_X8_isDrawn (nI h) M = some (bI (drB (M 256) h), M) := by
  have b1 := hI.h1l
  obtain ⟨-, -, ⟨n1, n2⟩, -⟩ := hI.nu hh
  unfold f_X8_isDrawn drB
  rw [of_n (k := 2) (by omega) (by omega) rfl, bd_s, n1, show (0 : Int32) = nI 0 from rfl]
  by_cases c : fP (M 256) h 2 = 0
  · rw [if_pos ((nIle (by omega) (by omega)).mpr (by omega)), decide_eq_false (fun q => q c)]
    rfl
  · rw [if_neg (fun q => absurd ((nIle (by omega) (by omega)).mp q) (by omega)), decide_eq_true c]
    rfl
theorem drawn_l {M : Mem} (hI : Inv (M 256)) : ∀ (d i n a : Nat), i + d = nh (M 256) → d < n → l_X8_drawn_4 n (nI a) (nI i) M = some (nI (a + cntN (drB (M 256)) i d), M) := by
  have b1 := hI.h1l
  intro d
  induction d with
  | zero =>
    intro i n a hi hn
    obtain ⟨n, rfl⟩ : ∃ z, n = z + 1 := ⟨n - 1, by omega⟩
    rw [l_X8_drawn_4_s, hI.h1, if_pos ((nIle (by omega) (by omega)).mpr (by omega))]
    rfl
  | succ d ih =>
    intro i n a hi hn
    obtain ⟨n, rfl⟩ : ∃ z, n = z + 1 := ⟨n - 1, by omega⟩
    rw [l_X8_drawn_4_s, hI.h1, if_neg (fun q => absurd ((nIle (by omega) (by omega)).mp q) (by omega)), isDrawn_n hI (by omega), bd_s]
    unfold cntN
    cases c : drB (M 256) i with
    | false =>
      rw [if_pos bI_f, if_neg (by decide), show (nI i : Int32) + 1 = nI (i + 1) from nI_1 i, show (nI a : Int32) + 0 = nI (a + 0) from nI_add a 0]
      rw [ih (i + 1) n (a + 0) (by omega) (by omega), Nat.add_zero, Nat.zero_add]
    | true =>
      rw [if_neg (by decide), if_pos rfl, show (nI i : Int32) + 1 = nI (i + 1) from nI_1 i, show (nI a : Int32) + 1 = nI (a + 1) from nI_1 a]
      rw [ih (i + 1) n (a + 1) (by omega) (by omega), Nat.add_assoc]
theorem drawn_n {M : Mem} (hI : Inv (M 256)) : f_X8_drawn M = some (nI (drN (M 256)), M) := by
  have b1 := hI.h1l
  unfold f_X8_drawn drN
  have := drawn_l hI (nh (M 256)) 0 LF 0 (by omega) (by unfold LF; omega)
  rwa [Nat.zero_add] at this
theorem isAhead_n {M : Mem} (hI : Inv (M 256)) {h o : Nat} (hh : h < nh (M 256)) (ho : o < nh (M 256)) : f_X8_isAhead (nI h) (nI o) M = some (bI (ahB (M 256) h o), M) := by
  have b1 := hI.h1l
  obtain ⟨-, -, ⟨n1, n2⟩, ⟨p1, p2⟩, -, a2⟩ := hI.nu hh
  obtain ⟨-, -, ⟨n3, n4⟩, ⟨p3, p4⟩, -, a4⟩ := hI.nu ho
  unfold f_X8_isAhead ahB
  rw [of_n (k := 3) (by omega) (by omega) rfl, bd_s, of_n (k := 3) (by omega) (by omega) rfl, bd_s, isDrawn_n hI hh, bd_s, isDrawn_n hI ho, bd_s, of_n (k := 2) (by omega) (by omega) rfl, bd_s, of_n (k := 2) (by omega) (by omega) rfl, bd_s, n1, n3, p1, p3]
  cases drB (M 256) h with
  | false => rfl
  | true =>
    rw [if_neg (by decide)]
    cases drB (M 256) o with
    | false => rfl
    | true =>
      rw [if_neg (by decide)]
      have hz : (nI (fP (M 256) h 3) - nI (fP (M 256) o 3)).toInt = (fP (M 256) h 3 : Int) - fP (M 256) o 3 := pk_sub_toInt (by omega) (by omega)
      by_cases c1 : fP (M 256) o 3 < fP (M 256) h 3
      · rw [if_pos (by rw [Int32.lt_iff_toInt_lt, hz, Int32.toInt_zero]; omega), decide_eq_true c1]
        rfl
      · rw [if_neg (by rw [Int32.lt_iff_toInt_lt, hz, Int32.toInt_zero]; omega), decide_eq_false c1]
        by_cases c2 : fP (M 256) h 3 = fP (M 256) o 3
        · rw [if_pos (by rw [← Int32.toInt_inj, hz, Int32.toInt_zero]; omega), decide_eq_true c2]
          by_cases c3 : fP (M 256) h 2 < fP (M 256) o 2
          · rw [if_neg (fun q => absurd ((nIle (by omega) (by omega)).mp q) (by omega)), decide_eq_true c3]
            rfl
          · rw [if_pos ((nIle (by omega) (by omega)).mpr (by omega)), decide_eq_false c3]
            rfl
        · rw [if_neg (by rw [← Int32.toInt_inj, hz, Int32.toInt_zero]; omega), decide_eq_false c2]
          rfl
