/-! THE CLASS: a state object shows a row; its questions are the same -/
def noI (s : Row) (h : Nat) : Int32 := if drB s h = true then s (30 + 14 * h + 2) else -5
def HR (M : Mem) (st : Nat) (s : Row) (h : Nat) : Prop := M (st + 16 + 2 * h) 1 = s (30 + 14 * h + 7) ∧ M (st + 16 + 2 * h) 2 = s (30 + 14 * h + 0) ∧ M (st + 16 + 2 * h) 3 = s (30 + 14 * h + 1) ∧ M (st + 16 + 2 * h) 4 = noI s h ∧ M (st + 16 + 2 * h) 5 = s (30 + 14 * h + 3) ∧ M (st + 16 + 2 * h) 6 = hd s h ∧ M (st + 16 + 2 * h) 7 = s (30 + 14 * h + 5) ∧ M (st + 16 + 2 * h) 8 = s (30 + 14 * h + 6) ∧ ∀ k, k < fP s h 7 → M (st + 16 + 2 * h + 1) k = s (30 + 14 * h + 8 + k)
def RS (M : Mem) (st : Nat) (s : Row) : Prop := (M st 2 = s 0 ∧ M st 3 = s 1 ∧ M st 4 = s 2 ∧ M st 5 = s 4 ∧ M st 6 = s 5) ∧ (∀ f, f < nf s → M (st + 4 + f) 0 = s (6 + 2 * f) ∧ M (st + 4 + f) 1 = s (6 + 2 * f + 1)) ∧ ∀ h, h < nh s → HR M st s h
theorem RS.n0 {M : Mem} {st : Nat} {s : Row} (R : RS M st s) : M st 2 = s 0 := R.1.1
theorem RS.n1 {M : Mem} {st : Nat} {s : Row} (R : RS M st s) : M st 3 = s 1 := R.1.2.1
theorem RS.fl {M : Mem} {st : Nat} {s : Row} (R : RS M st s) {f : Nat} (hf : f < nf s) : M (st + 4 + f) 0 = s (6 + 2 * f) ∧ M (st + 4 + f) 1 = s (6 + 2 * f + 1) := R.2.1 f hf
theorem RS.hr {M : Mem} {st : Nat} {s : Row} (R : RS M st s) {h : Nat} (hh : h < nh s) : HR M st s h := R.2.2 h hh
theorem RS.hd {M : Mem} {st : Nat} {s : Row} (R : RS M st s) {h : Nat} (hh : h < nh s) : M (st + 16 + 2 * h) 6 = hd s h := (R.2.2 h hh).2.2.2.2.2.1
theorem RS.no {M : Mem} {st : Nat} {s : Row} (R : RS M st s) {h : Nat} (hh : h < nh s) : M (st + 16 + 2 * h) 4 = noI s h := (R.2.2 h hh).2.2.2.1
theorem RS.wc {M : Mem} {st : Nat} {s : Row} (R : RS M st s) {h : Nat} (hh : h < nh s) : M (st + 16 + 2 * h) 1 = s (30 + 14 * h + 7) := (R.2.2 h hh).1
theorem RS.wi {M : Mem} {st : Nat} {s : Row} (R : RS M st s) {h k : Nat} (hh : h < nh s) (hk : k < fP s h 7) : M (st + 16 + 2 * h + 1) k = s (30 + 14 * h + 8 + k) := (R.2.2 h hh).2.2.2.2.2.2.2.2 k hk
theorem RS.co {M M' : Mem} {st : Nat} {s : Row} (R : RS M st s) (hI : Inv s) (h : ∀ i, st ≤ i → i < st + 40 → i ≠ st + 3 → M' i = M i) : RS M' st s := by
  have b0 := hI.h0l
  have b1 := hI.h1l
  refine ⟨?_, fun f hf => ?_, fun k hk => ?_⟩
  · rw [h st (by omega) (by omega) (by omega)]
    exact R.1
  · rw [h (st + 4 + f) (by omega) (by omega) (by omega)]
    exact R.2.1 f hf
  · unfold HR
    rw [h (st + 16 + 2 * k) (by omega) (by omega) (by omega), h (st + 16 + 2 * k + 1) (by omega) (by omega) (by omega)]
    exact R.2.2 k hk
theorem noI_iff {s : Row} (hI : Inv s) {h : Nat} (hh : h < nh s) : noI s h = -5 ↔ drB s h = false := by
  obtain ⟨-, -, ⟨n1, n2⟩, -⟩ := hI.nu hh
  unfold noI
  cases c : drB s h with
  | false => rw [if_neg Bool.false_ne_true]; exact ⟨fun _ => rfl, fun _ => rfl⟩
  | true =>
    rw [if_pos rfl, n1]
    exact ⟨fun q => absurd q (nIne5 (by omega)), fun q => (by cases q)⟩
theorem k_hasFlat {M : Mem} {st : Nat} {s : Row} (R : RS M st s) (hI : Inv s) (a : Int32) : f_X6_hasFlat st a M = some (bI (inb a (nf s)), M) := by
  have b0 := hI.h0l
  unfold f_X6_hasFlat
  rw [R.n0, hI.h0]
  by_cases h1 : a < 0
  · rw [if_pos h1, show inb a (nf s) = false from decide_eq_false (fun q => by rw [Int32.lt_iff_toInt_lt, Int32.toInt_zero] at h1; omega)]
    rfl
  · rw [if_neg h1]
    have h3 : 0 ≤ a.toInt := by
      rw [Int32.lt_iff_toInt_lt, Int32.toInt_zero] at h1
      omega
    have h4 : (nI (nf s)).toInt = (nf s : Int) := nI_toInt (by omega)
    by_cases h2 : nI (nf s) ≤ a
    · rw [if_pos h2, show inb a (nf s) = false from decide_eq_false (fun q => by rw [Int32.le_iff_toInt_le, h4] at h2; omega)]
      rfl
    · rw [if_neg h2, show inb a (nf s) = true from decide_eq_true (by rw [Int32.le_iff_toInt_le, h4] at h2; omega)]
      rfl
theorem k_hasHousehold {M : Mem} {st : Nat} {s : Row} (R : RS M st s) (hI : Inv s) (a : Int32) : f_X6_hasHousehold st a M = some (bI (inb a (nh s)), M) := by
  have b0 := hI.h1l
  unfold f_X6_hasHousehold
  rw [R.n1, hI.h1]
  by_cases h1 : a < 0
  · rw [if_pos h1, show inb a (nh s) = false from decide_eq_false (fun q => by rw [Int32.lt_iff_toInt_lt, Int32.toInt_zero] at h1; omega)]
    rfl
  · rw [if_neg h1]
    have h3 : 0 ≤ a.toInt := by
      rw [Int32.lt_iff_toInt_lt, Int32.toInt_zero] at h1
      omega
    have h4 : (nI (nh s)).toInt = (nh s : Int) := nI_toInt (by omega)
    by_cases h2 : nI (nh s) ≤ a
    · rw [if_pos h2, show inb a (nh s) = false from decide_eq_false (fun q => by rw [Int32.le_iff_toInt_le, h4] at h2; omega)]
      rfl
    · rw [if_neg h2, show inb a (nh s) = true from decide_eq_true (by rw [Int32.le_iff_toInt_le, h4] at h2; omega)]
      rfl
theorem k_placeOf_l {M : Mem} {st : Nat} {s : Row} (R : RS M st s) (hI : Inv s) {h : Nat} (hh : h < nh s) (x : Int32) : ∀ (d i n : Nat), i + d = fP s h 7 → d < n → l_X2_placeOf_2 (st + 16 + 2 * h) x n (nI i) M = some (oI (fstO (fun k => decide (s (30 + 14 * h + 8 + k) = x)) i d), M) := by
  have b1 := hI.h1l
  obtain ⟨⟨l1, l2⟩, -⟩ := hI.ls hh
  intro d
  induction d with
  | zero =>
    intro i n hi hn
    obtain ⟨n, rfl⟩ : ∃ z, n = z + 1 := ⟨n - 1, by omega⟩
    rw [l_X2_placeOf_2_s, R.wc hh, l1, if_pos ((nIle (by omega) (by omega)).mpr (by omega))]
    rfl
  | succ d ih =>
    intro i n hi hn
    obtain ⟨n, rfl⟩ : ∃ z, n = z + 1 := ⟨n - 1, by omega⟩
    rw [l_X2_placeOf_2_s, R.wc hh, l1, if_neg (fun q => absurd ((nIle (by omega) (by omega)).mp q) (by omega)), ck_t (inbN (by omega) (by omega)), nN (by omega), R.wi hh (by omega)]
    unfold fstO
    by_cases c : s (30 + 14 * h + 8 + i) = x
    · rw [if_pos c, if_pos (decide_eq_true c)]
      rfl
    · rw [if_neg c, if_neg (fun q => c (of_decide_eq_true q)), show (nI i : Int32) + 1 = nI (i + 1) from nI_1 i]
      exact ih (i + 1) n (by omega) (by omega)
theorem k_placeOf {M : Mem} {st : Nat} {s : Row} (R : RS M st s) (hI : Inv s) {h : Nat} (hh : h < nh s) (x : Int32) : f_X2_placeOf (st + 16 + 2 * h) x M = some (oI (plO s h x), M) := by
  obtain ⟨⟨l1, l2⟩, -⟩ := hI.ls hh
  unfold f_X2_placeOf
  exact k_placeOf_l R hI hh x (fP s h 7) 0 LF (by omega) (by unfold LF; omega)
theorem k_wishesMore {M : Mem} {st : Nat} {s : Row} (R : RS M st s) (hI : Inv s) {h : Nat} (hh : h < nh s) (x : Int32) : f_X2_wishesMoreThanItsOwn (st + 16 + 2 * h) x M = some (bI (wmB s h x), M) := by
  have b1 := hI.h1l
  obtain ⟨⟨l1, l2⟩, -⟩ := hI.ls hh
  unfold f_X2_wishesMoreThanItsOwn
  rw [k_placeOf R hI hh, bd_s, R.hd hh, k_placeOf R hI hh, bd_s]
  unfold wmB
  cases hp : plO s h x with
  | none => rfl
  | some k =>
    have := plO_lt hp
    rw [if_neg (show ¬ oI (some k) = -5 from nIne5 (by omega))]
    cases hq : plO s h (hd s h) with
    | none => rfl
    | some k' =>
      have := plO_lt hq
      rw [if_neg (show ¬ oI (some k') = -5 from nIne5 (by omega))]
      show (if nI k' ≤ nI k then _ else _) = _
      by_cases c2 : k < k'
      · rw [if_neg (fun q => absurd ((nIle (by omega) (by omega)).mp q) (by omega))]
        show some (1, M) = some (bI (decide (k < k')), M)
        rw [decide_eq_true c2]
        rfl
      · rw [if_pos ((nIle (by omega) (by omega)).mpr (by omega))]
        show some (0, M) = some (bI (decide (k < k')), M)
        rw [decide_eq_false c2]
        rfl
theorem k_isEligibleFor {M : Mem} {st : Nat} {s : Row} (R : RS M st s) (hI : Inv s) {h f : Nat} (hh : h < nh s) (hf : f < nf s) : f_X2_isEligibleFor (st + 16 + 2 * h) (st + 4 + f) M = some (bI (elB s h f), M) := by
  obtain ⟨⟨r1, r2, r3⟩, r4, r5, r6⟩ := hI.fl hf
  obtain ⟨⟨m1, m2, m3⟩, ⟨i1, i2⟩, -⟩ := hI.nu hh
  obtain ⟨-, e2, e3, -⟩ := R.hr hh
  unfold f_X2_isEligibleFor
  rw [(R.fl hf).1, (R.fl hf).2, e2, e3, m1, r1, r4, i1]
  rw [show (2 : Int32) = nI 2 from rfl, show (1 : Int32) = nI 1 from rfl, show (3 : Int32) = nI 3 from rfl, pk_mul, nI_add, pk_mul]
  unfold elB
  by_cases c1 : 2 * rm s f < fP s h 0
  · rw [if_pos ((nIlt (by omega) (by omega)).mpr c1), decide_eq_false (by omega)]
    rfl
  · rw [if_neg (fun q => c1 ((nIlt (by omega) (by omega)).mp q))]
    by_cases c2 : fP s h 0 + 1 < rm s f
    · rw [if_pos ((nIlt (by omega) (by omega)).mpr c2), decide_eq_false (by omega)]
      rfl
    · rw [if_neg (fun q => c2 ((nIlt (by omega) (by omega)).mp q))]
      by_cases c3 : fP s h 1 < 3 * rt s f
      · rw [if_pos ((nIlt (by omega) (by omega)).mpr c3), decide_eq_false (by omega)]
        rfl
      · rw [if_neg (fun q => c3 ((nIlt (by omega) (by omega)).mp q)), decide_eq_true (by omega)]
        rfl
theorem k_isEligible {M : Mem} {st : Nat} {s : Row} (R : RS M st s) (hI : Inv s) {h f : Nat} (hh : h < nh s) (hf : f < nf s) : f_X6_isEligible st (st + 16 + 2 * h) (nI f) M = some (bI (elB s h f), M) := by
  have b0 := hI.h0l
  unfold f_X6_isEligible
  rw [k_hasFlat R hI, bd_s, inbN hf (by omega), if_neg bIne, ck_t (inbN (by omega) (by omega)), nN (by omega), k_isEligibleFor R hI hh hf, bd_s]
  cases elB s h f <;> rfl
theorem k_stands {M : Mem} {st : Nat} {s : Row} (R : RS M st s) (hI : Inv s) {h o : Nat} (hh : h < nh s) (ho : o < nh s) : f_X2_standsAheadOf (st + 16 + 2 * h) (st + 16 + 2 * o) M = some (bI (ahB s h o), M) := by
  obtain ⟨-, -, ⟨n1, n2⟩, ⟨p1, p2⟩, -, a2⟩ := hI.nu hh
  obtain ⟨-, -, ⟨n3, n4⟩, ⟨p3, p4⟩, -, a4⟩ := hI.nu ho
  obtain ⟨-, -, -, -, e5, -⟩ := R.hr hh
  obtain ⟨-, -, -, -, f5, -⟩ := R.hr ho
  unfold f_X2_standsAheadOf ahB
  rw [R.no hh, R.no ho, e5, f5, p1, p3]
  cases c : drB s h with
  | false =>
    rw [if_pos ((noI_iff hI hh).mpr c)]
    rfl
  | true =>
    rw [if_neg (fun q => by rw [(noI_iff hI hh).mp q] at c; cases c)]
    cases c2 : drB s o with
    | false =>
      rw [if_pos ((noI_iff hI ho).mpr c2)]
      rfl
    | true =>
      rw [if_neg (fun q => by rw [(noI_iff hI ho).mp q] at c2; cases c2)]
      unfold noI
      rw [c, c2, if_pos rfl, if_pos rfl, n1, n3]
      by_cases c3 : fP s h 3 = fP s o 3
      · rw [if_pos ((nIeq (by omega) (by omega)).mpr c3), decide_eq_false (show ¬ fP s o 3 < fP s h 3 by omega), decide_eq_true c3]
        by_cases c4 : fP s h 2 < fP s o 2
        · rw [if_neg (fun q => absurd ((nIle (by omega) (by omega)).mp q) (by omega)), decide_eq_true c4]
          rfl
        · rw [if_pos ((nIle (by omega) (by omega)).mpr (by omega)), decide_eq_false c4]
          rfl
      · rw [if_neg (fun q => c3 ((nIeq (by omega) (by omega)).mp q)), decide_eq_false c3]
        by_cases c4 : fP s o 3 < fP s h 3
        · rw [if_neg (fun q => absurd ((nIle (by omega) (by omega)).mp q) (by omega)), decide_eq_true c4]
          rfl
        · rw [if_pos ((nIle (by omega) (by omega)).mpr (by omega)), decide_eq_false c4]
          rfl
theorem k_countHeld_l {M : Mem} {st : Nat} {s : Row} (R : RS M st s) (hI : Inv s) : ∀ (d i n a : Nat), i + d = nh s → d < n → l_X6_countHeld_4 st n (nI a) (nI i) M = some (nI (a + cntN (fun h => decide (hd s h ≠ -5)) i d), M) := by
  have b1 := hI.h1l
  intro d
  induction d with
  | zero =>
    intro i n a hi hn
    obtain ⟨n, rfl⟩ : ∃ z, n = z + 1 := ⟨n - 1, by omega⟩
    rw [l_X6_countHeld_4_s, R.n1, hI.h1, if_pos ((nIle (by omega) (by omega)).mpr (by omega))]
    rfl
  | succ d ih =>
    intro i n a hi hn
    obtain ⟨n, rfl⟩ : ∃ z, n = z + 1 := ⟨n - 1, by omega⟩
    rw [l_X6_countHeld_4_s, R.n1, hI.h1, if_neg (fun q => absurd ((nIle (by omega) (by omega)).mp q) (by omega)), ck_t (inbN (by omega) (by omega)), nN (by omega), R.hd (by omega), show (nI i : Int32) + 1 = nI (i + 1) from nI_1 i, show (nI a : Int32) + 1 = nI (a + 1) from nI_1 a]
    unfold cntN
    by_cases c : hd s i = -5
    · rw [if_pos c, if_neg (fun q => (of_decide_eq_true q) c), ih (i + 1) n a (by omega) (by omega), Nat.zero_add]
    · rw [if_neg c, if_pos (decide_eq_true c), ih (i + 1) n (a + 1) (by omega) (by omega), Nat.add_assoc]
theorem k_countHeld {M : Mem} {st : Nat} {s : Row} (R : RS M st s) (hI : Inv s) : f_X6_countHeld st M = some (nI (hdN s), M) := by
  have b1 := hI.h1l
  unfold f_X6_countHeld hdN
  have := k_countHeld_l R hI (nh s) 0 LF 0 (by omega) (by unfold LF; omega)
  rwa [Nat.zero_add] at this
theorem k_countNumbered_l {M : Mem} {st : Nat} {s : Row} (R : RS M st s) (hI : Inv s) : ∀ (d i n a : Nat), i + d = nh s → d < n → l_X6_countNumbered_4 st n (nI a) (nI i) M = some (nI (a + cntN (drB s) i d), M) := by
  have b1 := hI.h1l
  intro d
  induction d with
  | zero =>
    intro i n a hi hn
    obtain ⟨n, rfl⟩ : ∃ z, n = z + 1 := ⟨n - 1, by omega⟩
    rw [l_X6_countNumbered_4_s, R.n1, hI.h1, if_pos ((nIle (by omega) (by omega)).mpr (by omega))]
    rfl
  | succ d ih =>
    intro i n a hi hn
    obtain ⟨n, rfl⟩ : ∃ z, n = z + 1 := ⟨n - 1, by omega⟩
    rw [l_X6_countNumbered_4_s, R.n1, hI.h1, if_neg (fun q => absurd ((nIle (by omega) (by omega)).mp q) (by omega)), ck_t (inbN (by omega) (by omega)), nN (by omega), R.no (by omega), show (nI i : Int32) + 1 = nI (i + 1) from nI_1 i, show (nI a : Int32) + 1 = nI (a + 1) from nI_1 a]
    unfold cntN
    cases c : drB s i with
    | false => rw [if_pos ((noI_iff hI (by omega)).mpr c), if_neg Bool.false_ne_true, ih (i + 1) n a (by omega) (by omega), Nat.zero_add]
    | true => rw [if_neg (fun q => by rw [(noI_iff hI (by omega)).mp q] at c; cases c), if_pos rfl, ih (i + 1) n (a + 1) (by omega) (by omega), Nat.add_assoc]
theorem k_countNumbered {M : Mem} {st : Nat} {s : Row} (R : RS M st s) (hI : Inv s) : f_X6_countNumbered st M = some (nI (drN s), M) := by
  have b1 := hI.h1l
  unfold f_X6_countNumbered drN
  have := k_countNumbered_l R hI (nh s) 0 LF 0 (by omega) (by unfold LF; omega)
  rwa [Nat.zero_add] at this
theorem k_heldFlats_l {M : Mem} {st : Nat} {s : Row} (R : RS M st s) (hI : Inv s) : ∀ (d i n : Nat) (a : Int32), i + d = nh s → d < n → l_X6_heldFlats_4 st n a (nI i) M = some (orI (fun h => if hd s h = -5 then 0 else (1 : Int32) <<< (hd s h &&& 31)) i d a, M) := by
  have b1 := hI.h1l
  intro d
  induction d with
  | zero =>
    intro i n a hi hn
    obtain ⟨n, rfl⟩ : ∃ z, n = z + 1 := ⟨n - 1, by omega⟩
    rw [l_X6_heldFlats_4_s, R.n1, hI.h1, if_pos ((nIle (by omega) (by omega)).mpr (by omega))]
    rfl
  | succ d ih =>
    intro i n a hi hn
    obtain ⟨n, rfl⟩ : ∃ z, n = z + 1 := ⟨n - 1, by omega⟩
    rw [l_X6_heldFlats_4_s, R.n1, hI.h1, if_neg (fun q => absurd ((nIle (by omega) (by omega)).mp q) (by omega)), ck_t (inbN (by omega) (by omega)), nN (by omega), R.hd (by omega), show (nI i : Int32) + 1 = nI (i + 1) from nI_1 i]
    unfold orI
    by_cases c : hd s i = -5
    · rw [if_pos c, if_pos c, Int32_or_zero]
      exact ih (i + 1) n _ (by omega) (by omega)
    · rw [if_neg c, if_neg c]
      exact ih (i + 1) n _ (by omega) (by omega)
theorem k_heldFlats {M : Mem} {st : Nat} {s : Row} (R : RS M st s) (hI : Inv s) : f_X6_heldFlats st M = some (hsI s, M) := by
  have b1 := hI.h1l
  unfold f_X6_heldFlats
  exact k_heldFlats_l R hI (nh s) 0 LF 0 (by omega) (by unfold LF; omega)
theorem k_holderOf_l {M : Mem} {st : Nat} {s : Row} (R : RS M st s) (hI : Inv s) (x : Int32) : ∀ (d i n : Nat), i + d = nh s → d < n → l_X6_holderOf_2 st x n (nI i) M = some (oI (fstO (fun h => decide (hd s h = x)) i d), M) := by
  have b1 := hI.h1l
  intro d
  induction d with
  | zero =>
    intro i n hi hn
    obtain ⟨n, rfl⟩ : ∃ z, n = z + 1 := ⟨n - 1, by omega⟩
    rw [l_X6_holderOf_2_s, R.n1, hI.h1, if_pos ((nIle (by omega) (by omega)).mpr (by omega))]
    rfl
  | succ d ih =>
    intro i n hi hn
    obtain ⟨n, rfl⟩ : ∃ z, n = z + 1 := ⟨n - 1, by omega⟩
    rw [l_X6_holderOf_2_s, R.n1, hI.h1, if_neg (fun q => absurd ((nIle (by omega) (by omega)).mp q) (by omega)), ck_t (inbN (by omega) (by omega)), nN (by omega), R.hd (by omega)]
    unfold fstO
    by_cases c : hd s i = x
    · rw [if_pos c, if_pos (decide_eq_true c)]
      rfl
    · rw [if_neg c, if_neg (fun q => c (of_decide_eq_true q)), show (nI i : Int32) + 1 = nI (i + 1) from nI_1 i]
      exact ih (i + 1) n (by omega) (by omega)
theorem k_holderOf {M : Mem} {st : Nat} {s : Row} (R : RS M st s) (hI : Inv s) (x : Int32) : f_X6_holderOf st x M = some (oI (hoO s x), M) := by
  have b1 := hI.h1l
  unfold f_X6_holderOf
  exact k_holderOf_l R hI x (nh s) 0 LF (by omega) (by unfold LF; omega)
theorem k_envyOf {M : Mem} {st : Nat} {s : Row} (R : RS M st s) (hI : Inv s) {h o : Nat} (hh : h < nh s) (ho : o < nh s) : f_X6_envyOf st (st + 16 + 2 * h) (st + 16 + 2 * o) M = some (evI s h o, M) := by
  unfold f_X6_envyOf evI enB
  rw [R.hd ho, k_wishesMore R hI hh, bd_s]
  rcases hd_cases hI ho with c | ⟨f, c1, c2, c3, c4⟩
  · have hw : wmB s h (hd s o) = false := by
      unfold wmB
      rw [c, plO_m5 hI hh]
    rw [hw, if_pos bI_f, Bool.false_and, Bool.and_false, Bool.and_false, if_neg Bool.false_ne_true]
  · rw [decide_eq_true c4, Bool.true_and]
    by_cases e : h = o
    · subst e
      have hw : wmB s h (hd s h) = false := by
        unfold wmB
        cases plO s h (hd s h) with
        | none => rfl
        | some k => exact decide_eq_false (Nat.lt_irrefl k)
      rw [hw, if_pos bI_f, decide_eq_false (fun q => q rfl), Bool.false_and, if_neg Bool.false_ne_true]
    · rw [decide_eq_true e, Bool.true_and]
      cases wmB s h (hd s o) with
      | false => rfl
      | true =>
        rw [if_neg bIne, c3, c2, k_isEligible R hI hh c1, bd_s]
        cases elB s h f with
        | false => rfl
        | true =>
          rw [if_neg bIne, k_stands R hI hh ho, bd_s]
          cases ahB s h o <;> rfl
theorem k_firstWish_l {M : Mem} {st : Nat} {s : Row} (R : RS M st s) (hI : Inv s) {h : Nat} (hh : h < nh s) (tk : Int32) : ∀ (d i n : Nat), i + d = fP s h 7 → d < n → l_X6_firstWishOutside_2 st tk (st + 16 + 2 * h) n (nI i) M = some (match fstO (fun k => decide ((tk >>> (s (30 + 14 * h + 8 + k) &&& 31)) &&& 1 = 0) && elB s h (li s h k)) i d with | none => -5 | some k => s (30 + 14 * h + 8 + k), M) := by
  have b1 := hI.h1l
  have b0 := hI.h0l
  obtain ⟨⟨l1, l2⟩, l3, -⟩ := hI.ls hh
  intro d
  induction d with
  | zero =>
    intro i n hi hn
    obtain ⟨n, rfl⟩ : ∃ z, n = z + 1 := ⟨n - 1, by omega⟩
    rw [l_X6_firstWishOutside_2_s, R.wc hh, l1, if_pos ((nIle (by omega) (by omega)).mpr (by omega))]
    rfl
  | succ d ih =>
    intro i n hi hn
    obtain ⟨n, rfl⟩ : ∃ z, n = z + 1 := ⟨n - 1, by omega⟩
    obtain ⟨l4, l5⟩ := l3 i (by omega)
    rw [l_X6_firstWishOutside_2_s, R.wc hh, l1, if_neg (fun q => absurd ((nIle (by omega) (by omega)).mp q) (by omega)), ck_t (inbN (by omega) (by omega)), nN (by omega), R.wi hh (by omega), show (nI i : Int32) + 1 = nI (i + 1) from nI_1 i]
    unfold fstO
    by_cases c : (tk >>> (s (30 + 14 * h + 8 + i) &&& 31)) &&& 1 = 0
    · rw [if_pos c, decide_eq_true c, Bool.true_and, l4, k_isEligible R hI hh l5, bd_s]
      cases c2 : elB s h (li s h i) with
      | false =>
        rw [if_pos bI_f, if_neg Bool.false_ne_true]
        exact ih (i + 1) n (by omega) (by omega)
      | true =>
        rw [if_neg bIne, if_pos rfl]
        show some (nI (li s h i), M) = some (s (30 + 14 * h + 8 + i), M)
        rw [l4]
    · rw [if_neg c, decide_eq_false c, Bool.false_and, if_neg Bool.false_ne_true]
      exact ih (i + 1) n (by omega) (by omega)
theorem k_firstWish {M : Mem} {st : Nat} {s : Row} (R : RS M st s) (hI : Inv s) {h : Nat} (hh : h < nh s) (tk : Int32) : f_X6_firstWishOutside st tk (st + 16 + 2 * h) M = some (foI s h tk, M) := by
  obtain ⟨⟨l1, l2⟩, -⟩ := hI.ls hh
  unfold f_X6_firstWishOutside
  exact k_firstWish_l R hI hh tk (fP s h 7) 0 LF (by omega) (by unfold LF; omega)
theorem k_placeIn_l {M : Mem} {st : Nat} {s : Row} (R : RS M st s) (hI : Inv s) {h : Nat} (hh : h < nh s) : ∀ (d i n a : Nat), i + d = nh s → d < n → l_X6_placeInOrder_16 st (st + 16 + 2 * h) n (nI a) (nI i) M = some (nI (a + cntN (fun k => ahB s k h) i d), M) := by
  have b1 := hI.h1l
  intro d
  induction d with
  | zero =>
    intro i n a hi hn
    obtain ⟨n, rfl⟩ : ∃ z, n = z + 1 := ⟨n - 1, by omega⟩
    rw [l_X6_placeInOrder_16_s, R.n1, hI.h1, if_pos ((nIle (by omega) (by omega)).mpr (by omega))]
    rfl
  | succ d ih =>
    intro i n a hi hn
    obtain ⟨n, rfl⟩ : ∃ z, n = z + 1 := ⟨n - 1, by omega⟩
    rw [l_X6_placeInOrder_16_s, R.n1, hI.h1, if_neg (fun q => absurd ((nIle (by omega) (by omega)).mp q) (by omega)), ck_t (inbN (by omega) (by omega)), nN (by omega), k_stands R hI (by omega) hh, bd_s, show (nI i : Int32) + 1 = nI (i + 1) from nI_1 i, show (nI a : Int32) + 1 = nI (a + 1) from nI_1 a]
    unfold cntN
    cases c : ahB s i h with
    | false => rw [if_pos bI_f, if_neg Bool.false_ne_true, ih (i + 1) n a (by omega) (by omega), Nat.zero_add]
    | true => rw [if_neg bIne, if_pos rfl, ih (i + 1) n (a + 1) (by omega) (by omega), Nat.add_assoc]
theorem k_placeIn {M : Mem} {st : Nat} {s : Row} (R : RS M st s) (hI : Inv s) {h : Nat} (hh : h < nh s) : f_X6_placeInOrder st (st + 16 + 2 * h) M = some (if drB s h = true then nI (poN s h) else -5, M) := by
  have b1 := hI.h1l
  unfold f_X6_placeInOrder
  rw [R.no hh]
  cases c : drB s h with
  | false => rw [if_pos ((noI_iff hI hh).mpr c), if_neg Bool.false_ne_true]
  | true =>
    rw [if_neg (fun q => by rw [(noI_iff hI hh).mp q] at c; cases c), if_pos rfl]
    have := k_placeIn_l R hI hh (nh s) 0 LF 0 (by omega) (by unfold LF; omega)
    rwa [Nat.zero_add] at this
