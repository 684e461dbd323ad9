/-! RINGS -/
theorem oI_inj {s : Row} (hI : Inv s) {o : Option Nat} {a : Nat} (ho : ∀ x, o = some x → x < nh s) (ha : a < nh s) : oI o = nI a ↔ o = some a := by
  have b1 := hI.h1l
  cases o with
  | none => exact ⟨fun q => absurd q (nIm5 (by omega)), fun q => (by cases q)⟩
  | some x =>
    have := ho x rfl
    constructor
    · intro q
      rw [nI_inj (by omega) (by omega) (show nI x = nI a from q)]
    · intro q
      cases q
      rfl
def st1 (s : Row) (o : Option Nat) : Option Nat := match o with
  | none => none
  | some a => ptO s a
theorem st1_lt {s : Row} {o : Option Nat} {x : Nat} (h : st1 s o = some x) : x < nh s := by
  cases o with
  | none => cases h
  | some a => exact ptO_lt h
def itP (s : Row) : Nat → Option Nat → Option Nat
  | 0, o => o
  | k + 1, o => itP s k (st1 s o)
theorem itP_add {s : Row} : ∀ {a b : Nat} {o : Option Nat}, itP s (a + b) o = itP s b (itP s a o) := by
  intro a
  induction a with
  | zero => intro b o; rw [Nat.zero_add]; rfl
  | succ a ih =>
    intro b o
    rw [show a + 1 + b = a + b + 1 by omega]
    exact ih
theorem itP_none {s : Row} : ∀ {k : Nat}, itP s k none = none := by
  intro k
  induction k with
  | zero => rfl
  | succ k ih => exact ih
theorem itP_lt {s : Row} {a x : Nat} (ha : a < nh s) {k : Nat} (h : itP s k (some a) = some x) : x < nh s := by
  cases k with
  | zero => cases h; exact ha
  | succ k =>
    rw [itP_add (a := k) (b := 1)] at h
    exact st1_lt h
def rgL (s : Row) (a : Nat) : Nat → Option Nat → Bool
  | 0, _ => false
  | d + 1, o => decide (st1 s o = some a) || rgL s a d (st1 s o)
def mdL (s : Row) (a : Nat) : Nat → Option Nat → Bool
  | 0, o => decide (o = some a)
  | d + 1, o => decide (o = some a) || mdL s a d (st1 s o)
theorem rgL_iff {s : Row} {a : Nat} : ∀ {d : Nat} {o : Option Nat}, rgL s a d o = true ↔ ∃ m, 1 ≤ m ∧ m ≤ d ∧ itP s m o = some a := by
  intro d
  induction d with
  | zero => intro o; exact ⟨fun h => (by cases h), fun ⟨m, h1, h2, _⟩ => by omega⟩
  | succ d ih =>
    intro o
    unfold rgL
    rw [Bool.or_eq_true, ih, decide_eq_true_iff]
    constructor
    · rintro (h | ⟨m, h1, h2, h3⟩)
      · exact ⟨1, by omega, by omega, h⟩
      · exact ⟨m + 1, by omega, by omega, h3⟩
    · rintro ⟨m, h1, h2, h3⟩
      cases m with
      | zero => omega
      | succ m =>
        cases m with
        | zero => exact Or.inl h3
        | succ m => exact Or.inr ⟨m + 1, by omega, by omega, h3⟩
theorem mdL_iff {s : Row} {a : Nat} : ∀ {d : Nat} {o : Option Nat}, mdL s a d o = true ↔ ∃ m, m ≤ d ∧ itP s m o = some a := by
  intro d
  induction d with
  | zero =>
    intro o
    unfold mdL
    rw [decide_eq_true_iff]
    exact ⟨fun h => ⟨0, Nat.le_refl _, h⟩, fun ⟨m, h1, h2⟩ => by
      rw [show m = 0 by omega] at h2
      exact h2⟩
  | succ d ih =>
    intro o
    unfold mdL
    rw [Bool.or_eq_true, ih, decide_eq_true_iff]
    constructor
    · rintro (h | ⟨m, h1, h2⟩)
      · exact ⟨0, by omega, h⟩
      · exact ⟨m + 1, by omega, h2⟩
    · rintro ⟨m, h1, h2⟩
      cases m with
      | zero => exact Or.inl h2
      | succ m => exact Or.inr ⟨m, by omega, h2⟩
theorem php : ∀ {n m : Nat} {f : Nat → Nat}, (∀ i, i < m → f i < n) → (∀ i j, i < m → j < m → f i = f j → i = j) → m ≤ n := by
  intro n
  induction n with
  | zero =>
    intro m f h1 _
    rcases Nat.eq_zero_or_pos m with e | e
    · omega
    · exact absurd (h1 0 e) (Nat.not_lt_zero _)
  | succ n ih =>
    intro m f h1 h2
    by_cases hex : ∃ i0, i0 < m ∧ f i0 = n
    · obtain ⟨i0, g1, g2⟩ := hex
      have := ih (m := m - 1) (f := fun i => if i < i0 then f i else f (i + 1)) (fun i hi => by
        show (if i < i0 then f i else f (i + 1)) < n
        split
        · have a1 := h1 i (by omega)
          have a2 : f i ≠ n := fun q => by
            have := h2 i i0 (by omega) g1 (q.trans g2.symm)
            omega
          omega
        · have a1 := h1 (i + 1) (by omega)
          have a2 : f (i + 1) ≠ n := fun q => by
            have := h2 (i + 1) i0 (by omega) g1 (q.trans g2.symm)
            omega
          omega) (fun i j hi hj hq => by
        have hq2 : (if i < i0 then f i else f (i + 1)) = (if j < i0 then f j else f (j + 1)) := hq
        by_cases c1 : i < i0
        · by_cases c2 : j < i0
          · rw [if_pos c1, if_pos c2] at hq2
            exact h2 i j (by omega) (by omega) hq2
          · rw [if_pos c1, if_neg c2] at hq2
            have := h2 i (j + 1) (by omega) (by omega) hq2
            omega
        · by_cases c2 : j < i0
          · rw [if_neg c1, if_pos c2] at hq2
            have := h2 (i + 1) j (by omega) (by omega) hq2
            omega
          · rw [if_neg c1, if_neg c2] at hq2
            have := h2 (i + 1) (j + 1) (by omega) (by omega) hq2
            omega)
      omega
    · have := ih (m := m) (f := f) (fun i hi => by
        have a1 := h1 i hi
        have a2 : f i ≠ n := fun q => hex ⟨i, hi, q⟩
        omega) h2
      omega
/-- a ring through a: of period m -/
def Ring (s : Row) (a m : Nat) : Prop := 1 ≤ m ∧ itP s m (some a) = some a ∧ ∀ j, 1 ≤ j → j < m → itP s j (some a) ≠ some a
def vA (s : Row) (a k : Nat) : Nat := (itP s k (some a)).getD 0
theorem Ring.sm {s : Row} {a m : Nat} (r : Ring s a m) {k : Nat} (hk : k ≤ m) : itP s k (some a) = some (vA s a k) := by
  unfold vA
  cases hq : itP s k (some a) with
  | none =>
    have h1 := r.2.1
    rw [show m = k + (m - k) by omega, itP_add, hq, itP_none] at h1
    cases h1
  | some x => rfl
theorem Ring.inj {s : Row} {a m : Nat} (r : Ring s a m) {i j : Nat} (hi : i < m) (hj : j < m) (h : vA s a i = vA s a j) : i = j := by
  have key : ∀ i j, i < j → j < m → vA s a i = vA s a j → False := by
    intro i j hij hj h
    have h1 := r.2.1
    have e1 : itP s i (some a) = itP s j (some a) := by
      rw [r.sm (k := i) (by omega), r.sm (k := j) (by omega), h]
    refine r.2.2 (i + (m - j)) (by omega) (by omega) ?_
    rw [itP_add, e1, ← itP_add, show j + (m - j) = m by omega]
    exact h1
  rcases Nat.lt_trichotomy i j with z | z | z
  · exact (key i j z hj h).elim
  · exact z
  · exact (key j i z hi h.symm).elim
theorem Ring.lt {s : Row} {a m : Nat} (r : Ring s a m) (ha : a < nh s) {k : Nat} (hk : k ≤ m) : vA s a k < nh s := itP_lt ha (r.sm hk)
theorem Ring.le {s : Row} {a m : Nat} (r : Ring s a m) (ha : a < nh s) : m ≤ nh s := php (f := vA s a) (fun i hi => r.lt ha (by omega)) (fun i j hi hj h => r.inj hi hj h)
theorem Ring.nx {s : Row} {a m : Nat} (r : Ring s a m) {k : Nat} (hk : k < m) : ptO s (vA s a k) = some (vA s a (k + 1)) := by
  have h1 := r.sm (k := k + 1) (by omega)
  rw [itP_add (a := k) (b := 1), r.sm (by omega)] at h1
  exact h1
theorem vA_0 {s : Row} {a : Nat} : vA s a 0 = a := rfl
theorem Ring.end_ {s : Row} {a m : Nat} (r : Ring s a m) : vA s a m = a := by
  unfold vA
  rw [r.2.1]
  rfl
theorem Ring.ex {s : Row} {a : Nat} : ∀ {m : Nat}, 1 ≤ m → itP s m (some a) = some a → ∃ m', m' ≤ m ∧ Ring s a m' := by
  intro m
  induction m using Nat.strongRecOn with
  | ind m ih =>
    intro h1 h2
    by_cases hex : ∃ j, (1 ≤ j ∧ j < m) ∧ itP s j (some a) = some a
    · obtain ⟨j, ⟨j1, j2⟩, j3⟩ := hex
      obtain ⟨m', g1, g2⟩ := ih j j2 j1 j3
      exact ⟨m', by omega, g2⟩
    · exact ⟨m, Nat.le_refl _, h1, h2, fun j j1 j2 j3 => hex ⟨j, ⟨j1, j2⟩, j3⟩⟩
def rgB (s : Row) (a : Nat) : Bool := rgL s a (nh s) (some a)
theorem rgB_iff {s : Row} {a : Nat} (ha : a < nh s) : rgB s a = true ↔ ∃ m, Ring s a m := by
  unfold rgB
  rw [rgL_iff]
  constructor
  · rintro ⟨m, h1, h2, h3⟩
    obtain ⟨m', g1, g2⟩ := Ring.ex h1 h3
    exact ⟨m', g2⟩
  · rintro ⟨m, r⟩
    exact ⟨m, r.1, r.le ha, r.2.1⟩
theorem mdB {s : Row} (hI : Inv s) {a : Nat} (ha : a < nh s) : mdL s a 12 (ptO s a) = rgB s a := by
  have b1 := hI.h1l
  refine Bool.eq_iff_iff.mpr ?_
  rw [rgB_iff ha, mdL_iff]
  constructor
  · rintro ⟨m, h1, h2⟩
    obtain ⟨m', g1, g2⟩ := Ring.ex (s := s) (a := a) (m := m + 1) (by omega) h2
    exact ⟨m', g2⟩
  · rintro ⟨m, r⟩
    have := r.le ha
    have h1 := r.1
    refine ⟨m - 1, by omega, ?_⟩
    have h2 := r.2.1
    rw [show m = m - 1 + 1 by omega] at h2
    exact h2
def loO (s : Row) : Option Nat := fstO (rgB s) 0 (nh s)
/-! the class's rings -/
def PT (M : Mem) (s : Row) : Prop := M 248 1 = nI (nh s) ∧ ∀ j, j < nh s → M 249 j = oI (ptO s j)
theorem k_lookAt_l {st : Nat} {s : Row} (hst : st + 40 ≤ 248) (hI : Inv s) : ∀ (d i n : Nat) (M : Mem), RS M st s → M 248 1 = nI (nh s) → (∀ j, j < i → M 249 j = oI (ptO s j)) → i + d = nh s → d < n → ∃ M', l_X5_lookAt_10 st n (nI i) M = some (0, M') ∧ PT M' s ∧ ∀ q, q ≠ 249 → M' q = M q := by
  have b1 := hI.h1l
  intro d
  induction d with
  | zero =>
    intro i n M R h1 h2 hi hn
    obtain ⟨n, rfl⟩ : ∃ z, n = z + 1 := ⟨n - 1, by omega⟩
    refine ⟨M, ?_, ⟨h1, fun j hj => h2 j (by omega)⟩, fun _ _ => rfl⟩
    rw [l_X5_lookAt_10_s, h1, if_pos ((nIle (by omega) (by omega)).mpr (by omega))]
  | succ d ih =>
    intro i n M R h1 h2 hi hn
    obtain ⟨n, rfl⟩ : ∃ z, n = z + 1 := ⟨n - 1, by omega⟩
    rw [l_X5_lookAt_10_s, h1, if_neg (fun q => absurd ((nIle (by omega) (by omega)).mp q) (by omega)), ck_t (inbN (by omega) (by omega)), nN (by omega), k_pointsTo R hI (by omega), bd_s, ck_t (inbN (by omega) (by omega)), show (nI i : Int32) + 1 = nI (i + 1) from nI_1 i]
    unfold lt_
    obtain ⟨M', e1, e2, e3⟩ := ih (i + 1) n (up M 249 i (oI (ptO s i))) (R.co hI (fun j _ _ _ => up_ne (by omega))) (by rw [up_ne (by omega)]; exact h1) (fun j hj => by
      by_cases e : j = i
      · subst e
        exact up_same
      · rw [up_other (fun q => e q.2)]
        exact h2 j (by omega)) (by omega) (by omega)
    exact ⟨M', e1, e2, fun q hq => by rw [e3 q hq, up_ne hq]⟩
theorem k_lookAt {M : Mem} {st : Nat} {s : Row} (hst : st + 40 ≤ 248) (R : RS M st s) (hI : Inv s) : ∃ M', f_X5_lookAt st M = some (0, M') ∧ PT M' s ∧ ∀ q, q ≠ 248 → q ≠ 249 → M' q = M q := by
  have b1 := hI.h1l
  unfold f_X5_lookAt lt_
  obtain ⟨M', e1, e2, e3⟩ := k_lookAt_l hst hI (nh s) 0 LF (up M 248 1 (M st 3)) (R.co hI (fun j _ _ _ => up_ne (by omega))) (by rw [up_same, R.n1, hI.h1]) (fun j hj => absurd hj (Nat.not_lt_zero _)) (by omega) (by unfold LF; omega)
  exact ⟨M', e1, e2, fun q h1 h2 => by rw [e3 q h2, up_ne h1]⟩
theorem k_after {M : Mem} {s : Row} (hI : Inv s) (P : PT M s) {o : Option Nat} (ho : ∀ x, o = some x → x < nh s) : f_X5_after (oI o) M = some (oI (st1 s o), M) := by
  have b1 := hI.h1l
  unfold f_X5_after
  cases o with
  | none => rw [if_pos (show oI none < 0 by decide)]; rfl
  | some x =>
    have hx := ho x rfl
    rw [show oI (some x) = nI x from rfl, if_neg (nI_pos (by omega)), P.1, if_neg (fun q => absurd ((nIle (by omega) (by omega)).mp q) (by omega)), ck_t (inbN (by omega) (by omega)), nN (by omega), P.2 x hx]
    rfl
theorem k_isInRing_l {M : Mem} {s : Row} (hI : Inv s) (P : PT M s) {a : Nat} (ha : a < nh s) : ∀ (d i n : Nat) (o : Option Nat), (∀ x, o = some x → x < nh s) → i + d = nh s → d < n → l_X5_isInRing_4 (nI a) n (oI o) (nI i) M = some (bI (rgL s a d o), M) := by
  have b1 := hI.h1l
  intro d
  induction d with
  | zero =>
    intro i n o ho hi hn
    obtain ⟨n, rfl⟩ : ∃ z, n = z + 1 := ⟨n - 1, by omega⟩
    rw [l_X5_isInRing_4_s, P.1, if_pos ((nIle (by omega) (by omega)).mpr (by omega))]
    rfl
  | succ d ih =>
    intro i n o ho hi hn
    obtain ⟨n, rfl⟩ : ∃ z, n = z + 1 := ⟨n - 1, by omega⟩
    rw [l_X5_isInRing_4_s, P.1, if_neg (fun q => absurd ((nIle (by omega) (by omega)).mp q) (by omega)), k_after hI P ho, bd_s, show (nI i : Int32) + 1 = nI (i + 1) from nI_1 i]
    unfold rgL
    have h1 : ∀ x, st1 s o = some x → x < nh s := fun x hx => st1_lt hx
    by_cases c : st1 s o = some a
    · rw [if_pos ((oI_inj hI h1 ha).mpr c), decide_eq_true c]
      rfl
    · rw [if_neg (fun q => c ((oI_inj hI h1 ha).mp q)), decide_eq_false c, Bool.false_or]
      exact ih (i + 1) n (st1 s o) h1 (by omega) (by omega)
theorem k_isInRing {M : Mem} {s : Row} (hI : Inv s) (P : PT M s) {a : Nat} (ha : a < nh s) : f_X5_isInRing (nI a) M = some (bI (rgB s a), M) := by
  have b1 := hI.h1l
  unfold f_X5_isInRing rgB
  exact k_isInRing_l hI P ha (nh s) 0 LF (some a) (fun x hx => by cases hx; exact ha) (by omega) (by unfold LF; omega)
theorem k_countRings_l {M : Mem} {s : Row} (hI : Inv s) (P : PT M s) : ∀ (d i n a : Nat), i + d = nh s → d < n → l_X5_countHouseholds_4 n (nI a) (nI i) M = some (nI (a + cntN (rgB s) i d), M) := by
  have b1 := hI.h1l
  intro d
  induction d with
  | zero =>
    intro i n a hi hn
    obtain ⟨n, rfl⟩ : ∃ z, n = z + 1 := ⟨n - 1, by omega⟩
    rw [l_X5_countHouseholds_4_s, P.1, if_pos ((nIle (by omega) (by omega)).mpr (by omega))]
    rfl
  | succ d ih =>
    intro i n a hi hn
    obtain ⟨n, rfl⟩ : ∃ z, n = z + 1 := ⟨n - 1, by omega⟩
    rw [l_X5_countHouseholds_4_s, P.1, if_neg (fun q => absurd ((nIle (by omega) (by omega)).mp q) (by omega)), k_isInRing hI P (by omega), bd_s, show (nI i : Int32) + 1 = nI (i + 1) from nI_1 i, show (nI a : Int32) + 1 = nI (a + 1) from nI_1 a]
    unfold cntN
    cases c : rgB s i with
    | false => rw [if_pos bI_f, if_neg Bool.false_ne_true, ih (i + 1) n a (by omega) (by omega), Nat.zero_add]
    | true => rw [if_neg bIne, if_pos rfl, ih (i + 1) n (a + 1) (by omega) (by omega), Nat.add_assoc]
theorem k_countRings {M : Mem} {s : Row} (hI : Inv s) (P : PT M s) : f_X5_countHouseholds M = some (nI (cntN (rgB s) 0 (nh s)), M) := by
  have b1 := hI.h1l
  unfold f_X5_countHouseholds
  have := k_countRings_l hI P (nh s) 0 LF 0 (by omega) (by unfold LF; omega)
  rwa [Nat.zero_add] at this
theorem k_lowest_l {M : Mem} {s : Row} (hI : Inv s) (P : PT M s) : ∀ (d i n : Nat), i + d = nh s → d < n → l_X5_lowestHousehold_2 n (nI i) M = some (oI (fstO (rgB s) i d), M) := by
  have b1 := hI.h1l
  intro d
  induction d with
  | zero =>
    intro i n hi hn
    obtain ⟨n, rfl⟩ : ∃ z, n = z + 1 := ⟨n - 1, by omega⟩
    rw [l_X5_lowestHousehold_2_s, P.1, if_pos ((nIle (by omega) (by omega)).mpr (by omega))]
    rfl
  | succ d ih =>
    intro i n hi hn
    obtain ⟨n, rfl⟩ : ∃ z, n = z + 1 := ⟨n - 1, by omega⟩
    rw [l_X5_lowestHousehold_2_s, P.1, if_neg (fun q => absurd ((nIle (by omega) (by omega)).mp q) (by omega)), k_isInRing hI P (by omega), bd_s, show (nI i : Int32) + 1 = nI (i + 1) from nI_1 i]
    unfold fstO
    cases c : rgB s i with
    | false =>
      rw [if_pos bI_f, if_neg Bool.false_ne_true]
      exact ih (i + 1) n (by omega) (by omega)
    | true => rw [if_neg bIne, if_pos rfl]; rfl
theorem k_lowest {M : Mem} {s : Row} (hI : Inv s) (P : PT M s) : f_X5_lowestHousehold M = some (oI (loO s), M) := by
  have b1 := hI.h1l
  unfold f_X5_lowestHousehold
  exact k_lowest_l hI P (nh s) 0 LF (by omega) (by unfold LF; omega)
