theorem n4096 {k : Nat} (h : k < 4096) : ¬ (4096 : Int32) ≤ nI k := fun q => absurd ((nIle (a := 4096) (b := k) (by omega) (by omega)).mp q) (by omega)
theorem most2_l (K : Mem → Option (Int32 × Mem)) : ∀ (d i n : Nat) (M : Mem), i + d = 4096 → d < n → ∃ M', l_X8_most_2 K n (nI i) M = K M' ∧ (∀ S, i ≤ S → S < 4096 → M' 263 S = if S = 0 then 1 else 0) ∧ (∀ S, S < i → M' 263 S = M 263 S) ∧ ∀ q, q ≠ 263 → M' q = M q := by
  intro d
  induction d with
  | zero =>
    intro i n M hi hn
    obtain ⟨n, rfl⟩ : ∃ z, n = z + 1 := ⟨n - 1, by omega⟩
    refine ⟨M, ?_, fun S a b => by omega, fun _ _ => rfl, fun _ _ => rfl⟩
    rw [l_X8_most_2_s, if_pos (show (4096 : Int32) ≤ nI i by rw [show i = 4096 by omega]; decide)]
  | succ d ih =>
    intro i n M hi hn
    obtain ⟨n, rfl⟩ : ∃ z, n = z + 1 := ⟨n - 1, by omega⟩
    have step : ∀ v : Int32, v = (if i = 0 then 1 else 0) → ∃ M', l_X8_most_2 K n (nI (i + 1)) (up M 263 i v) = K M' ∧ (∀ S, i ≤ S → S < 4096 → M' 263 S = if S = 0 then 1 else 0) ∧ (∀ S, S < i → M' 263 S = M 263 S) ∧ ∀ q, q ≠ 263 → M' q = M q := fun v hv => by
      obtain ⟨M', e1, e2, e3, e4⟩ := ih (i + 1) n (up M 263 i v) (by omega) (by omega)
      refine ⟨M', e1, fun S a b => ?_, fun S a => ?_, fun q hq => by rw [e4 q hq, up_ne hq]⟩
      · by_cases e : S = i
        · subst e
          rw [e3 S (by omega), up_same, hv]
        · exact e2 S (by omega) b
      · rw [e3 S (by omega), up_other (by omega)]
    rw [l_X8_most_2_s, if_neg (n4096 (by omega))]
    by_cases c : i = 0
    · rw [if_pos (show nI i = (0 : Int32) by rw [c]; rfl), ck_t (inbN (by omega) (by omega)), nN (by omega), lt_e, show (nI i : Int32) + 1 = nI (i + 1) from nI_1 i]
      exact step _ (by rw [if_pos c]; rfl)
    · rw [if_neg (show ¬ nI i = (0 : Int32) from fun q => c (nI_inj (b := 0) (by omega) (by omega) q)), ck_t (inbN (by omega) (by omega)), nN (by omega), lt_e, show (nI i : Int32) + 1 = nI (i + 1) from nI_1 i]
      exact step _ (by rw [if_neg c]; rfl)
theorem ExM_0 {A : Nat → Nat → Prop} {S : Nat} (hS : S < 4096) : ExM A 0 S ↔ S = 0 := by
  constructor
  · rintro ⟨N, hN, hb⟩
    refine Nat.eq_of_testBit_eq (fun j => ?_)
    rw [Nat.zero_testBit]
    by_cases c : j < 12
    · refine Bool.eq_false_iff.mpr (fun q => ?_)
      obtain ⟨h, hh⟩ := (hb j c).mp q
      exact absurd (hN.1 h j hh).1 (Nat.not_lt_zero _)
    · exact Nat.testBit_lt_two_pow (Nat.lt_of_lt_of_le hS (Nat.pow_le_pow_right (n := 2) (i := 12) (by omega) (by omega)))
  · rintro rfl
    refine ⟨fun _ => none, ⟨fun h f q => (by cases q), fun h h' f q => (by cases q)⟩, fun f _ => ?_⟩
    rw [Nat.zero_testBit]
    exact ⟨fun q => (by cases q), fun ⟨h, q⟩ => (by cases q)⟩
