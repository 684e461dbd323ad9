theorem n4096 {k : Nat} (h : k < 4096) : ¬ (4096 : Int32) ≤ nI k := fun q => absurd ((nIle (a := 4096) (b := k) (by omega) (by omega)).mp q) (by omega)
theorem ExM_0 {A : Nat → Nat → Prop} {S : Nat} (hS : S < 4096) : ExM A 0 S ↔ S = 0 := by
  constructor
  · rintro ⟨N, hN, hb⟩
    refine Nat.eq_of_testBit_eq (fun j => ?_)
    rw [Nat.zero_testBit]
    by_cases c : j < 12
    · refine Bool.eq_false_iff.mpr (fun q => ?_)
      obtain ⟨h, hh⟩ := (hb j c).mp q
      exact absurd (hN.1 h j hh).1 (Nat.not_lt_zero _)
    · exact Nat.testBit_lt_two_pow (Nat.lt_of_lt_of_le hS (Nat.pow_le_pow_right (n := 2) (i := 12) (by omega) (by omega)))
  · rintro rfl
    refine ⟨fun _ => none, ⟨fun h f q => (by cases q), fun h h' f q => (by cases q)⟩, fun f _ => ?_⟩
    rw [Nat.zero_testBit]
    exact ⟨fun q => (by cases q), fun ⟨h, q⟩ => (by cases q)⟩
