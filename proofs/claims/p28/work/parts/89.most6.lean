/-- without the last household: the set loses its flat, or stays -/
theorem ExM_dn {A : Nat → Nat → Prop} (hA12 : ∀ h f, A h f → f < 12) {m S : Nat} (hS : S < 4096) (h : ExM A (m + 1) S) : ExM A m S ∨ ∃ T f, T < 4096 ∧ f < 12 ∧ A m f ∧ T.testBit f = false ∧ S = T ||| 2 ^ f ∧ ExM A m T := by
  obtain ⟨N, hN, hb⟩ := h
  cases hq : N m with
  | none =>
    refine Or.inl ⟨N, ⟨fun h f q => ?_, hN.2⟩, hb⟩
    obtain ⟨a1, a2⟩ := hN.1 h f q
    refine ⟨?_, a2⟩
    rcases Nat.lt_or_ge h m with z | z
    · exact z
    · rw [show h = m by omega, hq] at q
      cases q
  | some f =>
    have hA := (hN.1 m f hq).2
    have hf := hA12 m f hA
    refine Or.inr ⟨S ^^^ 2 ^ f, f, Nat.xor_lt_two_pow (n := 12) hS (Nat.pow_lt_pow_right (by omega) hf), hf, hA, ?_, ?_, fun h => if h = m then none else N h, ⟨fun h g hg => ?_, fun h h' g hg hg' => ?_⟩, fun g hg => ?_⟩
    · rw [Nat.testBit_xor, Nat.testBit_two_pow, decide_eq_true rfl, (hb f hf).mpr ⟨m, hq⟩]
      rfl
    · refine Nat.eq_of_testBit_eq (fun j => ?_)
      rw [Nat.testBit_or, Nat.testBit_xor, Nat.testBit_two_pow]
      by_cases e : f = j
      · rw [← e, (hb f hf).mpr ⟨m, hq⟩, decide_eq_true rfl]
        rfl
      · rw [decide_eq_false e, Bool.xor_false, Bool.or_false]
    · have hg2 : (if h = m then none else N h) = some g := hg
      by_cases e : h = m
      · rw [if_pos e] at hg2
        cases hg2
      · rw [if_neg e] at hg2
        obtain ⟨a1, a2⟩ := hN.1 h g hg2
        exact ⟨by omega, a2⟩
    · have hg2 : (if h = m then none else N h) = some g := hg
      have hg3 : (if h' = m then none else N h') = some g := hg'
      by_cases e : h = m
      · rw [if_pos e] at hg2
        cases hg2
      · by_cases e' : h' = m
        · rw [if_pos e'] at hg3
          cases hg3
        · rw [if_neg e] at hg2
          rw [if_neg e'] at hg3
          exact hN.2 h h' g hg2 hg3
    · rw [Nat.testBit_xor, Nat.testBit_two_pow]
      constructor
      · intro q
        by_cases e : f = g
        · rw [← e, (hb f hf).mpr ⟨m, hq⟩, decide_eq_true rfl] at q
          cases q
        · rw [decide_eq_false e, Bool.xor_false] at q
          obtain ⟨h, hh⟩ := (hb g hg).mp q
          refine ⟨h, ?_⟩
          show (if h = m then none else N h) = some g
          rw [if_neg (fun e2 => by
            rw [e2, hq] at hh
            exact e (Option.some.inj hh))]
          exact hh
      · rintro ⟨h, hh⟩
        have hh2 : (if h = m then none else N h) = some g := hh
        by_cases e : h = m
        · rw [if_pos e] at hh2
          cases hh2
        · rw [if_neg e] at hh2
          have e2 : f ≠ g := fun z => e (hN.2 h m g hh2 (by rw [hq, z]))
          rw [decide_eq_false e2, Bool.xor_false]
          exact (hb g hg).mpr ⟨h, hh2⟩
