/-- what the sets say when those above X are worked on for household m -/
def DPi (A : Nat → Nat → Prop) (m X : Nat) (M : Mem) : Prop := ∀ T, T < 4096 → (M 263 T = 0 ∨ M 263 T = 1) ∧ (M 263 T = 1 ↔ (ExM A m T ∨ ∃ U f, X ≤ U ∧ U < 4096 ∧ f < 12 ∧ A m f ∧ U.testBit f = false ∧ T = U ||| 2 ^ f ∧ ExM A m U))
theorem DPi_all {A : Nat → Nat → Prop} (hA12 : ∀ h f, A h f → f < 12) {m : Nat} {M : Mem} (h : DPi A m 0 M) : DPi A (m + 1) 4096 M := by
  intro T hT
  obtain ⟨h1, h2⟩ := h T hT
  refine ⟨h1, h2.trans ⟨fun q => ?_, fun q => ?_⟩⟩
  · rcases q with q | ⟨U, f, -, -, u3, u4, u5, u6, u7⟩
    · exact Or.inl (ExM_mono q)
    · rw [u6]
      exact Or.inl (ExM_up u3 u4 u5 u7)
  · rcases q with q | ⟨U, f, u1, u2, -⟩
    · rcases ExM_dn hA12 hT q with g | ⟨U, f, g1, g2, g3, g4, g5, g6⟩
      · exact Or.inl g
      · exact Or.inr ⟨U, f, Nat.zero_le _, g1, g2, g3, g4, g5, g6⟩
    · omega
