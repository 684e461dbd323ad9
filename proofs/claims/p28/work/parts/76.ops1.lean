/-! THE QUESTIONS -/
theorem bIf {b : Bool} (h : ¬ b = true) : bI b = 0 := by
  cases b
  · rfl
  · exact absurd rfl h
theorem lt_inb {b : Int32} {n : Nat} (hn : n < 2147483648) (h0 : 0 ≤ b) (h : b < nI n) : ∃ k, k < n ∧ b = nI k := inb_ex (n := n) (by
  rw [Int32.le_iff_toInt_le, Int32.toInt_zero] at h0
  rw [Int32.lt_iff_toInt_lt, nI_toInt hn] at h
  exact decide_eq_true ⟨h0, h⟩) hn
