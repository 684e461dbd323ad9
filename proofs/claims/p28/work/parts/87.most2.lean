theorem cntN_or {p q : Nat → Bool} : ∀ {d i : Nat}, (∀ j, i ≤ j → j < i + d → p j = true → q j = false) → cntN (fun j => p j || q j) i d = cntN p i d + cntN q i d := by
  intro d
  induction d with
  | zero => intro i _; rfl
  | succ d ih =>
    intro i h
    unfold cntN
    rw [ih (fun j a b => h j (by omega) (by omega))]
    have h0 := h i (Nat.le_refl _) (by omega)
    cases hp : p i with
    | true =>
      rw [h0 hp]
      show 1 + _ = 1 + _ + (0 + _)
      omega
    | false =>
      cases hq : q i with
      | true =>
        show 1 + _ = 0 + _ + (1 + _)
        omega
      | false =>
        show 0 + _ = 0 + _ + (0 + _)
        omega
/-- the flats that the households of Q have by K -/
def rcB (K : Nat → Option Nat) (Q : Nat → Bool) (m f : Nat) : Bool := anyB (fun h => Q h && decide (K h = some f)) 0 m
theorem rcB_iff {K : Nat → Option Nat} {Q : Nat → Bool} {m f : Nat} : rcB K Q m f = true ↔ ∃ h, h < m ∧ Q h = true ∧ K h = some f := by
  unfold rcB
  rw [anyB_iff]
  constructor
  · rintro ⟨h, -, h2, h3⟩
    rw [Bool.and_eq_true] at h3
    exact ⟨h, by omega, h3.1, of_decide_eq_true h3.2⟩
  · rintro ⟨h, h1, h2, h3⟩
    exact ⟨h, Nat.zero_le _, by omega, by rw [h2, decide_eq_true h3]; rfl⟩
/-- N without the last one of them, as great: where the search from it finds nothing -/
def swN (N K : Nat → Option Nat) (Q : Nat → Bool) (m h : Nat) : Option Nat := if h < m then (if Q h = true then K h else match N h with
  | none => none
  | some f => if rcB K Q m f = true then none else some f) else none
theorem swN_mat {A : Nat → Nat → Prop} {m : Nat} {N K : Nat → Option Nat} {Q : Nat → Bool} (hN : Mat A (m + 1) N) (hK : Mat A m K) : Mat A m (swN N K Q m) := by
  have key : ∀ h f, swN N K Q m h = some f → h < m ∧ ((Q h = true ∧ K h = some f) ∨ (Q h = false ∧ N h = some f ∧ rcB K Q m f = false)) := by
    intro h f hs
    unfold swN at hs
    by_cases c : h < m
    · rw [if_pos c] at hs
      refine ⟨c, ?_⟩
      by_cases c2 : Q h = true
      · rw [if_pos c2] at hs
        exact Or.inl ⟨c2, hs⟩
      · rw [if_neg c2] at hs
        cases hq : N h with
        | none => rw [hq] at hs; cases hs
        | some f' =>
          rw [hq] at hs
          have hs2 : (if rcB K Q m f' = true then none else some f') = some f := hs
          by_cases c3 : rcB K Q m f' = true
          · rw [if_pos c3] at hs2
            cases hs2
          · rw [if_neg c3] at hs2
            cases hs2
            exact Or.inr ⟨Bool.eq_false_iff.mpr c2, rfl, Bool.eq_false_iff.mpr c3⟩
    · rw [if_neg c] at hs
      cases hs
  refine ⟨fun h f hs => ?_, fun h h' f hs hs' => ?_⟩
  · obtain ⟨h1, h2 | h2⟩ := key h f hs
    · exact ⟨h1, (hK.1 h f h2.2).2⟩
    · exact ⟨h1, (hN.1 h f h2.2.1).2⟩
  · obtain ⟨h1, h2⟩ := key h f hs
    obtain ⟨h1', h2'⟩ := key h' f hs'
    rcases h2 with ⟨a1, a2⟩ | ⟨a1, a2, a3⟩
    · rcases h2' with ⟨b1, b2⟩ | ⟨b1, b2, b3⟩
      · exact hK.2 h h' f a2 b2
      · rw [rcB_iff.mpr ⟨h, h1, a1, a2⟩] at b3
        cases b3
    · rcases h2' with ⟨b1, b2⟩ | ⟨b1, b2, b3⟩
      · rw [rcB_iff.mpr ⟨h', h1', b1, b2⟩] at a3
        cases a3
      · exact hN.2 h h' f a2 b2
