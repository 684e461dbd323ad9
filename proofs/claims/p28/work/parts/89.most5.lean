theorem bt_nI {S j : Nat} (hj : j < 32) : bt (nI S) j = S.testBit j := by
  unfold bt
  show (BitVec.ofNat 32 S).getLsbD j = S.testBit j
  rw [BitVec.getLsbD_ofNat, decide_eq_true hj, Bool.true_and]
theorem bt_not {x : Int32} {j : Nat} (hj : j < 32) : bt (x ^^^ -1) j = !bt x j := by
  unfold bt
  rw [Int32.toBitVec_xor, BitVec.getLsbD_xor]
  have : (-1 : Int32).toBitVec.getLsbD j = true := by
    have h : ∀ j, j < 32 → (-1 : Int32).toBitVec.getLsbD j = true := by decide +kernel
    exact h j hj
  rw [this, Bool.xor_true]
theorem nI_or {S f : Nat} (hf : f < 12) : nI S ||| ((1 : Int32) <<< (nI f &&& 31)) = nI (S ||| 2 ^ f) := by
  refine bt_eq (fun j hj => ?_)
  rw [bt_or, bt_nI hj, bt_nI hj, bt_shl f hf j hj, Nat.testBit_or, Nat.testBit_two_pow]
  congr 1
  exact decide_eq_decide.mpr ⟨fun e => e.symm, fun e => e.symm⟩
theorem or_lt {S f : Nat} (hS : S < 4096) (hf : f < 12) : S ||| 2 ^ f < 4096 := Nat.or_lt_two_pow (n := 12) hS (Nat.pow_lt_pow_right (by omega) hf)
theorem or_gt {S f : Nat} (h : S.testBit f = false) : S < S ||| 2 ^ f := by
  refine Nat.lt_of_le_of_ne Nat.left_le_or (fun e => ?_)
  have h1 : (S ||| 2 ^ f).testBit f = true := by
    rw [Nat.testBit_or, Nat.testBit_two_pow, decide_eq_true rfl, Bool.or_true]
  rw [← e, h] at h1
  cases h1
/-- the flats of a matching: a set -/
def ExM (A : Nat → Nat → Prop) (m S : Nat) : Prop := ∃ N, Mat A m N ∧ ∀ f, f < 12 → (S.testBit f = true ↔ ∃ h, N h = some f)
theorem ExM_up {A : Nat → Nat → Prop} {m S f : Nat} (hf : f < 12) (hA : A m f) (hS : S.testBit f = false) (h : ExM A m S) : ExM A (m + 1) (S ||| 2 ^ f) := by
  obtain ⟨N, hN, hb⟩ := h
  have hfree : ∀ h, N h ≠ some f := fun h q => by
    have := (hb f hf).mpr ⟨h, q⟩
    rw [hS] at this
    cases this
  have hmN : ∀ g, N m ≠ some g := fun g q => by
    have := (hN.1 m g q).1
    omega
  refine ⟨fun h => if h = m then some f else N h, ⟨fun h g hg => ?_, fun h h' g hg hg' => ?_⟩, fun g hg => ?_⟩
  · have hg2 : (if h = m then some f else N h) = some g := hg
    by_cases e : h = m
    · rw [if_pos e] at hg2
      cases hg2
      exact ⟨by omega, by rw [e]; exact hA⟩
    · rw [if_neg e] at hg2
      obtain ⟨a1, a2⟩ := hN.1 h g hg2
      exact ⟨by omega, a2⟩
  · have hg2 : (if h = m then some f else N h) = some g := hg
    have hg3 : (if h' = m then some f else N h') = some g := hg'
    by_cases e : h = m
    · by_cases e' : h' = m
      · omega
      · rw [if_pos e] at hg2
        rw [if_neg e'] at hg3
        cases hg2
        exact absurd hg3 (hfree h')
    · by_cases e' : h' = m
      · rw [if_neg e] at hg2
        rw [if_pos e'] at hg3
        cases hg3
        exact absurd hg2 (hfree h)
      · rw [if_neg e] at hg2
        rw [if_neg e'] at hg3
        exact hN.2 h h' g hg2 hg3
  · rw [Nat.testBit_or, Nat.testBit_two_pow, Bool.or_eq_true]
    constructor
    · rintro (q | q)
      · obtain ⟨h, hh⟩ := (hb g hg).mp q
        refine ⟨h, ?_⟩
        show (if h = m then some f else N h) = some g
        rw [if_neg (fun e => hmN g (by rw [← e]; exact hh))]
        exact hh
      · refine ⟨m, ?_⟩
        show (if m = m then some f else N m) = some g
        rw [if_pos rfl, of_decide_eq_true q]
    · rintro ⟨h, hh⟩
      have hh2 : (if h = m then some f else N h) = some g := hh
      by_cases e : h = m
      · rw [if_pos e] at hh2
        cases hh2
        exact Or.inr (decide_eq_true rfl)
      · rw [if_neg e] at hh2
        exact Or.inl ((hb g hg).mpr ⟨h, hh2⟩)
theorem ExM_mono {A : Nat → Nat → Prop} {m S : Nat} (h : ExM A m S) : ExM A (m + 1) S := by
  obtain ⟨N, hN, hb⟩ := h
  exact ⟨N, ⟨fun h f q => ⟨by have := (hN.1 h f q).1; omega, (hN.1 h f q).2⟩, hN.2⟩, hb⟩
