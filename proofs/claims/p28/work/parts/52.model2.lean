theorem bIne : ¬ bI true = 0 := by decide
theorem Int32_or_zero (x : Int32) : x ||| 0 = x := by
  exact Int32.or_zero
theorem hd_cases {s : Row} (hI : Inv s) {h : Nat} (hh : h < nh s) : hd s h = -5 ∨ (∃ f, f < nf s ∧ hd s h = nI f ∧ (hd s h).toNatClampNeg = f ∧ ¬ hd s h = -5) := by
  have b0 := hI.h0l
  rcases hI.hdk hh with h1 | ⟨f, h1, h2⟩
  · exact Or.inl h1
  · exact Or.inr ⟨f, h1, h2, by rw [h2, nN (by omega)], by rw [h2]; exact nIne5 (by omega)⟩
def wrB (s : Row) (h : Nat) : Bool := anyB (fun o => enB s h o && ahB s h o) 0 (nh s)
/-- whether a reason holds -/
def rsB (s : Row) (h r : Nat) : Bool := if r = 0 then drB s h && (decide (hd s h = -5) && decide ((0 : Int32) < s (30 + 14 * h + 6))) else if r = 1 then decide (hd s h ≠ -5) && decide (rm s (hd s h).toNatClampNeg + 1 < fP s h 0) else wrB s h
def prN (s : Row) (least : Int32) : Nat → Nat → Nat
  | _, 0 => 0
  | k, d + 1 => (if evI s (k / nh s) (k % nh s) < least then 0 else 1) + prN s least (k + 1) d
/-- pointing: looked for from the last wish to the first -/
def ptP (s : Row) (h k : Nat) : Bool := (hoO s (s (30 + 14 * h + 8 + k))).isSome && (elB s h (li s h k) && wmB s h (s (30 + 14 * h + 8 + k)))
theorem hoO_lt {s : Row} {x : Int32} {o : Nat} (h : hoO s x = some o) : o < nh s ∧ hd s o = x := by
  obtain ⟨-, h2, h3, -⟩ := fstO_some h
  exact ⟨by omega, of_decide_eq_true h3⟩
theorem ptO_lt {s : Row} {h o : Nat} (hp : ptO s h = some o) : o < nh s := by
  unfold ptO at hp
  by_cases c : hd s h = -5
  · rw [if_pos c] at hp
    cases hp
  · rw [if_neg c] at hp
    cases hq : ptK s h with
    | none => rw [hq] at hp; cases hp
    | some k =>
      rw [hq] at hp
      exact (hoO_lt hp).1
