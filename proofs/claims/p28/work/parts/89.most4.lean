/-! the reference's sets -/
def gdA (s : Row) (h f : Nat) : Prop := ∃ k, k < fP s h 7 ∧ li s h k = f ∧ elB s h f = true
def goI (s : Row) (h : Nat) : Int32 := orI (fun k => if bI (elB s h (li s h k)) = 0 then 0 else (1 : Int32) <<< (nI (li s h k) &&& 31)) 0 (fP s h 7) 0
theorem goI_bt {s : Row} (hI : Inv s) {h : Nat} (hh : h < nh s) {f : Nat} (hf : f < 32) : bt (goI s h) f = true ↔ gdA s h f := by
  have b0 := hI.h0l
  obtain ⟨⟨l1, l2⟩, l3, -⟩ := hI.ls hh
  unfold goI
  rw [orI_bt, bt_zero, Bool.false_or, anyB_iff]
  constructor
  · rintro ⟨k, -, k2, k3⟩
    obtain ⟨l4, l5⟩ := l3 k (by omega)
    by_cases c : bI (elB s h (li s h k)) = 0
    · rw [if_pos c, bt_zero] at k3
      cases k3
    · rw [if_neg c, bt_shl (li s h k) (by omega) f hf] at k3
      have e := of_decide_eq_true k3
      refine ⟨k, by omega, e.symm, ?_⟩
      rw [e]
      cases q : elB s h (li s h k) with
      | true => rfl
      | false =>
        rw [q] at c
        exact absurd rfl c
  · rintro ⟨k, k1, k2, k3⟩
    obtain ⟨l4, l5⟩ := l3 k k1
    refine ⟨k, Nat.zero_le _, by omega, ?_⟩
    rw [k2, k3, if_neg bIne, bt_shl f (by omega) f hf]
    exact decide_eq_true rfl
