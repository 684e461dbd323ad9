/-! the reference's sets -/
def gdA (s : Row) (h f : Nat) : Prop := ∃ k, k < fP s h 7 ∧ li s h k = f ∧ elB s h f = true
def goI (s : Row) (h : Nat) : Int32 := orI (fun k => if bI (elB s h (li s h k)) = 0 then 0 else (1 : Int32) <<< (nI (li s h k) &&& 31)) 0 (fP s h 7) 0
theorem goods_l {M : Mem} (hI : Inv (M 256)) {h : Nat} (hh : h < nh (M 256)) : ∀ (d i n : Nat) (a : Int32), i + d = fP (M 256) h 7 → d < n → l_X8_goods_4 (nI h) n a (nI i) M = some (orI (fun k => if bI (elB (M 256) h (li (M 256) h k)) = 0 then 0 else (1 : Int32) <<< (nI (li (M 256) h k) &&& 31)) i d a, M) := by
  have b1 := hI.h1l
  obtain ⟨⟨l1, l2⟩, l3, -⟩ := hI.ls hh
  intro d
  induction d with
  | zero =>
    intro i n a hi hn
    obtain ⟨n, rfl⟩ : ∃ z, n = z + 1 := ⟨n - 1, by omega⟩
    rw [l_X8_goods_4_s, of7 (by omega), bd_s, l1, if_pos ((nIle (by omega) (by omega)).mpr (by omega))]
    rfl
  | succ d ih =>
    intro i n a hi hn
    obtain ⟨n, rfl⟩ : ∃ z, n = z + 1 := ⟨n - 1, by omega⟩
    obtain ⟨l4, l5⟩ := l3 i (by omega)
    rw [l_X8_goods_4_s, of7 (by omega), bd_s, l1, if_neg (fun q => absurd ((nIle (by omega) (by omega)).mp q) (by omega)), show (8 : Int32) + nI i = nI (8 + i) from nI_add 8 i, of_n (k := 8 + i) (by omega) (by omega) rfl, bd_s, show (30 + 14 * h + (8 + i)) = 30 + 14 * h + 8 + i by omega, l4, isEligible_n hI hh l5, bd_s, show (nI i : Int32) + 1 = nI (i + 1) from nI_1 i]
    unfold orI
    by_cases c : bI (elB (M 256) h (li (M 256) h i)) = 0
    · rw [if_pos c, if_pos c]
      exact ih (i + 1) n _ (by omega) (by omega)
    · rw [if_neg c, if_neg c]
      exact ih (i + 1) n _ (by omega) (by omega)
theorem goods_n {M : Mem} (hI : Inv (M 256)) {h : Nat} (hh : h < nh (M 256)) : f_X8_goods (nI h) M = some (goI (M 256) h, M) := by
  obtain ⟨⟨l1, l2⟩, -⟩ := hI.ls hh
  unfold f_X8_goods goI
  exact goods_l hI hh (fP (M 256) h 7) 0 LF 0 (by omega) (by unfold LF; omega)
theorem goI_bt {s : Row} (hI : Inv s) {h : Nat} (hh : h < nh s) {f : Nat} (hf : f < 32) : bt (goI s h) f = true ↔ gdA s h f := by
  have b0 := hI.h0l
  obtain ⟨⟨l1, l2⟩, l3, -⟩ := hI.ls hh
  unfold goI
  rw [orI_bt, bt_zero, Bool.false_or, anyB_iff]
  constructor
  · rintro ⟨k, -, k2, k3⟩
    obtain ⟨l4, l5⟩ := l3 k (by omega)
    by_cases c : bI (elB s h (li s h k)) = 0
    · rw [if_pos c, bt_zero] at k3
      cases k3
    · rw [if_neg c, bt_shl (li s h k) (by omega) f hf] at k3
      have e := of_decide_eq_true k3
      refine ⟨k, by omega, e.symm, ?_⟩
      rw [e]
      cases q : elB s h (li s h k) with
      | true => rfl
      | false =>
        rw [q] at c
        exact absurd rfl c
  · rintro ⟨k, k1, k2, k3⟩
    obtain ⟨l4, l5⟩ := l3 k k1
    refine ⟨k, Nat.zero_le _, by omega, ?_⟩
    rw [k2, k3, if_neg bIne, bt_shl f (by omega) f hf]
    exact decide_eq_true rfl
