/-! an appeal -/
def apY (s : Row) (h r : Nat) : Row := ur (ur (ur s (30 + 14 * h + 5) (nI (fP s h 5 + 1))) (30 + 14 * h + 3) (nI (fP s h 3 + (1 + r)))) 3 (s 3 + 1)
def apN (s : Row) (h : Nat) : Row := ur (ur (ur s (30 + 14 * h + 5) (nI (fP s h 5 + 1))) 3 (s 3 + 1)) 4 (s 4 + 1)
theorem sumN_inc {f f' : Nat → Nat} {h : Nat} (h1 : f' h = f h + 1) (h2 : ∀ i, i ≠ h → f' i = f i) : ∀ {n : Nat}, h < n → sumN f' n = sumN f n + 1 := by
  intro n
  induction n with
  | zero => intro q; omega
  | succ n ih =>
    intro q
    unfold sumN
    by_cases e : h = n
    · subst e
      rw [h1, sumN_congr (f := f') (g := f) (fun i hi => h2 i (by omega))]
      omega
    · rw [ih (by omega), h2 n (by omega)]
      omega
theorem ap_inv {s s' : Row} (hI : Inv s) {h : Nat} (hh : h < nh s) (h2 : fP s h 5 < 2) (g : Agr s s' h) (hs : ∀ k, k < 14 → k ≠ 3 → k ≠ 5 → s' (30 + 14 * h + k) = s (30 + 14 * h + k)) (h5 : s' (30 + 14 * h + 5) = nI (fP s h 5 + 1)) {p : Nat} (hp : s' (30 + 14 * h + 3) = nI p) (hp2 : p ≤ 3 * (fP s h 5 + 1)) (h3 : s' 3 = s 3 + 1) : Inv s' := by
  obtain ⟨m, i, n, -, -⟩ := hI.nu hh
  have e0 : ∀ j, j < 14 → j ≠ 3 → j ≠ 5 → fP s' h j = fP s h j := fun j hj a b => by
    unfold fP
    rw [hs j hj a b]
  have e3 : fP s' h 3 = p := by
    unfold fP
    rw [hp, nN (by omega)]
  have e5 : fP s' h 5 = fP s h 5 + 1 := by
    show (s' (30 + 14 * h + 5)).toNatClampNeg = _
    rw [h5, nN (by omega)]
  refine hI.hh g hh ?_ ((hI.ls hh).co2 g.xnf (fun j h7 hj => hs j hj (by omega) (by omega))) ((hI.hdk hh).co g.xnf (hs 4 (by omega) (by omega) (by omega))) ?_ ?_ ?_
  · unfold NuOk
    rw [e0 0 (by omega) (by omega) (by omega), e0 1 (by omega) (by omega) (by omega), e0 2 (by omega) (by omega) (by omega), e3, e5, hs 0 (by omega) (by omega) (by omega), hs 1 (by omega) (by omega) (by omega), hs 2 (by omega) (by omega) (by omega), h5, hp]
    exact ⟨m, i, n, ⟨rfl, hp2⟩, rfl, by omega⟩
  · unfold hd
    rw [hs 4 (by omega) (by omega) (by omega)]
    exact fun h1 o ho he hq => he (hI.uh o h ho hh hq (by rw [show hd s o = hd s h from hq]; exact h1))
  · rw [e0 2 (by omega) (by omega) (by omega)]
    exact fun h1 o ho he hq => he (hI.un o h ho hh hq (by rw [hq]; exact h1))
  · rw [h3, hI.2.2.2, sumN_inc (f := fun h => fP s h 5) (f' := fun h => fP s' h 5) (h := h) e5 (fun i hi => g.xfP hi (by omega)) hh]
    exact nI_1 _
