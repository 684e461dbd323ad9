/-! a number changes, a number is drawn -/
theorem Inv.num {s : Row} (hI : Inv s) {h : Nat} (hh : h < nh s) {f k : Nat} (hf : (f = 0 ∧ 1 ≤ k ∧ k ≤ 9) ∨ (f = 1 ∧ k ≤ 9999) ∨ (f = 2 ∧ k ≤ 999 ∧ ∀ o, o < nh s → o ≠ h → fP s o 2 ≠ k)) : Inv (ur s (30 + 14 * h + f) (nI k)) := by
  obtain ⟨⟨m1, m2, m3⟩, ⟨i1, i2⟩, ⟨n1, n2⟩, ⟨p1, p2⟩, q1, q2⟩ := hI.nu hh
  have hk : k < 10000 := by omega
  have e0 : ∀ j, j < 14 → j ≠ f → fP (ur s (30 + 14 * h + f) (nI k)) h j = fP s h j := fun j _ hj => by
    unfold fP
    rw [ur_ne (by omega)]
  have e1 : fP (ur s (30 + 14 * h + f) (nI k)) h f = k := by
    unfold fP
    rw [ur_eq, nN (by omega)]
  refine hI.hh (Agr.up (by omega)) hh ?_ ((hI.ls hh).co2 (nf_ur (by omega)) (fun j h7 hj => ur_ne (by omega))) ((hI.hdk hh).co (nf_ur (by omega)) (ur_ne (by omega))) ?_ ?_ ?_
  · unfold NuOk
    rcases hf with ⟨rfl, f1, f2⟩ | ⟨rfl, f1⟩ | ⟨rfl, f1, f2⟩
    · rw [e1, e0 1 (by omega) (by omega), e0 2 (by omega) (by omega), e0 3 (by omega) (by omega), e0 5 (by omega) (by omega), ur_eq, ur_ne (by omega), ur_ne (by omega), ur_ne (by omega), ur_ne (by omega)]
      exact ⟨⟨rfl, f1, f2⟩, ⟨i1, i2⟩, ⟨n1, n2⟩, ⟨p1, p2⟩, q1, q2⟩
    · rw [e1, e0 0 (by omega) (by omega), e0 2 (by omega) (by omega), e0 3 (by omega) (by omega), e0 5 (by omega) (by omega), ur_eq, ur_ne (by omega), ur_ne (by omega), ur_ne (by omega), ur_ne (by omega)]
      exact ⟨⟨m1, m2, m3⟩, ⟨rfl, f1⟩, ⟨n1, n2⟩, ⟨p1, p2⟩, q1, q2⟩
    · rw [e1, e0 0 (by omega) (by omega), e0 1 (by omega) (by omega), e0 3 (by omega) (by omega), e0 5 (by omega) (by omega), ur_eq, ur_ne (by omega), ur_ne (by omega), ur_ne (by omega), ur_ne (by omega)]
      exact ⟨⟨m1, m2, m3⟩, ⟨i1, i2⟩, ⟨rfl, f1⟩, ⟨p1, p2⟩, q1, q2⟩
  · unfold hd
    rw [ur_ne (by omega)]
    exact fun h1 o ho he hq => he (hI.uh o h ho hh hq (by rw [show hd s o = hd s h from hq]; exact h1))
  · rcases hf with ⟨rfl, f1, f2⟩ | ⟨rfl, f1⟩ | ⟨rfl, f1, f2⟩
    · rw [e0 2 (by omega) (by omega)]
      exact fun h1 o ho he hq => he (hI.un o h ho hh hq (by rw [hq]; exact h1))
    · rw [e0 2 (by omega) (by omega)]
      exact fun h1 o ho he hq => he (hI.un o h ho hh hq (by rw [hq]; exact h1))
    · rw [e1]
      exact fun _ o ho he => f2 o ho he
  · rw [ur_ne (by omega), hI.2.2.2]
    congr 1
    refine sumN_congr (fun i _ => ?_)
    unfold fP
    rw [ur_ne (by omega)]
theorem noI_v {s : Row} (hI : Inv s) {j k : Nat} (hj : j < nh s) (h1 : 1 ≤ k) (h2 : k ≤ 999) : (noI s j = nI k ↔ fP s j 2 = k) ∧ (s (30 + 14 * j + 2) = nI k ↔ fP s j 2 = k) := by
  obtain ⟨-, -, ⟨n1, n2⟩, -⟩ := hI.nu hj
  have e2 : s (30 + 14 * j + 2) = nI k ↔ fP s j 2 = k := by
    rw [n1]
    exact nIeq (by omega) (by omega)
  refine ⟨?_, e2⟩
  unfold noI
  by_cases c : drB s j = true
  · rw [if_pos c]
    exact e2
  · rw [if_neg c]
    have h0 : fP s j 2 = 0 := by
      by_cases z : fP s j 2 = 0
      · exact z
      · exact absurd (drB_iff.mpr z) c
    constructor
    · intro q
      exact absurd q (nIm5 (by omega))
    · intro q
      omega
