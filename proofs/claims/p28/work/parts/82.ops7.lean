/-! a wish more, a wish less -/
def adW (s : Row) (h f : Nat) : Row := ur (ur s (30 + 14 * h + 8 + fP s h 7) (nI f)) (30 + 14 * h + 7) (nI (fP s h 7 + 1))
theorem adW_inv {s : Row} (hI : Inv s) {h f : Nat} (hh : h < nh s) (hf : f < nf s) (hc : fP s h 7 < 6) (hp : plO s h (nI f) = none) : Inv (adW s h f) := by
  have b0 := hI.h0l
  obtain ⟨⟨l1, l2⟩, l3, l4⟩ := hI.ls hh
  have g : Agr s (adW s h f) h := fun i _ _ _ _ hi => by
    unfold adW
    rw [ur_ne (by omega), ur_ne (by omega)]
  have fs : ∀ k, k < 7 → adW s h f (30 + 14 * h + k) = s (30 + 14 * h + k) := fun k hk => by
    unfold adW
    rw [ur_ne (by omega), ur_ne (by omega)]
  have e7 : fP (adW s h f) h 7 = fP s h 7 + 1 := by
    show (adW s h f (30 + 14 * h + 7)).toNatClampNeg = _
    rw [show adW s h f (30 + 14 * h + 7) = nI (fP s h 7 + 1) from ur_eq, nN (by omega)]
  have ew : ∀ k, k < fP s h 7 → adW s h f (30 + 14 * h + 8 + k) = s (30 + 14 * h + 8 + k) := fun k hk => by
    unfold adW
    rw [ur_ne (by omega), ur_ne (by omega)]
  have en : adW s h f (30 + 14 * h + 8 + fP s h 7) = nI f := by
    unfold adW
    rw [ur_ne (by omega), ur_eq]
  have el : ∀ k, k < fP s h 7 → li (adW s h f) h k = li s h k := fun k hk => by
    unfold li
    rw [ew k hk]
  have eln : li (adW s h f) h (fP s h 7) = f := by
    unfold li
    rw [en, nN (by omega)]
  have hno : ∀ k, k < fP s h 7 → li s h k ≠ f := fun k hk q => by
    have := fstO_none.mp hp k (Nat.zero_le _) (by omega)
    refine (of_decide_eq_false this) ?_
    rw [(l3 k hk).1, q]
  refine hI.hh g hh ((hI.nu hh).co2 (fun k hk _ => fs k (by omega))) ?_ ((hI.hdk hh).co g.xnf (fs 4 (by omega))) ?_ ?_ ?_
  · unfold LsOk
    rw [e7, g.xnf]
    refine ⟨⟨ur_eq, by omega⟩, fun k hk => ?_, fun k k' hk hk' hq => ?_⟩
    · by_cases e : k = fP s h 7
      · rw [e, en, eln]
        exact ⟨rfl, hf⟩
      · rw [ew k (by omega), el k (by omega)]
        exact l3 k (by omega)
    · by_cases e : k = fP s h 7
      · by_cases e' : k' = fP s h 7
        · omega
        · rw [e, eln, el k' (by omega)] at hq
          exact absurd hq.symm (hno k' (by omega))
      · by_cases e' : k' = fP s h 7
        · rw [e', eln, el k (by omega)] at hq
          exact absurd hq (hno k (by omega))
        · rw [el k (by omega), el k' (by omega)] at hq
          exact l4 k k' (by omega) (by omega) hq
  · unfold hd
    rw [fs 4 (by omega)]
    exact fun h1 o ho he hq => he (hI.uh o h ho hh hq (by rw [show hd s o = hd s h from hq]; exact h1))
  · unfold fP
    rw [fs 2 (by omega)]
    exact fun h1 o ho he hq => he (hI.un o h ho hh hq (by rw [show fP s o 2 = fP s h 2 from hq]; exact h1))
  · rw [show adW s h f 3 = s 3 from by unfold adW; rw [ur_ne (by omega), ur_ne (by omega)], hI.2.2.2]
    congr 1
    refine sumN_congr (fun i _ => ?_)
    by_cases c : i = h
    · subst c
      unfold fP
      rw [fs 5 (by omega)]
    · exact (g.xfP c (by omega)).symm
