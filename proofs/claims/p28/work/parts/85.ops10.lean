/-! declining -/
def rmO (s : Row) (h : Nat) (x : Int32) : Row := match plO s h x with
  | none => s
  | some p => rmW s h p
theorem rmO_inv {s : Row} (hI : Inv s) (hZ : Zr s) {h : Nat} (hh : h < nh s) (x : Int32) : Inv (rmO s h x) ∧ Zr (rmO s h x) ∧ Agr s (rmO s h x) h ∧ ∀ k, k < 7 → rmO s h x (30 + 14 * h + k) = s (30 + 14 * h + k) := by
  unfold rmO
  cases hp : plO s h x with
  | none => exact ⟨hI, hZ, fun _ _ _ _ _ _ => rfl, fun _ _ => rfl⟩
  | some p =>
    have hpl := plO_lt hp
    exact ⟨rmW_inv hI hh hpl, rmW_Zr hI hZ hh hpl, rmW_agr hI hh hpl, fun k hk => rmW_ne (by omega) (by omega)⟩
theorem k_removeO {M : Mem} {s : Row} (R : RS M 1 s) (hI : Inv s) {h : Nat} (hh : h < nh s) (x : Int32) : ∃ M', f_X2_removeWish (17 + 2 * h) x M = some (0, M') ∧ RS M' 1 (rmO s h x) ∧ ∀ q, q ≠ 17 + 2 * h → q ≠ 17 + 2 * h + 1 → M' q = M q := by
  unfold rmO
  cases hp : plO s h x with
  | none =>
    have pl : f_X2_placeOf (17 + 2 * h) x M = some (oI (plO s h x), M) := k_placeOf R hI hh x
    refine ⟨M, ?_, R, fun _ _ _ => rfl⟩
    unfold f_X2_removeWish
    rw [pl, bd_s, hp, if_pos (show oI none = -5 from rfl)]
  | some p => exact k_remove R hI hh hp
theorem RS_ct {M : Mem} {s : Row} {k f : Nat} {v : Int32} (R : RS M 1 s) (hI : Inv s) (hkf : (k = 5 ∧ f = 4) ∨ (k = 6 ∧ f = 5)) : RS (up M 1 k v) 1 (ur s f v) := by
  have hb : ∀ o i, i < 14 → ur s f v (30 + 14 * o + i) = s (30 + 14 * o + i) := fun o i hi => ur_ne (by omega)
  obtain ⟨⟨r0, r1, r2, r3, r4⟩, rf, rh⟩ := R
  refine ⟨?_, fun j hf => ?_, fun o ho => ?_⟩
  · rcases hkf with ⟨rfl, rfl⟩ | ⟨rfl, rfl⟩
    · rw [up_other (by omega), up_other (by omega), up_other (by omega), up_same, up_other (by omega), ur_ne (by omega), ur_ne (by omega), ur_ne (by omega), ur_eq, ur_ne (by omega)]
      exact ⟨r0, r1, r2, rfl, r4⟩
    · rw [up_other (by omega), up_other (by omega), up_other (by omega), up_other (by omega), up_same, ur_ne (by omega), ur_ne (by omega), ur_ne (by omega), ur_ne (by omega), ur_eq]
      exact ⟨r0, r1, r2, r3, rfl⟩
  · rw [nf_ur (by omega)] at hf
    rw [up_ne (by omega), ur_ne (by omega), ur_ne (by omega)]
    exact rf j hf
  · rw [nh_ur (by omega)] at ho
    exact (rh o ho).co (hI.ls ho).1.2 (hb o) (up_ne (by omega)) (up_ne (by omega))
theorem Inv.pts {s : Row} (hI : Inv s) {h : Nat} (hh : h < nh s) {k : Nat} (hk : k ≤ 3 * fP s h 5) : Inv (ur s (30 + 14 * h + 3) (nI k)) := by
  obtain ⟨m, i, n, ⟨p1, p2⟩, q1, q2⟩ := hI.nu hh
  have e0 : ∀ j, j < 14 → j ≠ 3 → fP (ur s (30 + 14 * h + 3) (nI k)) h j = fP s h j := fun j _ hj => by
    unfold fP
    rw [ur_ne (by omega)]
  have e1 : fP (ur s (30 + 14 * h + 3) (nI k)) h 3 = k := by
    unfold fP
    rw [ur_eq, nN (by omega)]
  refine hI.hh (Agr.up (by omega)) hh ?_ ((hI.ls hh).co2 (nf_ur (by omega)) (fun j h7 hj => ur_ne (by omega))) ((hI.hdk hh).co (nf_ur (by omega)) (ur_ne (by omega))) ?_ ?_ ?_
  · unfold NuOk
    rw [e1, e0 0 (by omega) (by omega), e0 1 (by omega) (by omega), e0 2 (by omega) (by omega), e0 5 (by omega) (by omega), ur_eq, ur_ne (by omega), ur_ne (by omega), ur_ne (by omega), ur_ne (by omega)]
    exact ⟨m, i, n, ⟨rfl, hk⟩, q1, q2⟩
  · unfold hd
    rw [ur_ne (by omega)]
    exact fun h1 o ho he hq => he (hI.uh o h ho hh hq (by rw [show hd s o = hd s h from hq]; exact h1))
  · rw [e0 2 (by omega) (by omega)]
    exact fun h1 o ho he hq => he (hI.un o h ho hh hq (by rw [hq]; exact h1))
  · rw [ur_ne (by omega), hI.2.2.2]
    congr 1
    refine sumN_congr (fun i _ => ?_)
    unfold fP
    rw [ur_ne (by omega)]
