/-! a round, a swap -/
theorem RS_cnt {M : Mem} {s : Row} {v : Int32} (R : RS M 1 s) (hI : Inv s) : RS (up M 1 4 v) 1 (ur s 2 v) := by
  have hb : ∀ o k, k < 14 → ur s 2 v (30 + 14 * o + k) = s (30 + 14 * o + k) := fun o k hk => ur_ne (by omega)
  obtain ⟨⟨r0, r1, r2, r3, r4⟩, rf, rh⟩ := R
  refine ⟨⟨?_, ?_, ?_, ?_, ?_⟩, fun f hf => ?_, fun o ho => ?_⟩
  · rw [up_other (by omega), ur_ne (by omega)]
    exact r0
  · rw [up_other (by omega), ur_ne (by omega)]
    exact r1
  · rw [up_same, ur_eq]
  · rw [up_other (by omega), ur_ne (by omega)]
    exact r3
  · rw [up_other (by omega), ur_ne (by omega)]
    exact r4
  · rw [nf_ur (by omega)] at hf
    rw [up_ne (by omega), ur_ne (by omega), ur_ne (by omega)]
    exact rf f hf
  · rw [nh_ur (by omega)] at ho
    exact (rh o ho).co (hI.ls ho).1.2 (hb o) (up_ne (by omega)) (up_ne (by omega))
theorem rdL_2 : ∀ {d i : Nat} {s : Row} {c : Nat}, (rdL d i s c).1 2 = s 2 := by
  intro d
  induction d with
  | zero => intro i s c; rfl
  | succ d ih =>
    intro i s c
    cases hq : atO s (nI i) with
    | none =>
      show (match atO s (nI i) with | none => (s, c) | some h => _ : Row × Nat).1 2 = s 2
      rw [hq]
    | some h =>
      rw [rdL_s hq]
      split
      · split
        · rw [ih, ur_ne (by omega)]
        · rw [ih, ur_ne (by omega)]
      · exact ih
/-! one number of a household changes -/
theorem RS_num {M : Mem} {s : Row} {h k f : Nat} {v w : Int32} (R : RS M 1 s) (hI : Inv s) (hkf : (k = 2 ∧ f = 0 ∧ w = v) ∨ (k = 3 ∧ f = 1 ∧ w = v) ∨ (k = 5 ∧ f = 3 ∧ w = v) ∨ (k = 7 ∧ f = 5 ∧ w = v) ∨ (k = 4 ∧ f = 2 ∧ w = v ∧ v.toNatClampNeg ≠ 0)) : RS (up M (17 + 2 * h) k w) 1 (ur s (30 + 14 * h + f) v) := by
  obtain ⟨c1, c2, c3, c4, c5⟩ := R.1
  refine R.hh hI (h := h) (Agr.up (by omega)) (fun j _ _ h3 h4 => up_ne (by omega)) ?_ (fun hh => ?_)
  · rw [up_ne (by omega), ur_ne (by omega), ur_ne (by omega), ur_ne (by omega)]
    exact ⟨rfl, rfl, c3, c4, c5⟩
  · obtain ⟨a1, a2, a3, a4, a5, a6, a7, a8, a9⟩ := R.hr hh
    have ef : fP (ur s (30 + 14 * h + f) v) h 7 = fP s h 7 := by
      unfold fP
      rw [ur_ne (by omega)]
    have hg : (17 + 2 * h) = 1 + 16 + 2 * h := by omega
    unfold HR
    rw [ef, hg]
    have wl : ∀ j, j < fP s h 7 → up M (1 + 16 + 2 * h) k w (1 + 16 + 2 * h + 1) j = ur s (30 + 14 * h + f) v (30 + 14 * h + 8 + j) := fun j hj => by
      rw [up_other (by omega), ur_ne (by omega)]
      exact a9 j hj
    rcases hkf with ⟨rfl, rfl, rfl⟩ | ⟨rfl, rfl, rfl⟩ | ⟨rfl, rfl, rfl⟩ | ⟨rfl, rfl, rfl⟩ | ⟨rfl, rfl, rfl, hv⟩
    · have en : noI (ur s (30 + 14 * h + 0) w) h = noI s h := by
        unfold noI drB fP
        rw [ur_ne (by omega)]
      refine ⟨?_, ?_, ?_, ?_, ?_, ?_, ?_, ?_, wl⟩
      · rw [up_other (by omega), ur_ne (by omega)]; exact a1
      · rw [up_same, ur_eq]
      · rw [up_other (by omega), ur_ne (by omega)]; exact a3
      · rw [up_other (by omega), en]; exact a4
      · rw [up_other (by omega), ur_ne (by omega)]; exact a5
      · unfold hd; rw [up_other (by omega), ur_ne (by omega)]; exact a6
      · rw [up_other (by omega), ur_ne (by omega)]; exact a7
      · rw [up_other (by omega), ur_ne (by omega)]; exact a8
    · have en : noI (ur s (30 + 14 * h + 1) w) h = noI s h := by
        unfold noI drB fP
        rw [ur_ne (by omega)]
      refine ⟨?_, ?_, ?_, ?_, ?_, ?_, ?_, ?_, wl⟩
      · rw [up_other (by omega), ur_ne (by omega)]; exact a1
      · rw [up_other (by omega), ur_ne (by omega)]; exact a2
      · rw [up_same, ur_eq]
      · rw [up_other (by omega), en]; exact a4
      · rw [up_other (by omega), ur_ne (by omega)]; exact a5
      · unfold hd; rw [up_other (by omega), ur_ne (by omega)]; exact a6
      · rw [up_other (by omega), ur_ne (by omega)]; exact a7
      · rw [up_other (by omega), ur_ne (by omega)]; exact a8
    · have en : noI (ur s (30 + 14 * h + 3) w) h = noI s h := by
        unfold noI drB fP
        rw [ur_ne (by omega)]
      refine ⟨?_, ?_, ?_, ?_, ?_, ?_, ?_, ?_, wl⟩
      · rw [up_other (by omega), ur_ne (by omega)]; exact a1
      · rw [up_other (by omega), ur_ne (by omega)]; exact a2
      · rw [up_other (by omega), ur_ne (by omega)]; exact a3
      · rw [up_other (by omega), en]; exact a4
      · rw [up_same, ur_eq]
      · unfold hd; rw [up_other (by omega), ur_ne (by omega)]; exact a6
      · rw [up_other (by omega), ur_ne (by omega)]; exact a7
      · rw [up_other (by omega), ur_ne (by omega)]; exact a8
    · have en : noI (ur s (30 + 14 * h + 5) w) h = noI s h := by
        unfold noI drB fP
        rw [ur_ne (by omega)]
      refine ⟨?_, ?_, ?_, ?_, ?_, ?_, ?_, ?_, wl⟩
      · rw [up_other (by omega), ur_ne (by omega)]; exact a1
      · rw [up_other (by omega), ur_ne (by omega)]; exact a2
      · rw [up_other (by omega), ur_ne (by omega)]; exact a3
      · rw [up_other (by omega), en]; exact a4
      · rw [up_other (by omega), ur_ne (by omega)]; exact a5
      · unfold hd; rw [up_other (by omega), ur_ne (by omega)]; exact a6
      · rw [up_same, ur_eq]
      · rw [up_other (by omega), ur_ne (by omega)]; exact a8
    · have en : noI (ur s (30 + 14 * h + 2) w) h = w := by
        unfold noI drB fP
        rw [ur_eq, decide_eq_true hv, if_pos rfl]
      refine ⟨?_, ?_, ?_, ?_, ?_, ?_, ?_, ?_, wl⟩
      · rw [up_other (by omega), ur_ne (by omega)]; exact a1
      · rw [up_other (by omega), ur_ne (by omega)]; exact a2
      · rw [up_other (by omega), ur_ne (by omega)]; exact a3
      · rw [up_same, en]
      · rw [up_other (by omega), ur_ne (by omega)]; exact a5
      · unfold hd; rw [up_other (by omega), ur_ne (by omega)]; exact a6
      · rw [up_other (by omega), ur_ne (by omega)]; exact a7
      · rw [up_other (by omega), ur_ne (by omega)]; exact a8
theorem within_n {M : Mem} (a lo hi : Int32) : f_X7_isWithin a lo hi M = some (bI (decide (lo ≤ a ∧ a ≤ hi)), M) := by
  unfold f_X7_isWithin
  by_cases h1 : a < lo
  · rw [if_pos h1, decide_eq_false (fun q => absurd h1 (Int32.not_lt.mpr q.1))]
    rfl
  · rw [if_neg h1]
    by_cases h2 : hi < a
    · rw [if_pos h2, decide_eq_false (fun q => absurd h2 (Int32.not_lt.mpr q.2))]
      rfl
    · rw [if_neg h2, decide_eq_true ⟨Int32.not_lt.mp h1, Int32.not_lt.mp h2⟩]
      rfl
theorem rng {a : Int32} {n : Nat} (hn : n < 10000) (h : (1 : Int32) ≤ a ∧ a ≤ nI n) : ∃ k, a = nI k ∧ 1 ≤ k ∧ k ≤ n := by
  obtain ⟨k, hk, rfl⟩ := inb_ex (a := a) (n := n + 1) (by
    obtain ⟨h1, h2⟩ := h
    rw [Int32.le_iff_toInt_le] at h1 h2
    rw [nI_toInt (by omega)] at h2
    have e1 : (1 : Int32).toInt = 1 := by decide
    exact decide_eq_true (by omega)) (by omega)
  refine ⟨k, rfl, ?_, by omega⟩
  exact (nIle (a := 1) (b := k) (by omega) (by omega)).mp h.1
