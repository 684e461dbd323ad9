/-! what is kept for undo -/
def psh (g : Gh) : Gh := (g.1, (if gK g < 4 then gK g + 1 else 4), (if gK g < 4 then (fun j => if j = gK g then g.1 else gT g j) else (fun j => if j = 3 then g.1 else gT g (j + 1))), g.2.2.2)
theorem psh_GO {g : Gh} (G : GO g) : GO (psh g) := by
  obtain ⟨g1, ⟨g2, g3⟩, g4⟩ := G
  refine ⟨g1, ⟨?_, fun j hj => ?_⟩, g4⟩
  · show (if gK g < 4 then gK g + 1 else 4) ≤ 4
    split <;> omega
  · have hj2 : j < (if gK g < 4 then gK g + 1 else 4) := hj
    show Inv ((if gK g < 4 then (fun j => if j = gK g then g.1 else gT g j) else (fun j => if j = 3 then g.1 else gT g (j + 1))) j) ∧ Zr ((if gK g < 4 then (fun j => if j = gK g then g.1 else gT g j) else (fun j => if j = 3 then g.1 else gT g (j + 1))) j)
    by_cases c : gK g < 4
    · rw [if_pos c] at hj2 ⊢
      by_cases e : j = gK g
      · rw [if_pos e]
        exact g1
      · rw [if_neg e]
        exact g3 j (by omega)
    · rw [if_neg c] at hj2 ⊢
      by_cases e : j = 3
      · rw [if_pos e]
        exact g1
      · rw [if_neg e]
        exact g3 (j + 1) (by omega)
/-! the class's -/
theorem k_drop {M : Mem} {π : Nat → Nat} (hp : ∀ j, j < 4 → M 82 j = nI (π j) ∧ π j < 4) : ∃ M', f_X1_dropOldest M = some (0, M') ∧ (∀ j, j < 3 → M' 82 j = nI (π (j + 1))) ∧ M' 82 3 = nI (π 0) ∧ M' 81 1 = nI 3 ∧ ∀ q, q ≠ 81 → q ≠ 82 → M' q = M q := by
  obtain ⟨p0, q0⟩ := hp 0 (by omega)
  obtain ⟨p1, q1⟩ := hp 1 (by omega)
  obtain ⟨p2, q2⟩ := hp 2 (by omega)
  obtain ⟨p3, q3⟩ := hp 3 (by omega)
  have hLF : LF = 4996 + 1 + 1 + 1 + 1 := rfl
  refine ⟨up (up (up (up (up M 82 0 (nI (π 1))) 82 1 (nI (π 2))) 82 2 (nI (π 3))) 82 3 (nI (π 0))) 81 1 (nI 3), ?_, fun j hj => ?_, ?_, up_same, fun q h1 h2 => ?_⟩
  · unfold f_X1_dropOldest
    rw [p0, ck_t (inbN (by omega) (by omega)), hLF, l_X1_dropOldest_9_s, if_neg (show ¬ (4 : Int32) ≤ 1 by decide), ck_t (show inb 1 4 = true by decide), show (1 : Int32).toNatClampNeg = 1 from rfl, p1, ck_t (inbN (by omega) (by omega)), ck_t (show inb (1 - 1) 4 = true by decide), show ((1 : Int32) - 1).toNatClampNeg = 0 from rfl, lt_e]
    rw [l_X1_dropOldest_9_s, show (1 : Int32) + 1 = 2 from rfl, if_neg (show ¬ (4 : Int32) ≤ 2 by decide), ck_t (show inb 2 4 = true by decide), show (2 : Int32).toNatClampNeg = 2 from rfl, up_other (show ¬ (82 = 82 ∧ 2 = 0) by omega), p2, ck_t (inbN (by omega) (by omega)), ck_t (show inb (2 - 1) 4 = true by decide), show ((2 : Int32) - 1).toNatClampNeg = 1 from rfl, lt_e]
    rw [l_X1_dropOldest_9_s, show (2 : Int32) + 1 = 3 from rfl, if_neg (show ¬ (4 : Int32) ≤ 3 by decide), ck_t (show inb 3 4 = true by decide), show (3 : Int32).toNatClampNeg = 3 from rfl, up_other (show ¬ (82 = 82 ∧ 3 = 1) by omega), up_other (show ¬ (82 = 82 ∧ 3 = 0) by omega), p3, ck_t (inbN (by omega) (by omega)), ck_t (show inb (3 - 1) 4 = true by decide), show ((3 : Int32) - 1).toNatClampNeg = 2 from rfl, lt_e]
    rw [l_X1_dropOldest_9_s, show (3 : Int32) + 1 = 4 from rfl, if_pos (show (4 : Int32) ≤ 4 by decide), lt_e, lt_e]
    rfl
  · rw [up_ne (by omega), up_other (by omega)]
    rcases (show j = 0 ∨ j = 1 ∨ j = 2 by omega) with rfl | rfl | rfl
    · rw [up_other (by omega), up_other (by omega), up_same]
    · rw [up_other (by omega), up_same]
    · rw [up_same]
  · rw [up_ne (by omega), up_same]
  · rw [up_ne h1, up_ne h2, up_ne h2, up_ne h2, up_ne h2]
theorem k_record {M : Mem} {g : Gh} (G : GO g) (C : CL M g) : ∃ M', f_X1_record 1 M = some (0, M') ∧ CL M' (psh g) ∧ ∀ q, q < 81 ∨ 243 ≤ q → M' q = M q := by
  obtain ⟨c1, ⟨c2, π, c3, c4, c5⟩, ⟨c6, c7⟩, c8, c9⟩ := C
  have hI := G.1.1
  have hk := G.2.1.1
  unfold f_X1_record
  rw [c2]
  by_cases c : gK g < 4
  · obtain ⟨p1, p2⟩ := c3 (gK g) c
    have ap : Apart (83 + 40 * π (gK g)) 1 := by
      unfold Apart
      omega
    obtain ⟨M1, e1, e2, e3⟩ := k_copy ap hI c1
    rw [if_pos (show nI (gK g) < (4 : Int32) from (nIlt (b := 4) (by omega) (by omega)).mpr c), ck_t (inbN (by omega) (by omega)), nN (show gK g < 2147483648 by omega), p1, ck_t (inbN (by omega) (by omega)), nN (by omega), e1, bd_s, lt_e, e3 81 (by omega), c2, show (nI (gK g) : Int32) + 1 = nI (gK g + 1) from nI_1 _]
    have fr : ∀ q, q < 81 ∨ 243 ≤ q → up M1 81 1 (nI (gK g + 1)) q = M q := fun q hq => by rw [up_ne (by omega), e3 q (by omega)]
    refine ⟨_, rfl, ⟨?_, ⟨?_, π, fun j hj => ?_, c4, fun j hj => ?_⟩, ⟨?_, fun hb => ?_⟩, ?_, fun i hi => ?_⟩, fr⟩
    · exact c1.co hI (fun i _ _ _ => fr i (by omega))
    · show _ = nI (if gK g < 4 then gK g + 1 else 4)
      rw [if_pos c, up_same]
    · rw [up_ne (by omega), e3 82 (by omega)]
      exact c3 j hj
    · have hj2 : j < (if gK g < 4 then gK g + 1 else 4) := hj
      rw [if_pos c] at hj2
      show RS _ _ ((if gK g < 4 then (fun j => if j = gK g then g.1 else gT g j) else (fun j => if j = 3 then g.1 else gT g (j + 1))) j)
      rw [if_pos c]
      by_cases e : j = gK g
      · rw [if_pos e, e]
        exact e2.co hI (fun i _ _ _ => up_ne (by omega))
      · rw [if_neg e]
        have hne : π j ≠ π (gK g) := fun q => e (c4 j (gK g) (by omega) c q)
        exact (c5 j (by omega)).co (G.2.1.2 j (by omega)).1 (fun i h1 h2 _ => by rw [up_ne (by omega), e3 i (by omega)])
    · rw [fr 0 (by omega)]
      exact c6
    · exact (c7 hb).co (G.2.2.1 hb).1 (fun i _ _ _ => fr i (by omega))
    · rw [fr 243 (by omega)]
      exact c8
    · rw [fr 244 (by omega)]
      exact c9 i hi
  · have k4 : gK g = 4 := by omega
    obtain ⟨M0, d1, d2, d3, d4, d5⟩ := k_drop c3
    have hp0 := (c3 0 (by omega)).2
    have ap : Apart (83 + 40 * π 0) 1 := by
      unfold Apart
      omega
    obtain ⟨M1, e1, e2, e3⟩ := k_copy ap hI (c1.co hI (M' := M0) (fun i _ _ _ => d5 i (by omega) (by omega)))
    rw [if_neg (show ¬ nI (gK g) < (4 : Int32) from fun q => c ((nIlt (b := 4) (by omega) (by omega)).mp q)), d1, bd_s, d4, ck_t (inbN (by omega) (by omega)), nN (show 3 < 2147483648 by omega), d3, ck_t (inbN (by omega) (by omega)), nN (by omega), e1, bd_s, lt_e, e3 81 (by omega), d4, show (nI 3 : Int32) + 1 = nI 4 from rfl]
    have fr : ∀ q, q < 81 ∨ 243 ≤ q → up M1 81 1 (nI 4) q = M q := fun q hq => by rw [up_ne (by omega), e3 q (by omega), d5 q (by omega) (by omega)]
    refine ⟨_, rfl, ⟨?_, ⟨?_, (fun j => if j = 3 then π 0 else π (j + 1)), fun j hj => ?_, fun i j hi hj hq => ?_, fun j hj => ?_⟩, ⟨?_, fun hb => ?_⟩, ?_, fun i hi => ?_⟩, fr⟩
    · exact c1.co hI (fun i _ _ _ => fr i (by omega))
    · show _ = nI (if gK g < 4 then gK g + 1 else 4)
      rw [if_neg c, up_same]
    · rw [up_ne (by omega), e3 82 (by omega)]
      show _ = nI (if j = 3 then π 0 else π (j + 1)) ∧ (if j = 3 then π 0 else π (j + 1)) < 4
      by_cases e : j = 3
      · rw [if_pos e, e]
        exact ⟨d3, hp0⟩
      · rw [if_neg e]
        exact ⟨d2 j (by omega), (c3 (j + 1) (by omega)).2⟩
    · have hq2 : (if i = 3 then π 0 else π (i + 1)) = (if j = 3 then π 0 else π (j + 1)) := hq
      by_cases e1 : i = 3
      · by_cases e2 : j = 3
        · omega
        · rw [if_pos e1, if_neg e2] at hq2
          have := c4 0 (j + 1) (by omega) (by omega) hq2
          omega
      · by_cases e2 : j = 3
        · rw [if_neg e1, if_pos e2] at hq2
          have := c4 (i + 1) 0 (by omega) (by omega) hq2
          omega
        · rw [if_neg e1, if_neg e2] at hq2
          have := c4 (i + 1) (j + 1) (by omega) (by omega) hq2
          omega
    · have hj2 : j < (if gK g < 4 then gK g + 1 else 4) := hj
      rw [if_neg c] at hj2
      show RS _ (83 + 40 * (if j = 3 then π 0 else π (j + 1))) ((if gK g < 4 then (fun j => if j = gK g then g.1 else gT g j) else (fun j => if j = 3 then g.1 else gT g (j + 1))) j)
      rw [if_neg c]
      by_cases e : j = 3
      · rw [if_pos e, if_pos e]
        exact e2.co hI (fun i _ _ _ => up_ne (by omega))
      · rw [if_neg e, if_neg e]
        have hne : π (j + 1) ≠ π 0 := fun q => by
          have := c4 (j + 1) 0 (by omega) (by omega) q
          omega
        exact (c5 (j + 1) (by omega)).co (G.2.1.2 (j + 1) (by omega)).1 (fun i h1 h2 _ => by rw [up_ne (by omega), e3 i (by omega), d5 i (by omega) (by omega)])
    · rw [fr 0 (by omega)]
      exact c6
    · exact (c7 hb).co (G.2.2.1 hb).1 (fun i _ _ _ => fr i (by omega))
    · rw [fr 243 (by omega)]
      exact c8
    · rw [fr 244 (by omega)]
      exact c9 i hi
