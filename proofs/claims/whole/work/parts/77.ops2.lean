theorem op_count {M : Mem} {g : Gh} (G : GO g) (C : CL M g) (O : MO M g) (b : Int32) : Ok Sim M (f_X7_count b) (f_X8_count b) := by
  have hI := G.1.1
  have R := C.1
  have b1 := hI.h1l
  obtain ⟨⟨r0, r1, r2, r3, r4⟩, -⟩ := id R
  have base : ∀ r, (∀ M1, f_X7_count b M = some (r, M) ∧ (MO M1 g → f_X8_count b M1 = some (r, M1))) → Ok Sim M (f_X7_count b) (f_X8_count b) := fun r h' => ok_q0 G C O (h' M).1 (fun M1 h1 => (h' M1).2 h1)
  by_cases c0 : b = 0
  · subst c0
    refine base (g.1 0) (fun M1 => ⟨?_, fun h => ?_⟩)
    · unfold f_X7_count
      rw [if_pos rfl, r0]
    · unfold f_X8_count
      rw [if_pos rfl, ck_t (show inb 0 198 = true by decide), h.1]
      rfl
  by_cases c1 : b = 1
  · subst c1
    refine base (g.1 1) (fun M1 => ⟨?_, fun h => ?_⟩)
    · unfold f_X7_count
      rw [if_neg c0, if_pos rfl, r1]
    · unfold f_X8_count
      rw [if_neg c0, if_pos rfl, ck_t (show inb 1 198 = true by decide), h.1]
      rfl
  by_cases c2 : b = 2
  · subst c2
    refine base (nI (hdN g.1)) (fun M1 => ⟨?_, fun h => ?_⟩)
    · unfold f_X7_count
      rw [if_neg c0, if_neg c1, if_pos rfl, k_countHeld R hI, bd_s]
    · unfold f_X8_count
      rw [if_neg c0, if_neg c1, if_pos rfl, held_n (h.inv G), bd_s, h.1]
  by_cases c3 : b = 3
  · subst c3
    refine base (g.1 2) (fun M1 => ⟨?_, fun h => ?_⟩)
    · unfold f_X7_count
      rw [if_neg c0, if_neg c1, if_neg c2, if_pos rfl, r2]
    · unfold f_X8_count
      rw [if_neg c0, if_neg c1, if_neg c2, if_pos rfl, h.1]
  by_cases c4 : b = 4
  · subst c4
    refine base (nI (drN g.1)) (fun M1 => ⟨?_, fun h => ?_⟩)
    · unfold f_X7_count
      rw [if_neg c0, if_neg c1, if_neg c2, if_neg c3, if_pos rfl, k_countNumbered R hI, bd_s]
    · unfold f_X8_count
      rw [if_neg c0, if_neg c1, if_neg c2, if_neg c3, if_pos rfl, drawn_n (h.inv G), bd_s, h.1]
  by_cases c5 : b = 5
  · subst c5
    refine base (nI (prN g.1 1 0 (nh g.1 * nh g.1))) (fun M1 => ⟨?_, fun h => ?_⟩)
    · unfold f_X7_count
      rw [if_neg c0, if_neg c1, if_neg c2, if_neg c3, if_neg c4, if_pos rfl, k_countEnvy R hI, bd_s]
    · unfold f_X8_count
      rw [if_neg c0, if_neg c1, if_neg c2, if_neg c3, if_neg c4, if_pos rfl, pairs_n (h.inv G), bd_s, h.1]
      rfl
  by_cases c6 : b = 6
  · subst c6
    refine base (nI (prN g.1 2 0 (nh g.1 * nh g.1))) (fun M1 => ⟨?_, fun h => ?_⟩)
    · unfold f_X7_count
      rw [if_neg c0, if_neg c1, if_neg c2, if_neg c3, if_neg c4, if_neg c5, if_pos rfl, k_countEnvy R hI, bd_s]
    · unfold f_X8_count
      rw [if_neg c0, if_neg c1, if_neg c2, if_neg c3, if_neg c4, if_neg c5, if_pos rfl, pairs_n (h.inv G), bd_s, h.1]
      rfl
  by_cases c7 : b = 7
  · subst c7
    refine ok_q (r := nI (cntN (rgB g.1) 0 (nh g.1))) G C O ?_ (fun M1 h => ⟨M1, ?_, fun _ _ => rfl⟩)
    · obtain ⟨M', e1, e2, e3⟩ := k_lookAt (show 1 + 40 ≤ 248 by omega) R hI
      refine ⟨M', ?_, fun q _ h2 => e3 q (by omega) (by omega)⟩
      unfold f_X7_count
      rw [if_neg c0, if_neg c1, if_neg c2, if_neg c3, if_neg c4, if_neg c5, if_neg c6, if_pos rfl, e1, bd_s, k_countRings hI e2, bd_s]
    · unfold f_X8_count
      rw [if_neg c0, if_neg c1, if_neg c2, if_neg c3, if_neg c4, if_neg c5, if_neg c6, if_pos rfl, inRings_n (h.inv G), bd_s, h.1]
  by_cases c8 : b = 8
  · subst c8
    refine base (g.1 3) (fun M1 => ⟨?_, fun h => ?_⟩)
    · unfold f_X7_count
      rw [if_neg c0, if_neg c1, if_neg c2, if_neg c3, if_neg c4, if_neg c5, if_neg c6, if_neg c7, if_pos rfl, k_countAppeals R hI, bd_s]
    · unfold f_X8_count
      rw [if_neg c0, if_neg c1, if_neg c2, if_neg c3, if_neg c4, if_neg c5, if_neg c6, if_neg c7, if_pos rfl, ck_t (show inb (3 + 8 - 8) 198 = true by decide), h.1]
      rfl
  by_cases c9 : b = 9
  · subst c9
    refine base (g.1 4) (fun M1 => ⟨?_, fun h => ?_⟩)
    · unfold f_X7_count
      rw [if_neg c0, if_neg c1, if_neg c2, if_neg c3, if_neg c4, if_neg c5, if_neg c6, if_neg c7, if_neg c8, if_pos rfl, r3]
    · unfold f_X8_count
      rw [if_neg c0, if_neg c1, if_neg c2, if_neg c3, if_neg c4, if_neg c5, if_neg c6, if_neg c7, if_neg c8, if_pos rfl, ck_t (show inb (3 + 9 - 8) 198 = true by decide), h.1]
      rfl
  by_cases c10 : b = 10
  · subst c10
    refine base (g.1 5) (fun M1 => ⟨?_, fun h => ?_⟩)
    · unfold f_X7_count
      rw [if_neg c0, if_neg c1, if_neg c2, if_neg c3, if_neg c4, if_neg c5, if_neg c6, if_neg c7, if_neg c8, if_neg c9, if_pos rfl, r4]
    · unfold f_X8_count
      rw [if_neg c0, if_neg c1, if_neg c2, if_neg c3, if_neg c4, if_neg c5, if_neg c6, if_neg c7, if_neg c8, if_neg c9, if_pos rfl, ck_t (show inb (3 + 10 - 8) 198 = true by decide), h.1]
      rfl
  by_cases c11 : b = 11
  · subst c11
    refine base (nI (gK g)) (fun M1 => ⟨?_, fun h => ?_⟩)
    · unfold f_X7_count
      rw [if_neg c0, if_neg c1, if_neg c2, if_neg c3, if_neg c4, if_neg c5, if_neg c6, if_neg c7, if_neg c8, if_neg c9, if_neg c10, if_pos rfl, C.2.1.1]
    · unfold f_X8_count
      rw [if_neg c0, if_neg c1, if_neg c2, if_neg c3, if_neg c4, if_neg c5, if_neg c6, if_neg c7, if_neg c8, if_neg c9, if_neg c10, if_pos rfl, h.2.1.1]
  by_cases c12 : b = 12
  · subst c12
    refine base (nI (gN g)) (fun M1 => ⟨?_, fun h => ?_⟩)
    · unfold f_X7_count
      rw [if_neg c0, if_neg c1, if_neg c2, if_neg c3, if_neg c4, if_neg c5, if_neg c6, if_neg c7, if_neg c8, if_neg c9, if_neg c10, if_neg c11, if_pos rfl, C.2.2.2.1]
    · unfold f_X8_count
      rw [if_neg c0, if_neg c1, if_neg c2, if_neg c3, if_neg c4, if_neg c5, if_neg c6, if_neg c7, if_neg c8, if_neg c9, if_neg c10, if_neg c11, if_pos rfl, h.2.2.2.1]
  · refine base (-2) (fun M1 => ⟨?_, fun h => ?_⟩)
    · unfold f_X7_count
      rw [if_neg c0, if_neg c1, if_neg c2, if_neg c3, if_neg c4, if_neg c5, if_neg c6, if_neg c7, if_neg c8, if_neg c9, if_neg c10, if_neg c11, if_neg c12]
    · unfold f_X8_count
      rw [if_neg c0, if_neg c1, if_neg c2, if_neg c3, if_neg c4, if_neg c5, if_neg c6, if_neg c7, if_neg c8, if_neg c9, if_neg c10, if_neg c11, if_neg c12]
/-! the text: typed and cleared -/
def txg (g : Gh) (n : Nat) (x : Nat → Int32) : Gh := (g.1, g.2.1, g.2.2.1, g.2.2.2.1, g.2.2.2.2.1, n, x)
theorem txg_GO {g : Gh} (G : GO g) {n : Nat} {x : Nat → Int32} (hn : n ≤ 60) (hx : ∀ i, i < n → x i ≠ -1) : GO (txg g n x) := ⟨G.1, G.2.1, G.2.2.1, hn, hx⟩
theorem CL.tx {M M' : Mem} {g : Gh} (C : CL M g) (G : GO g) {n : Nat} {x : Nat → Int32} (h : ∀ q, q ≠ 243 → q ≠ 244 → M' q = M q) (h1 : M' 243 1 = nI n) (h2 : ∀ i, i < n → M' 244 i = x i) : CL M' (txg g n x) := by
  obtain ⟨c1, ⟨c2, π, c3, c4, c5⟩, ⟨c6, c7⟩, c8, c9⟩ := C
  refine ⟨c1.co G.1.1 (fun i _ _ _ => h i (by omega) (by omega)), ⟨by rw [h 81 (by omega) (by omega)]; exact c2, π, fun j hj => by rw [h 82 (by omega) (by omega)]; exact c3 j hj, c4, fun j hj => ?_⟩, ⟨by rw [h 0 (by omega) (by omega)]; exact c6, fun hb => ?_⟩, h1, h2⟩
  · have hk := G.2.1.1
    have hj2 : j < gK g := hj
    have := (c3 j (by omega)).2
    exact (c5 j hj).co (G.2.1.2 j hj).1 (fun i _ _ _ => h i (by omega) (by omega))
  · exact (c7 hb).co (G.2.2.1 hb).1 (fun i _ _ _ => h i (by omega) (by omega))
theorem op_clear {M : Mem} {g : Gh} (G : GO g) (C : CL M g) (O : MO M g) : Ok Sim M f_X7_clearText f_X8_clearText := by
  refine ok_mk (g' := txg g 0 (gX g)) (r := nI (gN g)) O (txg_GO G (by omega) (fun i hi => absurd hi (Nat.not_lt_zero _))) ⟨up M 243 1 0, ?_, C.tx G (fun q h1 _ => up_ne h1) up_same (fun i hi => absurd hi (Nat.not_lt_zero _)), fun q h => up_ne (by omega)⟩ (fun M1 h => ⟨up M1 255 6 0, ?_, ⟨?_, ⟨?_, ?_⟩, ⟨?_, ?_⟩, up_same, fun i hi => absurd hi (Nat.not_lt_zero _)⟩, fun q h => up_ne (by omega)⟩)
  · unfold f_X7_clearText
    rw [lt_e, C.2.2.2.1]
  · unfold f_X8_clearText
    rw [lt_e, h.2.2.2.1]
  · rw [up_ne (by omega)]
    exact h.1
  · rw [up_other (by omega)]
    exact h.2.1.1
  · rw [up_ne (by omega)]
    exact h.2.1.2
  · rw [up_other (by omega)]
    exact h.2.2.1.1
  · rw [up_ne (by omega)]
    exact h.2.2.1.2
theorem nar_char (a : Int32) : vp_nar .char a ≠ -1 := by
  show a.toUInt32.toUInt16.toUInt32.toInt32 ≠ -1
  intro q
  have h1 := congrArg Int32.toBitVec q
  have h2 := congrArg BitVec.toNat h1
  have h3 : (a.toUInt32.toUInt16.toUInt32.toInt32).toBitVec.toNat < 65536 := by
    show a.toUInt32.toUInt16.toUInt32.toNat < 65536
    rw [UInt16.toNat_toUInt32]
    exact a.toUInt32.toUInt16.toNat_lt
  rw [h2] at h3
  revert h3
  decide
theorem op_type {M : Mem} {g : Gh} (G : GO g) (C : CL M g) (O : MO M g) (a : Int32) : Ok Sim M (f_X7_type a) (f_X8_type a) := by
  have hn := G.2.2.2.1
  by_cases c : gN g < 60
  · have n60 : ¬ nI (gN g) = (60 : Int32) := fun q => by
      have := nI_inj (a := gN g) (b := 60) (by omega) (by omega) q
      omega
    refine ok_mk (g' := txg g (gN g + 1) (fun i => if i = gN g then vp_nar .char a else gX g i)) (r := nI (gN g + 1)) O (txg_GO G (by omega) (fun i hi => ?_)) ⟨up (up M 244 (gN g) (vp_nar .char a)) 243 1 (nI (gN g + 1)), ?_, C.tx G (fun q h1 h2 => by rw [up_ne h1, up_ne h2]) up_same (fun i hi => ?_), fun q h => by rw [up_ne (by omega), up_ne (by omega)]⟩ (fun M1 h => ⟨up (up M1 259 (gN g) (vp_nar .char a)) 255 6 (nI (gN g + 1)), ?_, ⟨?_, ⟨?_, ?_⟩, ⟨?_, ?_⟩, up_same, fun i hi => ?_⟩, fun q h => by rw [up_ne (by omega), up_ne (by omega)]⟩)
    · show (if i = gN g then vp_nar .char a else gX g i) ≠ -1
      by_cases e : i = gN g
      · rw [if_pos e]
        exact nar_char a
      · rw [if_neg e]
        exact G.2.2.2.2 i (by omega)
    · unfold f_X7_type f_X3_append
      rw [C.2.2.2.1, if_pos (show nI (gN g) < (60 : Int32) from (nIlt (b := 60) (by omega) (by omega)).mpr c), ck_t (inbN c (by omega)), nN (by omega), lt_e, up_ne (show 243 ≠ 244 by omega), C.2.2.2.1, lt_e, show (nI (gN g) : Int32) + 1 = nI (gN g + 1) from nI_1 _, bd_s, if_neg (show ¬ (1 : Int32) = 0 by decide), up_same]
    · rw [up_ne (by omega)]
      show _ = (if i = gN g then vp_nar .char a else gX g i)
      by_cases e : i = gN g
      · rw [if_pos e, e, up_same]
      · rw [if_neg e, up_other (by omega)]
        exact C.2.2.2.2 i (by omega)
    · unfold f_X8_type
      rw [h.2.2.2.1, if_neg n60, ck_t (inbN c (by omega)), nN (by omega), lt_e, up_ne (show 255 ≠ 259 by omega), h.2.2.2.1, lt_e, show (nI (gN g) : Int32) + 1 = nI (gN g + 1) from nI_1 _, up_same]
    · rw [up_ne (by omega), up_ne (by omega)]
      exact h.1
    · rw [up_other (by omega), up_ne (by omega)]
      exact h.2.1.1
    · rw [up_ne (by omega), up_ne (by omega)]
      exact h.2.1.2
    · rw [up_other (by omega), up_ne (by omega)]
      exact h.2.2.1.1
    · rw [up_ne (by omega), up_ne (by omega)]
      exact h.2.2.1.2
    · rw [up_ne (by omega)]
      show _ = (if i = gN g then vp_nar .char a else gX g i)
      have hi2 : i < gN g + 1 := hi
      by_cases e : i = gN g
      · rw [if_pos e, e, up_same]
      · rw [if_neg e, up_other (by omega)]
        exact h.2.2.2.2 i (by omega)
  · have k60 : gN g = 60 := by omega
    refine ok_q0 (r := -3) G C O ?_ (fun M1 h => ?_)
    · unfold f_X7_type f_X3_append
      rw [C.2.2.2.1, if_neg (show ¬ nI (gN g) < (60 : Int32) from fun q => c ((nIlt (b := 60) (by omega) (by omega)).mp q)), bd_s, if_pos rfl]
    · unfold f_X8_type
      rw [h.2.2.2.1, if_pos (show nI (gN g) = (60 : Int32) by rw [k60]; rfl)]
