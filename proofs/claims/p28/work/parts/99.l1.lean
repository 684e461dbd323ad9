/-! THE LAW'S LOOP: what holds at its head; the steps behind it -/
def LI (i a : Nat) (g : Gh) (wv : Nat → Int64) : Prop := (a ≤ i ∧ i ≤ 40) ∧ gK g = (if a < 4 then a else 4) ∧ (∀ j, j < gK g → wv (a - gK g + j) = seenV (gT g j)) ∧ (i ≤ 4 → nf g.1 = i ∧ nh g.1 = 0 ∧ a = i) ∧ (4 ≤ i → i ≤ 8 → nf g.1 = 4 ∧ nh g.1 = i - 4 ∧ a = i) ∧ (8 ≤ i → 1 ≤ nf g.1 ∧ 1 ≤ nh g.1 ∧ 8 ≤ a)
theorem LI_0 : LI 0 0 g0 (fun _ => 0) := by
  refine ⟨⟨Nat.le_refl _, by omega⟩, rfl, fun j hj => absurd hj (Nat.not_lt_zero _), fun _ => ⟨rfl, rfl, rfl⟩, fun h => absurd h (by omega), fun h => absurd h (by omega)⟩
theorem LI_n {i a : Nat} {g : Gh} {wv : Nat → Int64} {x : Int64} (h : LI i a g wv) (hi : i < 40) (h8 : 8 ≤ i) : LI (i + 1) a g (vp_updL wv a x) := by
  obtain ⟨⟨h1, h2⟩, h3, h4, h5, h6, h7⟩ := h
  refine ⟨⟨by omega, by omega⟩, h3, fun j hj => ?_, fun q => absurd q (by omega), fun _ q => absurd q (by omega), fun _ => h7 h8⟩
  have ha : gK g ≤ a := by rw [h3]; split <;> omega
  rw [pk_uLn (by omega)]
  exact h4 j hj
theorem LI_p {i a : Nat} {g : Gh} {wv : Nat → Int64} {s' : Row} (h : LI i a g wv) (hi : i < 40) (hf : nf g.1 ≤ nf s') (hh : nh g.1 ≤ nh s') (c0 : i < 4 → nf s' = nf g.1 + 1 ∧ nh s' = nh g.1) (c1 : 4 ≤ i → i < 8 → nh s' = nh g.1 + 1 ∧ nf s' = nf g.1) : LI (i + 1) (a + 1) (setS (psh g) s') (vp_updL wv a (seenV g.1)) := by
  obtain ⟨⟨h1, h2⟩, h3, h4, h5, h6, h7⟩ := h
  have hk := gK_s (g := g) (s := s') rfl
  refine ⟨⟨by omega, by omega⟩, ?_, fun j hj => ?_, fun q => ?_, fun q1 q2 => ?_, fun q => ?_⟩
  · rw [hk, h3]
    by_cases c : a < 4
    · rw [if_pos c, if_pos c]
      by_cases c2 : a + 1 < 4
      · rw [if_pos c2]
      · rw [if_neg c2]
        omega
    · rw [if_neg c, if_neg (by omega), if_neg (by omega)]
  · rw [hk] at hj ⊢
    by_cases c : gK g < 4
    · rw [if_pos c] at hj ⊢
      have e1 : gT (setS (psh g) s') j = if j = gK g then g.1 else gT g j := by
        show (if gK g < 4 then (fun j => if j = gK g then g.1 else gT g j) else (fun j => if j = 3 then g.1 else gT g (j + 1))) j = _
        rw [if_pos c]
      have ha : gK g = a := by
        rw [h3] at c ⊢
        by_cases c2 : a < 4
        · rw [if_pos c2]
        · rw [if_neg c2] at c
          omega
      rw [e1]
      by_cases c3 : j = gK g
      · rw [if_pos c3, show a + 1 - (gK g + 1) + j = a by omega, pk_uLs]
      · rw [if_neg c3, show a + 1 - (gK g + 1) + j = a - gK g + j by omega, pk_uLn (by omega)]
        exact h4 j (by omega)
    · rw [if_neg c] at hj ⊢
      have e1 : gT (setS (psh g) s') j = if j = 3 then g.1 else gT g (j + 1) := by
        show (if gK g < 4 then (fun j => if j = gK g then g.1 else gT g j) else (fun j => if j = 3 then g.1 else gT g (j + 1))) j = _
        rw [if_neg c]
      have ha : gK g = 4 ∧ 4 ≤ a := by
        rw [h3] at c ⊢
        by_cases c2 : a < 4
        · rw [if_pos c2] at c
          omega
        · rw [if_neg c2]
          omega
      rw [e1]
      by_cases c3 : j = 3
      · rw [if_pos c3, show a + 1 - 4 + j = a by omega, pk_uLs]
      · rw [if_neg c3, show a + 1 - 4 + j = a - gK g + (j + 1) by omega, pk_uLn (by omega)]
        exact h4 (j + 1) (by omega)
  · obtain ⟨b1, b2, b3⟩ := h5 (by omega)
    obtain ⟨d1, d2⟩ := c0 (by omega)
    exact ⟨by show nf s' = _; omega, by show nh s' = _; omega, by omega⟩
  · by_cases c : i = 3
    · obtain ⟨b1, b2, b3⟩ := h5 (by omega)
      obtain ⟨d1, d2⟩ := c0 (by omega)
      exact ⟨by show nf s' = _; omega, by show nh s' = _; omega, by omega⟩
    · obtain ⟨b1, b2, b3⟩ := h6 (by omega) (by omega)
      obtain ⟨d1, d2⟩ := c1 (by omega) (by omega)
      exact ⟨by show nf s' = _; omega, by show nh s' = _; omega, by omega⟩
  · by_cases c : i = 7
    · obtain ⟨b1, b2, b3⟩ := h6 (by omega) (by omega)
      obtain ⟨d1, d2⟩ := c1 (by omega) (by omega)
      exact ⟨by show 1 ≤ nf s'; omega, by show 1 ≤ nh s'; omega, by omega⟩
    · obtain ⟨b1, b2, b3⟩ := h7 (by omega)
      exact ⟨by show 1 ≤ nf s'; omega, by show 1 ≤ nh s'; omega, by omega⟩
theorem af_ok {g : Gh} (G : GO g) {a b : Nat} (a1 : 1 ≤ a) (a2 : a ≤ 5) (b1 : 1 ≤ b) (b2 : b ≤ 999) (hn : nf g.1 < 12) : (0 : Int32) ≤ (tAddFlat g (nI a) (nI b)).1 ∧ nf (tAddFlat g (nI a) (nI b)).2.1 = nf g.1 + 1 ∧ nh (tAddFlat g (nI a) (nI b)).2.1 = nh g.1 := by
  have c1 : (1 : Int32) ≤ nI a ∧ nI a ≤ 5 := ⟨(nIle (a := 1) (b := a) (by omega) (by omega)).mpr a1, (nIle (a := a) (b := 5) (by omega) (by omega)).mpr a2⟩
  have c2 : (1 : Int32) ≤ nI b ∧ nI b ≤ 999 := ⟨(nIle (a := 1) (b := b) (by omega) (by omega)).mpr b1, (nIle (a := b) (b := 999) (by omega) (by omega)).mpr b2⟩
  unfold tAddFlat
  rw [if_pos c1, if_pos c2, if_pos hn]
  exact ⟨nn (by omega), adF_nf hn, adF_nh hn⟩
theorem ah_ok {g : Gh} (G : GO g) {a b : Nat} (a1 : 1 ≤ a) (a2 : a ≤ 9) (b1 : 1 ≤ b) (b2 : b ≤ 9999) (hn : nh g.1 < 12) : (0 : Int32) ≤ (tAddHouse g (nI a) (nI b)).1 ∧ nh (tAddHouse g (nI a) (nI b)).2.1 = nh g.1 + 1 ∧ nf (tAddHouse g (nI a) (nI b)).2.1 = nf g.1 := by
  have c1 : (1 : Int32) ≤ nI a ∧ nI a ≤ 9 := ⟨(nIle (a := 1) (b := a) (by omega) (by omega)).mpr a1, (nIle (a := a) (b := 9) (by omega) (by omega)).mpr a2⟩
  have c2 : (1 : Int32) ≤ nI b ∧ nI b ≤ 9999 := ⟨(nIle (a := 1) (b := b) (by omega) (by omega)).mpr b1, (nIle (a := b) (b := 9999) (by omega) (by omega)).mpr b2⟩
  unfold tAddHouse
  rw [if_pos c1, if_pos c2, if_pos hn]
  exact ⟨nn (by omega), adH_nh hn, adH_nf⟩
/-! behind the loop -/
theorem psh_T {g : Gh} (hk : gK g = 4) {j : Nat} : gT (psh g) j = if j = 3 then g.1 else gT g (j + 1) := by
  show (if gK g < 4 then (fun j => if j = gK g then g.1 else gT g j) else (fun j => if j = 3 then g.1 else gT g (j + 1))) j = _
  rw [if_neg (by omega)]
theorem step_undo2 {g : Gh} {n : Nat} {s : Row} (hk : gK g = n + 1) (hs : gT g n = s) : StG f_X7_undo g (nI n) (s, n, g.2.2) := by
  refine stG_of (t := tUndo g) (fun M G C => st_undo G C) ?_
  subst hs
  unfold tUndo
  rw [if_neg (by omega)]
  unfold udg
  rw [hk]
  rfl
theorem step_undo0 {g : Gh} (hk : gK g = 0) : StG f_X7_undo g (-5) g := stG_of (t := tUndo g) (fun M G C => st_undo G C) (by unfold tUndo; rw [if_pos hk])
theorem step_restore {g : Gh} {s : Row} (hb : gB g = true) (hs : gS g = s) : StG f_X7_restore g (nI (hdN s)) (setS (psh g) s) := stG_of (t := tRestore g) (fun M G C => st_restore G C) (by subst hs; unfold tRestore; rw [if_pos hb])
theorem step_keep {g : Gh} : StG f_X7_keep g (nI (hdN g.1)) (kpg g) := stG_of (t := tKeep g) (fun M G C => st_keep G C) rfl
theorem step_ch1 {g : Gh} {n v : Nat} (hh : 1 ≤ nh g.1) (h12 : nh g.1 ≤ 12) (hx : g.1 31 = nI n) (hn : n ≤ 9999) (hv : v = n % 9999 + 1) : StG (f_X7_change 0 1 (nI v)) g (nI n) (setS (psh g) (ur g.1 31 (nI v))) := by
  refine stG_of (t := tChange g 0 1 (nI v)) (fun M G C => st_change G C 0 1 (nI v) (Or.inr rfl)) ?_
  have c1 : (1 : Int32) ≤ nI v ∧ nI v ≤ 9999 := ⟨(nIle (a := 1) (b := v) (by omega) (by omega)).mpr (by omega), (nIle (a := v) (b := 9999) (by omega) (by omega)).mpr (by omega)⟩
  have c2 : ¬ g.1 (30 + 14 * (0 : Int32).toNatClampNeg + 1) = nI v := fun q => by
    have q : g.1 31 = nI v := q
    rw [hx] at q
    have := nI_inj (by omega) (by omega) q
    omega
  unfold tChange
  rw [if_pos (inb_0 hh h12), if_neg (by decide), if_pos c1, if_neg c2]
  show (g.1 31, setS (psh g) (ur g.1 31 (nI v))) = _
  rw [hx]
theorem step_ch0 {g : Gh} {n v : Nat} (hh : 1 ≤ nh g.1) (h12 : nh g.1 ≤ 12) (hx : g.1 30 = nI n) (hn : n ≤ 9) (hv : v = n % 9 + 1) : StG (f_X7_change 0 0 (nI v)) g (nI n) (setS (psh g) (ur g.1 30 (nI v))) := by
  refine stG_of (t := tChange g 0 0 (nI v)) (fun M G C => st_change G C 0 0 (nI v) (Or.inl rfl)) ?_
  have c1 : (1 : Int32) ≤ nI v ∧ nI v ≤ 9 := ⟨(nIle (a := 1) (b := v) (by omega) (by omega)).mpr (by omega), (nIle (a := v) (b := 9) (by omega) (by omega)).mpr (by omega)⟩
  have c2 : ¬ g.1 (30 + 14 * (0 : Int32).toNatClampNeg + 0) = nI v := fun q => by
    have q : g.1 30 = nI v := q
    rw [hx] at q
    have := nI_inj (by omega) (by omega) q
    omega
  unfold tChange
  rw [if_pos (inb_0 hh h12), if_pos rfl, if_pos c1, if_neg c2]
  show (g.1 30, setS (psh g) (ur g.1 30 (nI v))) = _
  rw [hx]
