/-! WHAT HOLDS OF BOTH: a ghost of seven: the state, how many are kept, which, is there a snapshot, which, the text's length, the text -/
abbrev Gh : Type := Row × Nat × (Nat → Row) × Bool × Row × Nat × (Nat → Int32)
def gK (g : Gh) : Nat := g.2.1
def gT (g : Gh) : Nat → Row := g.2.2.1
def gB (g : Gh) : Bool := g.2.2.2.1
def gS (g : Gh) : Row := g.2.2.2.2.1
def gN (g : Gh) : Nat := g.2.2.2.2.2.1
def gX (g : Gh) : Nat → Int32 := g.2.2.2.2.2.2
def GO (g : Gh) : Prop := (Inv g.1 ∧ Zr g.1) ∧ (gK g ≤ 4 ∧ ∀ j, j < gK g → Inv (gT g j) ∧ Zr (gT g j)) ∧ (gB g = true → Inv (gS g) ∧ Zr (gS g)) ∧ gN g ≤ 60 ∧ ∀ i, i < gN g → gX g i ≠ -1
def CL (M : Mem) (g : Gh) : Prop := RS M 1 g.1 ∧ (M 81 1 = nI (gK g) ∧ ∃ π : Nat → Nat, (∀ j, j < 4 → M 82 j = nI (π j) ∧ π j < 4) ∧ (∀ i j, i < 4 → j < 4 → π i = π j → i = j) ∧ ∀ j, j < gK g → RS M (83 + 40 * π j) (gT g j)) ∧ (M 0 2 = bI (gB g) ∧ (gB g = true → RS M 41 (gS g))) ∧ M 243 1 = nI (gN g) ∧ ∀ i, i < gN g → M 244 i = gX g i
theorem CL.co {M M' : Mem} {g : Gh} (C : CL M g) (G : GO g) (h : ∀ q, q < 245 → q ≠ 4 → q ≠ 243 → M' q = M q) (h1 : M' 243 1 = M 243 1) : CL M' g := by
  obtain ⟨c1, ⟨c2, π, c3, c4, c5⟩, ⟨c6, c7⟩, c8, c9⟩ := C
  refine ⟨c1.co G.1.1 (fun i _ _ h3 => h i (by omega) (by omega) (by omega)), ⟨by rw [h 81 (by omega) (by omega) (by omega)]; exact c2, π, fun j hj => by rw [h 82 (by omega) (by omega) (by omega)]; exact c3 j hj, c4, fun j hj => ?_⟩, ⟨by rw [h 0 (by omega) (by omega) (by omega)]; exact c6, fun hb => ?_⟩, by rw [h1]; exact c8, fun i hi => by rw [h 244 (by omega) (by omega) (by omega)]; exact c9 i hi⟩
  · have hk := G.2.1.1
    have := (c3 j (by omega)).2
    exact (c5 j hj).co (G.2.1.2 j hj).1 (fun i _ _ h3 => h i (by omega) (by omega) (by omega))
  · exact (c7 hb).co (G.2.2.1 hb).1 (fun i _ _ h3 => h i (by omega) (by omega) (by omega))
/-! copying a state, in the class -/
theorem copyH_l {d a : Nat} (hd1 : d ≠ a + 1) (hne : d ≠ a) (h2 : a ≠ d + 1) (K : Mem → Option (Int32 × Mem)) : ∀ (c i n : Nat) (M : Mem), i + c = 6 → c < n → ∃ M', l_X2_copyFrom_2 d a K n (nI i) M = K M' ∧ (∀ k, i ≤ k → k < 6 → M' (d + 1) k = M (a + 1) k) ∧ (∀ k, k < i → M' (d + 1) k = M (d + 1) k) ∧ ∀ q, q ≠ d + 1 → M' q = M q := by
  intro c
  induction c with
  | zero =>
    intro i n M hi hn
    obtain ⟨n, rfl⟩ : ∃ z, n = z + 1 := ⟨n - 1, by omega⟩
    refine ⟨M, ?_, fun k h1 h2 => by omega, fun _ _ => rfl, fun _ _ => rfl⟩
    rw [l_X2_copyFrom_2_s, if_pos (show (6 : Int32) ≤ nI i by rw [show i = 6 by omega]; decide)]
  | succ c ih =>
    intro i n M hi hn
    obtain ⟨n, rfl⟩ : ∃ z, n = z + 1 := ⟨n - 1, by omega⟩
    rw [l_X2_copyFrom_2_s, if_neg (n6 (by omega)), ck_t (inbN (by omega) (by omega)), ck_t (inbN (by omega) (by omega)), nN (by omega), lt_e, show (nI i : Int32) + 1 = nI (i + 1) from nI_1 i]
    obtain ⟨M', e1, e2, e3, e4⟩ := ih (i + 1) n (up M (d + 1) i (M (a + 1) i)) (by omega) (by omega)
    refine ⟨M', e1, fun k h1 h2 => ?_, fun k hk => ?_, fun q hq => by rw [e4 q hq, up_ne hq]⟩
    · by_cases e : k = i
      · subst e
        rw [e3 k (by omega), up_same]
      · rw [e2 k (by omega) h2, up_ne (by omega)]
    · rw [e3 k (by omega), up_other (by omega)]
theorem copyH {M : Mem} {d a : Nat} (hd1 : d ≠ a + 1) (hne : d ≠ a) (h2 : a ≠ d + 1) : ∃ M', f_X2_copyFrom d a M = some (0, M') ∧ (∀ k, 1 ≤ k → k ≤ 8 → M' d k = M a k) ∧ (∀ k, k < 6 → M' (d + 1) k = M (a + 1) k) ∧ ∀ q, q ≠ d → q ≠ d + 1 → M' q = M q := by
  unfold f_X2_copyFrom
  obtain ⟨M1, e1, e2, e3, e4⟩ := copyH_l hd1 hne h2 (fun (M5 : Mem) => lt_ (up M5 d 1 (M5 a 1)) (fun M6 => lt_ (up M6 d 2 (M6 a 2)) (fun M7 => lt_ (up M7 d 3 (M7 a 3)) (fun M8 => lt_ (up M8 d 4 (M8 a 4)) (fun M9 => lt_ (up M9 d 5 (M9 a 5)) (fun M10 => lt_ (up M10 d 6 (M10 a 6)) (fun M11 => lt_ (up M11 d 7 (M11 a 7)) (fun M12 => lt_ (up M12 d 8 (M12 a 8)) (fun M13 => some ((0), M13)))))))))) 6 0 LF M (by omega) (by unfold LF; omega)
  have ea : ∀ k, M1 a k = M a k := fun k => by rw [e4 a h2]
  refine ⟨_, e1.trans (by rw [lt_e, lt_e, lt_e, lt_e, lt_e, lt_e, lt_e, lt_e]), fun k h1 h8 => ?_, fun k hk => ?_, fun q q1 q2 => ?_⟩
  · have hna : a ≠ d := Ne.symm hne
    simp only [up_ne hna, ea]
    rcases (show k = 1 ∨ k = 2 ∨ k = 3 ∨ k = 4 ∨ k = 5 ∨ k = 6 ∨ k = 7 ∨ k = 8 by omega) with rfl | rfl | rfl | rfl | rfl | rfl | rfl | rfl <;> simp (disch := omega) only [up_same, up_other]
  · have hna : d + 1 ≠ d := by omega
    simp only [up_ne hna]
    exact e2 k (by omega) hk
  · simp only [up_ne q1]
    exact e4 q q2
theorem copyF {M : Mem} {d a : Nat} (hne : a ≠ d) : ∃ M', f_X0_copyFrom d a M = some (0, M') ∧ M' d 0 = M a 0 ∧ M' d 1 = M a 1 ∧ ∀ q, q ≠ d → M' q = M q := by
  unfold f_X0_copyFrom
  rw [lt_e, lt_e]
  refine ⟨_, rfl, ?_, ?_, fun q hq => ?_⟩
  · rw [up_other (by omega), up_same]
  · rw [up_same, up_ne hne]
  · rw [up_ne hq, up_ne hq]
/-- two states, apart -/
def Apart (d a : Nat) : Prop := d + 40 ≤ a ∨ a + 40 ≤ d
theorem copy_f {d a : Nat} (ap : Apart d a) {s : Row} (hI : Inv s) (K : Mem → Option (Int32 × Mem)) : ∀ (c i n : Nat) (M : Mem), M d 2 = nI (nf s) → i + c = nf s → c < n → ∃ M', l_X6_copyFrom_10 d a K n (nI i) M = K M' ∧ (∀ f, i ≤ f → f < nf s → M' (d + 4 + f) 0 = M (a + 4 + f) 0 ∧ M' (d + 4 + f) 1 = M (a + 4 + f) 1) ∧ ∀ q, q < d + 4 + i ∨ d + 16 ≤ q → M' q = M q := by
  have b0 := hI.h0l
  intro c
  induction c with
  | zero =>
    intro i n M hc hi hn
    obtain ⟨n, rfl⟩ : ∃ z, n = z + 1 := ⟨n - 1, by omega⟩
    refine ⟨M, ?_, fun f h1 h2 => by omega, fun _ _ => rfl⟩
    rw [l_X6_copyFrom_10_s, hc, if_pos ((nIle (by omega) (by omega)).mpr (by omega))]
  | succ c ih =>
    intro i n M hc hi hn
    obtain ⟨n, rfl⟩ : ∃ z, n = z + 1 := ⟨n - 1, by omega⟩
    unfold Apart at ap
    obtain ⟨M1, f1, f2, f3, f4⟩ := copyF (M := M) (d := d + 4 + i) (a := a + 4 + i) (by omega)
    rw [l_X6_copyFrom_10_s, hc, if_neg (fun q => absurd ((nIle (by omega) (by omega)).mp q) (by omega)), ck_t (inbN (by omega) (by omega)), ck_t (inbN (by omega) (by omega)), nN (by omega), f1, bd_s, show (nI i : Int32) + 1 = nI (i + 1) from nI_1 i]
    obtain ⟨M', e1, e2, e3⟩ := ih (i + 1) n M1 (by rw [f4 d (by omega)]; exact hc) (by omega) (by omega)
    refine ⟨M', e1, fun f h1 h2 => ?_, fun q hq => ?_⟩
    · by_cases e : f = i
      · subst e
        rw [e3 (d + 4 + f) (by omega)]
        exact ⟨f2, f3⟩
      · obtain ⟨g1, g2⟩ := e2 f (by omega) h2
        rw [g1, g2, f4 (a + 4 + f) (by omega)]
        exact ⟨rfl, rfl⟩
    · rw [e3 q (by omega), f4 q (by omega)]
theorem copy_h {d a : Nat} (ap : Apart d a) {s : Row} (hI : Inv s) : ∀ (c i n : Nat) (M : Mem), M d 3 = nI (nh s) → i + c = nh s → c < n → ∃ M', l_X6_copyFrom_49 d a n (nI i) M = some (0, M') ∧ (∀ h, i ≤ h → h < nh s → (∀ k, 1 ≤ k → k ≤ 8 → M' (d + 16 + 2 * h) k = M (a + 16 + 2 * h) k) ∧ ∀ k, k < 6 → M' (d + 16 + 2 * h + 1) k = M (a + 16 + 2 * h + 1) k) ∧ (M' d 2 = M d 2 ∧ M' d 3 = M d 3 ∧ M' d 4 = M a 4 ∧ M' d 5 = M a 5 ∧ M' d 6 = M a 6) ∧ ∀ q, q ≠ d → q < d + 16 + 2 * i ∨ d + 40 ≤ q → M' q = M q := by
  have b1 := hI.h1l
  intro c
  induction c with
  | zero =>
    intro i n M hc hi hn
    obtain ⟨n, rfl⟩ : ∃ z, n = z + 1 := ⟨n - 1, by omega⟩
    unfold Apart at ap
    have hna : a ≠ d := by omega
    refine ⟨_, by rw [l_X6_copyFrom_49_s, hc, if_pos ((nIle (by omega) (by omega)).mpr (by omega)), lt_e, lt_e, lt_e], fun h h1 h2 => by omega, ?_, fun q hq _ => ?_⟩
    · simp only [up_ne hna]
      simp (disch := omega) only [up_same, up_other]
      exact ⟨trivial, trivial, trivial, trivial, trivial⟩
    · rw [up_ne hq, up_ne hq, up_ne hq]
  | succ c ih =>
    intro i n M hc hi hn
    obtain ⟨n, rfl⟩ : ∃ z, n = z + 1 := ⟨n - 1, by omega⟩
    unfold Apart at ap
    obtain ⟨M1, f1, f2, f3, f4⟩ := copyH (M := M) (d := d + 16 + 2 * i) (a := a + 16 + 2 * i) (by omega) (by omega) (by omega)
    rw [l_X6_copyFrom_49_s, hc, if_neg (fun q => absurd ((nIle (by omega) (by omega)).mp q) (by omega)), ck_t (inbN (by omega) (by omega)), ck_t (inbN (by omega) (by omega)), nN (by omega), f1, bd_s, show (nI i : Int32) + 1 = nI (i + 1) from nI_1 i]
    obtain ⟨M', e1, e2, e3, e4⟩ := ih (i + 1) n M1 (by rw [f4 d (by omega) (by omega)]; exact hc) (by omega) (by omega)
    rw [f4 d (by omega) (by omega), f4 a (by omega) (by omega)] at e3
    refine ⟨M', e1, fun h h1 h2 => ?_, ⟨e3.1, e3.2.1.trans hc, e3.2.2⟩, fun q hq h => ?_⟩
    · by_cases e : h = i
      · subst e
        rw [e4 (d + 16 + 2 * h) (by omega) (by omega), e4 (d + 16 + 2 * h + 1) (by omega) (by omega)]
        exact ⟨f2, f3⟩
      · obtain ⟨g1, g2⟩ := e2 h (by omega) h2
        rw [f4 (a + 16 + 2 * h) (by omega) (by omega)] at g1
        rw [f4 (a + 16 + 2 * h + 1) (by omega) (by omega)] at g2
        exact ⟨g1, g2⟩
    · rw [e4 q hq (by omega), f4 q (by omega) (by omega)]
theorem k_copy {M : Mem} {d a : Nat} (ap : Apart d a) {s : Row} (hI : Inv s) (R : RS M a s) : ∃ M', f_X6_copyFrom d a M = some (0, M') ∧ RS M' d s ∧ ∀ q, q < d ∨ d + 40 ≤ q → M' q = M q := by
  have b0 := hI.h0l
  have b1 := hI.h1l
  have hna : a ≠ d := by
    unfold Apart at ap
    omega
  unfold f_X6_copyFrom
  rw [lt_e]
  obtain ⟨M1, e1, e2, e3⟩ := copy_f ap hI (fun (M12 : Mem) => lt_ (up M12 d 3 (M12 a 3)) (fun M13 => l_X6_copyFrom_49 d a LF (0) M13)) (nf s) 0 LF (up M d 2 (M a 2)) (by rw [up_same, R.n0, hI.h0]) (by omega) (by unfold LF; omega)
  unfold Apart at ap
  have ea : ∀ q, q ≠ d → q < d + 4 ∨ d + 16 ≤ q → M1 q = M q := fun q h1 h2 => by rw [e3 q (by omega), up_ne h1]
  obtain ⟨M', f1, f2, f3, f4⟩ := copy_h ap hI (nh s) 0 LF (up M1 d 3 (M1 a 3)) (by rw [up_same, ea a hna (by omega), R.n1, hI.h1]) (by omega) (by unfold LF; omega)
  have fin : l_X6_copyFrom_10 d a (fun (M12 : Mem) => lt_ (up M12 d 3 (M12 a 3)) (fun M13 => l_X6_copyFrom_49 d a LF (0) M13)) LF 0 (up M d 2 (M a 2)) = some (0, M') := by
    refine Eq.trans e1 ?_
    show lt_ (up M1 d 3 (M1 a 3)) (fun M13 => l_X6_copyFrom_49 d a LF (0) M13) = some (0, M')
    rw [lt_e]
    exact f1
  refine ⟨M', fin, ⟨?_, fun f hf => ?_, fun h hh => ?_⟩, fun q hq => ?_⟩
  · obtain ⟨g1, g2, g3, g4, g5⟩ := f3
    rw [g1, g2, g3, g4, g5, up_other (by omega), up_same, up_ne hna, e3 d (by omega), up_same, ea a hna (by omega)]
    exact R.1
  · obtain ⟨g1, g2⟩ := e2 f (by omega) hf
    rw [f4 (d + 4 + f) (by omega) (by omega), up_ne (by omega), g1, g2, up_ne (by omega)]
    exact R.fl hf
  · obtain ⟨g1, g2⟩ := f2 h (by omega) hh
    rw [up_ne (by omega), ea (a + 16 + 2 * h) (by omega) (by omega)] at g1
    rw [up_ne (by omega), ea (a + 16 + 2 * h + 1) (by omega) (by omega)] at g2
    obtain ⟨a1, a2, a3, a4, a5, a6, a7, a8, a9⟩ := R.hr hh
    have l2 := (hI.ls hh).1.2
    unfold HR
    rw [g1 1 (by omega) (by omega), g1 2 (by omega) (by omega), g1 3 (by omega) (by omega), g1 4 (by omega) (by omega), g1 5 (by omega) (by omega), g1 6 (by omega) (by omega), g1 7 (by omega) (by omega), g1 8 (by omega) (by omega)]
    refine ⟨a1, a2, a3, a4, a5, a6, a7, a8, fun k hk => ?_⟩
    rw [g2 k (by omega)]
    exact a9 k hk
  · rw [f4 q (by omega) (by omega), up_ne (by omega), ea q (by omega) (by omega)]
