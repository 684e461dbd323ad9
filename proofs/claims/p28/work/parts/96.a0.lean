/-! A CALL IS REFUSED AND CHANGES NOTHING, OR IT IS RECORDED -/
def Act0 (g : Gh) (t : Int32 × Gh) : Prop := (t.1 < 0 ∧ t.2 = g) ∨ (0 ≤ t.1 ∧ t.2 = setS (psh g) t.2.1)
def Act (g : Gh) (t : Int32 × Gh) : Prop := (t.1 < 0 ∧ t.2 = g) ∨ (0 ≤ t.1 ∧ t.2 = setS (psh g) t.2.1 ∧ nf g.1 ≤ nf t.2.1 ∧ nh g.1 ≤ nh t.2.1)
theorem Act.a0 {g : Gh} {t : Int32 × Gh} (h : Act g t) : Act0 g t := h.elim Or.inl (fun q => Or.inr ⟨q.1, q.2.1⟩)
theorem act_n {g : Gh} {r : Int32} (h : r < 0) : Act g (r, g) := Or.inl ⟨h, rfl⟩
theorem act_p {g : Gh} {r : Int32} {s' : Row} (h : 0 ≤ r) (hf : nf g.1 ≤ nf s') (hh : nh g.1 ≤ nh s') : Act g (r, setS (psh g) s') := Or.inr ⟨h, rfl, hf, hh⟩
theorem nn {k : Nat} (h : k < 2147483648) : (0 : Int32) ≤ nI k := nI_pos' h
theorem a_addFlat {g : Gh} (G : GO g) (a b : Int32) : Act g (tAddFlat g a b) := by
  have b0 := G.1.1.h0l
  unfold tAddFlat
  by_cases c1 : (1 : Int32) ≤ a ∧ a ≤ 5
  · rw [if_pos c1]
    by_cases c2 : (1 : Int32) ≤ b ∧ b ≤ 999
    · rw [if_pos c2]
      by_cases c3 : nf g.1 < 12
      · rw [if_pos c3]
        exact act_p (nn (by omega)) (by rw [adF_nf c3]; omega) (by rw [adF_nh c3]; exact Nat.le_refl _)
      · rw [if_neg c3]
        exact act_n (by decide)
    · rw [if_neg c2]
      exact act_n (by decide)
  · rw [if_neg c1]
    exact act_n (by decide)
theorem a_addHouse {g : Gh} (G : GO g) (a b : Int32) : Act g (tAddHouse g a b) := by
  have b1 := G.1.1.h1l
  unfold tAddHouse
  by_cases c1 : (1 : Int32) ≤ a ∧ a ≤ 9
  · rw [if_pos c1]
    by_cases c2 : (1 : Int32) ≤ b ∧ b ≤ 9999
    · rw [if_pos c2]
      by_cases c3 : nh g.1 < 12
      · rw [if_pos c3]
        exact act_p (nn (by omega)) (by rw [adH_nf]; exact Nat.le_refl _) (by rw [adH_nh c3]; omega)
      · rw [if_neg c3]
        exact act_n (by decide)
    · rw [if_neg c2]
      exact act_n (by decide)
  · rw [if_neg c1]
    exact act_n (by decide)
theorem a_wish {g : Gh} (G : GO g) (a b : Int32) : Act g (tWish g a b) := by
  have b1 := G.1.1.h1l
  unfold tWish
  by_cases c : inb a (nh g.1) = true
  · rw [if_pos c]
    by_cases c2 : inb b (nf g.1) = true
    · rw [if_pos c2]
      by_cases c3 : fP g.1 a.toNatClampNeg 7 < 6
      · rw [if_pos c3]
        cases hp : plO g.1 a.toNatClampNeg b with
        | none =>
          refine act_p (nn (by omega)) ?_ ?_
          · unfold adW
            rw [nf_ur (by omega), nf_ur (by omega)]
            exact Nat.le_refl _
          · unfold adW
            rw [nh_ur (by omega), nh_ur (by omega)]
            exact Nat.le_refl _
        | some k => exact act_n (by decide)
      · rw [if_neg c3]
        exact act_n (by decide)
    · rw [if_neg c2]
      exact act_n (by decide)
  · rw [if_neg c]
    exact act_n (by decide)
theorem a_draw {g : Gh} (G : GO g) (a b : Int32) : Act g (tDraw g a b) := by
  have b1 := G.1.1.h1l
  unfold tDraw
  by_cases c : inb a (nh g.1) = true
  · rw [if_pos c]
    by_cases c2 : (1 : Int32) ≤ b ∧ b ≤ 999
    · rw [if_pos c2]
      cases hp : owO g.1 b with
      | none =>
        have h1 := drN_le (s := ur g.1 (30 + 14 * a.toNatClampNeg + 2) b)
        rw [nh_ur (by omega)] at h1
        exact act_p (nn (by omega)) (by rw [nf_ur (by omega)]; exact Nat.le_refl _) (by rw [nh_ur (by omega)]; exact Nat.le_refl _)
      | some o =>
        show Act g (if o = a.toNatClampNeg then ((-5 : Int32), g) else (-4, g))
        by_cases e : o = a.toNatClampNeg
        · rw [if_pos e]
          exact act_n (by decide)
        · rw [if_neg e]
          exact act_n (by decide)
    · rw [if_neg c2]
      exact act_n (by decide)
  · rw [if_neg c]
    exact act_n (by decide)
theorem rdL_cnt : ∀ {d i : Nat} {s : Row} {c : Nat}, (rdL d i s c).2 ≤ c + d ∧ nf (rdL d i s c).1 = nf s ∧ nh (rdL d i s c).1 = nh s := by
  intro d
  induction d with
  | zero => intro i s c; exact ⟨Nat.le_refl _, rfl, rfl⟩
  | succ d ih =>
    intro i s c
    cases hq : atO s (nI i) with
    | none =>
      unfold rdL
      rw [hq]
      exact ⟨by show c ≤ c + (d + 1); omega, rfl, rfl⟩
    | some h =>
      rw [rdL_s hq]
      by_cases c1 : hd s h = -5
      · rw [if_pos c1]
        by_cases c2 : foI s h (hsI s) = -5
        · rw [if_pos c2]
          obtain ⟨h1, h2, h3⟩ := ih (i := i + 1) (s := ur s (30 + 14 * h + 6) (s (30 + 14 * h + 6) + 1)) (c := c)
          exact ⟨by omega, by rw [h2, nf_ur (by omega)], by rw [h3, nh_ur (by omega)]⟩
        · rw [if_neg c2]
          obtain ⟨h1, h2, h3⟩ := ih (i := i + 1) (s := ur s (30 + 14 * h + 4) (foI s h (hsI s))) (c := c + 1)
          exact ⟨by omega, by rw [h2, nf_ur (by omega)], by rw [h3, nh_ur (by omega)]⟩
      · rw [if_neg c1]
        obtain ⟨h1, h2, h3⟩ := ih (i := i + 1) (s := s) (c := c)
        exact ⟨by omega, h2, h3⟩
theorem a_round {g : Gh} (G : GO g) : Act g (tRound g) := by
  have b1 := G.1.1.h1l
  have b2 := drN_le (s := g.1)
  unfold tRound
  by_cases c : drN g.1 = 0
  · rw [if_pos c]
    exact act_n (by decide)
  · rw [if_neg c]
    obtain ⟨h1, h2, h3⟩ := rdL_cnt (d := drN g.1) (i := 0) (s := g.1) (c := 0)
    exact act_p (nn (by omega)) (by rw [nf_ur (by omega), h2]; exact Nat.le_refl _) (by rw [nh_ur (by omega), h3]; exact Nat.le_refl _)
theorem swA_cnt : ∀ {d : Nat} {s : Row} {c : Nat}, nh s ≤ 12 → (swA d s c).2 ≤ c + 12 * d ∧ nf (swA d s c).1 = nf s ∧ nh (swA d s c).1 = nh s := by
  intro d
  induction d with
  | zero => intro s c _; exact ⟨Nat.le_refl _, rfl, rfl⟩
  | succ d ih =>
    intro s c hn
    cases hq : loO s with
    | none =>
      unfold swA
      rw [hq]
      exact ⟨by show c ≤ c + 12 * (d + 1); omega, rfl, rfl⟩
    | some a =>
      unfold swA
      rw [hq]
      obtain ⟨ha, r⟩ := loO_some hq
      have hl := r.le ha
      obtain ⟨h1, h2, h3⟩ := ih (s := swL s a (peN s a)) (c := c + peN s a) (by rw [swL_nh]; exact hn)
      refine ⟨?_, ?_, ?_⟩
      · show (swA d (swL s a (peN s a)) (c + peN s a)).2 ≤ _
        omega
      · show nf (swA d (swL s a (peN s a)) (c + peN s a)).1 = _
        rw [h2, swL_nf]
      · show nh (swA d (swL s a (peN s a)) (c + peN s a)).1 = _
        rw [h3, swL_nh]
theorem a_swap {g : Gh} (G : GO g) : Act g (tSwap g) := by
  have b1 := G.1.1.h1l
  unfold tSwap
  by_cases c : loO g.1 = none
  · rw [if_pos c]
    exact act_n (by decide)
  · rw [if_neg c]
    obtain ⟨h1, h2, h3⟩ := swA_cnt (d := 73) (s := g.1) (c := 0) b1
    exact act_p (nn (by omega)) (by rw [h2]; exact Nat.le_refl _) (by rw [h3]; exact Nat.le_refl _)
theorem hd_nn {g : Gh} (G : GO g) {h : Nat} (hh : h < nh g.1) (h5 : ¬ hd g.1 h = -5) : (0 : Int32) ≤ hd g.1 h := by
  have b0 := G.1.1.h0l
  rcases hd_cases G.1.1 hh with e | ⟨f, hf, e, -, -⟩
  · exact absurd e h5
  · rw [e]
    exact nn (by omega)
theorem inb_lt2 {a : Int32} {n : Nat} (h : inb a n = true) : a.toNatClampNeg < n := inb_lt h
theorem a_decline {g : Gh} (G : GO g) (a : Int32) : Act g (tDecline g a) := by
  have b1 := G.1.1.h1l
  unfold tDecline
  by_cases c : inb a (nh g.1) = true
  · rw [if_pos c]
    have hh := inb_lt2 c
    by_cases c2 : hd g.1 a.toNatClampNeg = -5
    · rw [if_pos c2]
      exact act_n (by decide)
    · rw [if_neg c2]
      have hI1 : Inv (ur g.1 (30 + 14 * a.toNatClampNeg + 4) (-5)) := G.1.1.give hh (Or.inl rfl) (fun q => absurd rfl q)
      have hZ1 : Zr (ur g.1 (30 + 14 * a.toNatClampNeg + 4) (-5)) := G.1.2.up (by omega)
      have hh1 : a.toNatClampNeg < nh (ur g.1 (30 + 14 * a.toNatClampNeg + 4) (-5)) := by rw [nh_ur (by omega)]; exact hh
      obtain ⟨-, -, A2, -⟩ := rmO_inv hI1 hZ1 hh1 (hd g.1 a.toNatClampNeg)
      refine act_p (hd_nn G hh c2) ?_ ?_
      · rw [nf_ur (by omega), nf_ur (by omega), A2.xnf, nf_ur (by omega)]
        exact Nat.le_refl _
      · rw [nh_ur (by omega), nh_ur (by omega), A2.xnh, nh_ur (by omega)]
        exact Nat.le_refl _
  · rw [if_neg c]
    exact act_n (by decide)
theorem a_change {g : Gh} (G : GO g) (a b v : Int32) : Act g (tChange g a b v) := by
  unfold tChange
  by_cases c : inb a (nh g.1) = true
  · rw [if_pos c]
    have hh := inb_lt2 c
    obtain ⟨⟨n1, n2, n3⟩, ⟨i1, i2⟩, -⟩ := G.1.1.nu hh
    by_cases c0 : b = 0
    · rw [if_pos c0]
      by_cases c1 : (1 : Int32) ≤ v ∧ v ≤ 9
      · rw [if_pos c1]
        by_cases c2 : g.1 (30 + 14 * a.toNatClampNeg + 0) = v
        · rw [if_pos c2]
          exact act_n (by decide)
        · rw [if_neg c2]
          exact act_p (by rw [n1]; exact nn (by omega)) (by rw [nf_ur (by omega)]; exact Nat.le_refl _) (by rw [nh_ur (by omega)]; exact Nat.le_refl _)
      · rw [if_neg c1]
        exact act_n (by decide)
    · rw [if_neg c0]
      by_cases c1 : (1 : Int32) ≤ v ∧ v ≤ 9999
      · rw [if_pos c1]
        by_cases c2 : g.1 (30 + 14 * a.toNatClampNeg + 1) = v
        · rw [if_pos c2]
          exact act_n (by decide)
        · rw [if_neg c2]
          exact act_p (by rw [i1]; exact nn (by omega)) (by rw [nf_ur (by omega)]; exact Nat.le_refl _) (by rw [nh_ur (by omega)]; exact Nat.le_refl _)
      · rw [if_neg c1]
        exact act_n (by decide)
  · rw [if_neg c]
    exact act_n (by decide)
theorem a_appeal {g : Gh} (G : GO g) (a b : Int32) : Act g (tAppeal g a b) := by
  unfold tAppeal
  by_cases c : inb a (nh g.1) = true
  · rw [if_pos c]
    have hh := inb_lt2 c
    obtain ⟨-, -, -, ⟨p1, p2⟩, q1, q2⟩ := G.1.1.nu hh
    by_cases c1 : (0 : Int32) ≤ b ∧ b ≤ 2
    · rw [if_pos c1]
      by_cases c2 : fP g.1 a.toNatClampNeg 5 < 2
      · rw [if_pos c2]
        obtain ⟨r, hr, rfl⟩ := inb_ex (a := b) (n := 3) (by
          obtain ⟨x1, x2⟩ := c1
          rw [Int32.le_iff_toInt_le, Int32.toInt_zero] at x1
          rw [Int32.le_iff_toInt_le, show (2 : Int32).toInt = 2 from by decide] at x2
          exact decide_eq_true (by omega)) (by omega)
        by_cases c3 : rsB g.1 a.toNatClampNeg (nI r).toNatClampNeg = true
        · rw [if_pos c3]
          refine act_p ?_ ?_ ?_
          · rw [nN (show r < 2147483648 by omega), show (100 : Int32) = nI 100 from rfl, nI_add]
            exact nn (by omega)
          · unfold apY
            rw [nf_ur (by omega), nf_ur (by omega), nf_ur (by omega)]
            exact Nat.le_refl _
          · unfold apY
            rw [nh_ur (by omega), nh_ur (by omega), nh_ur (by omega)]
            exact Nat.le_refl _
        · rw [if_neg c3]
          refine act_p (nn (by omega)) ?_ ?_
          · unfold apN
            rw [nf_ur (by omega), nf_ur (by omega), nf_ur (by omega)]
            exact Nat.le_refl _
          · unfold apN
            rw [nh_ur (by omega), nh_ur (by omega), nh_ur (by omega)]
            exact Nat.le_refl _
      · rw [if_neg c2]
        exact act_n (by decide)
    · rw [if_neg c1]
      exact act_n (by decide)
  · rw [if_neg c]
    exact act_n (by decide)
theorem a_unwish {g : Gh} (G : GO g) (a b : Int32) : Act0 g (tUnwish g a b) := by
  unfold tUnwish
  by_cases c : inb a (nh g.1) = true
  · rw [if_pos c]
    have hh := inb_lt2 c
    have l2 := (G.1.1.ls hh).1.2
    by_cases c2 : inb b (nf g.1) = true
    · rw [if_pos c2]
      cases hp : plO g.1 a.toNatClampNeg b with
      | none => exact (act_n (by decide)).a0
      | some q =>
        have := plO_lt hp
        exact Or.inr ⟨nn (k := q) (by omega), rfl⟩
    · rw [if_neg c2]
      exact (act_n (by decide)).a0
  · rw [if_neg c]
    exact (act_n (by decide)).a0
theorem a_moveOut {g : Gh} (G : GO g) (a : Int32) : Act0 g (tMoveOut g a) := by
  unfold tMoveOut
  by_cases c : inb a (nh g.1) = true
  · rw [if_pos c]
    have hh := inb_lt2 c
    by_cases c2 : hd g.1 a.toNatClampNeg = -5
    · rw [if_pos c2]
      exact (act_n (by decide)).a0
    · rw [if_neg c2]
      exact Or.inr ⟨hd_nn G hh c2, rfl⟩
  · rw [if_neg c]
    exact (act_n (by decide)).a0
/-- an answer of the law's hand-made runs: refused -/
theorem tn {g : Gh} {t : Int32 × Gh} {r : Int32} (h : Act0 g t) (e : t.1 = r) (hr : r < 0) : t = (r, g) := by
  rcases h with ⟨-, h⟩ | ⟨h, -⟩
  · exact Prod.ext e h
  · rw [e] at h
    exact absurd hr (Int32.not_lt.mpr h)
/-- .. recorded -/
theorem tp {g : Gh} {t : Int32 × Gh} {r : Int32} {s' : Row} (h : Act0 g t) (e : t.1 = r) (hr : (0 : Int32) ≤ r) (hs : t.2.1 = s') : t = (r, setS (psh g) s') := by
  rcases h with ⟨h, -⟩ | ⟨-, h⟩
  · rw [e] at h
    exact absurd h (Int32.not_lt.mpr hr)
  · refine Prod.ext e ?_
    rw [h, hs]
def lk : List Int32 → Row
  | [], _ => 0
  | a :: _, 0 => a
  | _ :: l, n + 1 => lk l n
theorem lk_Zr : ∀ {l : List Int32} {i : Nat}, l.length ≤ i → lk l i = 0 := by
  intro l
  induction l with
  | nil => intro i _; rfl
  | cons a l ih =>
    intro i h
    cases i with
    | zero => exact absurd h (by simp)
    | succ i => exact ih (by simpa using h)
def allN (p : Nat → Bool) : Nat → Bool
  | 0 => true
  | n + 1 => p n && allN p n
theorem allN_at {p : Nat → Bool} : ∀ {n : Nat}, allN p n = true → ∀ i, i < n → p i = true := by
  intro n
  induction n with
  | zero => intro _ i hi; omega
  | succ n ih =>
    intro h i hi
    unfold allN at h
    rw [Bool.and_eq_true] at h
    by_cases e : i = n
    · rw [e]; exact h.1
    · exact ih h.2 i (by omega)
theorem row_l {a : Row} {l : List Int32} (ha : Zr a) (hl : l.length ≤ 198) (h : allN (fun i => decide (a i = lk l i)) 198 = true) : a = lk l := row_eq (fun k hk => of_decide_eq_true (allN_at h k hk)) ha (fun i hi => lk_Zr (by omega))
