/-! the class's matching: 251 the flat of a household, 252 who has a flat, 253 who asked for it, 254 who waits -/
def tbM (M : Mem) (K : Nat → Option Nat) (f : Nat) : Prop := (M 252 f = -5 ∧ ∀ h, K h ≠ some f) ∨ ∃ h, h < 12 ∧ M 252 f = nI h ∧ K h = some f
def KM (M : Mem) (K : Nat → Option Nat) : Prop := (∀ h, h < 12 → M 251 h = oI (K h)) ∧ ∀ f, f < 12 → tbM M K f
def stK (K : Nat → Option Nat) (a f : Nat) : Nat → Option Nat := fun h => if h = a then some f else K h
theorem stK_s {K : Nat → Option Nat} {a f : Nat} : stK K a f a = some f := if_pos rfl
theorem stK_n {K : Nat → Option Nat} {a f h : Nat} (e : h ≠ a) : stK K a f h = K h := if_neg e
theorem stK_mat {A : Nat → Nat → Prop} {m a f : Nat} {K : Nat → Option Nat} (hK : Mat A m K) (ha : a < m) (hA : A a f) (hf : ∀ h, K h ≠ some f) : Mat A m (stK K a f) := by
  refine ⟨fun h g q => ?_, fun h h' g q q' => ?_⟩
  · by_cases e : h = a
    · subst e
      rw [stK_s] at q
      cases q
      exact ⟨ha, hA⟩
    · rw [stK_n e] at q
      exact hK.1 h g q
  · by_cases e : h = a
    · by_cases e' : h' = a
      · omega
      · rw [e, stK_s] at q
        rw [stK_n e'] at q'
        cases q
        exact absurd q' (hf h')
    · by_cases e' : h' = a
      · rw [e', stK_s] at q'
        rw [stK_n e] at q
        cases q'
        exact absurd q (hf h)
      · rw [stK_n e] at q
        rw [stK_n e'] at q'
        exact hK.2 h h' g q q'
/-- one step of handing on -/
theorem hand_m {M : Mem} {K : Nat → Option Nat} {a f : Nat} (ha : a < 12) (h1 : ∀ h, h < 12 → M 251 h = oI (K h)) : ∀ h, h < 12 → up (up M 252 f (nI a)) 251 a (nI f) 251 h = oI (stK K a f h) := by
  intro h hh
  by_cases e : h = a
  · subst e
    rw [up_same, stK_s]
    rfl
  · rw [up_other (by omega), up_ne (by omega), stK_n e]
    exact h1 h hh
theorem hand_t {M : Mem} {K : Nat → Option Nat} {a f g : Nat} (ha : a < 12) (hg : g < 12) (hf : ∀ h, K h ≠ some f) (hag : K a ≠ some g) (ht : g ≠ f → tbM M K g) : tbM (up (up M 252 f (nI a)) 251 a (nI f)) (stK K a f) g := by
  by_cases e : g = f
  · subst e
    exact Or.inr ⟨a, ha, by rw [up_ne (by omega), up_same], stK_s⟩
  · have e252 : up (up M 252 f (nI a)) 251 a (nI f) 252 g = M 252 g := by rw [up_ne (by omega), up_other (by omega)]
    rcases ht e with ⟨t1, t2⟩ | ⟨h, t1, t2, t3⟩
    · refine Or.inl ⟨e252.trans t1, fun h q => ?_⟩
      by_cases e2 : h = a
      · rw [e2, stK_s] at q
        exact e (Option.some.inj q).symm
      · rw [stK_n e2] at q
        exact t2 h q
    · refine Or.inr ⟨h, t1, e252.trans t2, ?_⟩
      rw [stK_n (fun e2 => hag (by rw [← e2]; exact t3))]
      exact t3
theorem handOn_l {A : Nat → Nat → Prop} {m t : Nat} {q : Nat → Nat} {K : Nat → Option Nat} {W : Nat → Int32} (hm : m < 12) (q0 : q 0 = m) (hKm : K m = none) (qm : ∀ j, j ≤ t → q j ≤ m) (qi : ∀ i j, i ≤ t → j ≤ t → q i = q j → i = j) (hc : ∀ j, 1 ≤ j → j ≤ t → ∃ g i, g < 12 ∧ K (q j) = some g ∧ i < j ∧ W g = nI (q i) ∧ A (q i) g) : ∀ (b i st n f : Nat) (K' : Nat → Option Nat) (M : Mem), i ≤ b → i ≤ t → st + i < 12 → i + 1 < n → f < 12 → W f = nI (q i) → A (q i) f → (∀ h, h < 12 → M 251 h = oI (K' h)) → (∀ g, g < 12 → g ≠ f → tbM M K' g) → (∀ h, K' h ≠ some f) → Mat A (m + 1) K' → (∀ j, j ≤ i → K' (q j) = K (q j)) → M 253 = W → ∃ M' K'', l_X4_handOn_4 n (nI f) (nI st) M = some (0, M') ∧ KM M' K'' ∧ Mat A (m + 1) K'' ∧ (∀ h, (K'' h).isSome = (decide (h = m) || (K' h).isSome)) ∧ ∀ c, c ≠ 251 → c ≠ 252 → M' c = M c := by
  intro b
  induction b with
  | zero =>
    intro i st n f K' M hib hit hst hn hf hW hA h1 ht hfr hM hag hw
    have hi0 : i = 0 := by omega
    subst hi0
    obtain ⟨n, rfl⟩ : ∃ z, n = z + 2 := ⟨n - 2, by omega⟩
    rw [q0] at hW hA
    have hKm' : K' m = none := by
      have := hag 0 (Nat.le_refl _)
      rw [q0, hKm] at this
      exact this
    have e251 : M 251 m = -5 := by rw [h1 m hm, hKm']; rfl
    refine ⟨up (up M 252 f (nI m)) 251 m (nI f), stK K' m f, ?_, ⟨hand_m hm h1, fun g hg => hand_t hm hg hfr (by rw [hKm']; exact fun z => (by cases z)) (ht g hg)⟩, stK_mat hM (by omega) hA hfr, fun h => ?_, fun c c1 c2 => by rw [up_ne c1, up_ne c2]⟩
    · rw [l_X4_handOn_4_s, if_neg (n12 (by omega)), if_neg (nIne5 (by omega)), ck_t (inbN hf (by omega)), nN (by omega), hw, hW, if_neg (nIne5 (by omega)), ck_t (inbN hm (by omega)), ck_t (inbN hf (by omega)), nN (by omega), lt_e, ck_t (inbN hm (by omega)), lt_e, e251, l_X4_handOn_4_s]
      by_cases c : (12 : Int32) ≤ nI st + 1
      · rw [if_pos c]
      · rw [if_neg c, if_pos rfl]
    · by_cases e : h = m
      · rw [e, stK_s, decide_eq_true rfl]
        rfl
      · rw [stK_n e, decide_eq_false e, Bool.false_or]
  | succ b ih =>
    intro i st n f K' M hib hit hst hn hf hW hA h1 ht hfr hM hag hw
    by_cases hi0 : i ≤ b
    · exact ih i st n f K' M hi0 hit hst hn hf hW hA h1 ht hfr hM hag hw
    · obtain ⟨g, i', g1, g2, g3, g4, g5⟩ := hc i (by omega) hit
      obtain ⟨n, rfl⟩ : ∃ z, n = z + 1 := ⟨n - 1, by omega⟩
      have hqi := qm i hit
      have hq12 : q i < 12 := by omega
      have hKq : K' (q i) = some g := by rw [hag i (Nat.le_refl _)]; exact g2
      have hgf : g ≠ f := fun e => hfr (q i) (by rw [hKq, e])
      have e251 : M 251 (q i) = nI g := by rw [h1 (q i) hq12, hKq]; rfl
      obtain ⟨M', K'', r1, r2, r3, r4, r5⟩ := ih i' (st + 1) n g (stK K' (q i) f) (up (up M 252 f (nI (q i))) 251 (q i) (nI f)) (by omega) (by omega) (by omega) (by omega) g1 g4 g5 (hand_m hq12 h1) (fun g' hg' hne => hand_t hq12 hg' hfr (by rw [hKq]; exact fun z => hne (Option.some.inj z).symm) (ht g' hg')) (fun h z => by
        by_cases e : h = q i
        · rw [e, stK_s] at z
          exact hgf (Option.some.inj z).symm
        · rw [stK_n e] at z
          exact e (hM.2 h (q i) g z hKq)) (stK_mat hM (by omega) hA hfr) (fun j hj => by
        rw [stK_n (fun e => by
          have := qi j i (by omega) hit e
          omega)]
        exact hag j (by omega)) (by rw [up_ne (by omega), up_ne (by omega)]; exact hw)
      refine ⟨M', K'', ?_, r2, r3, fun h => ?_, fun c c1 c2 => by rw [r5 c c1 c2, up_ne c1, up_ne c2]⟩
      · rw [l_X4_handOn_4_s, if_neg (n12 (by omega)), if_neg (nIne5 (by omega)), ck_t (inbN hf (by omega)), nN (show f < 2147483648 by omega), hw, hW, if_neg (nIne5 (by omega)), ck_t (inbN hq12 (by omega)), ck_t (inbN hf (by omega)), nN (show q i < 2147483648 by omega), lt_e, ck_t (inbN hq12 (by omega)), lt_e, e251, show (nI st : Int32) + 1 = nI (st + 1) from nI_1 st]
        exact r1
      · rw [r4 h]
        by_cases e : h = q i
        · rw [e, stK_s, hKq]
          rfl
        · rw [stK_n e]
/-! the search -/
def BF (A : Nat → Nat → Prop) (K : Nat → Option Nat) (m : Nat) (M : Mem) (w : Nat) (q : Nat → Nat) : Prop := (q 0 = m ∧ ∀ j, j < w → M 254 j = nI (q j)) ∧ (∀ i j, i < w → j < w → q i = q j → i = j) ∧ (∀ j, 1 ≤ j → j < w → q j < m ∧ ∃ g i, g < 12 ∧ K (q j) = some g ∧ i < j ∧ M 253 g = nI (q i) ∧ A (q i) g) ∧ ∀ f, f < 12 → M 253 f = -5 ∨ ∃ j, 1 ≤ j ∧ j < w ∧ K (q j) = some f
theorem BF.le {A : Nat → Nat → Prop} {K : Nat → Option Nat} {m : Nat} {M : Mem} {w : Nat} {q : Nat → Nat} (h : BF A K m M w q) {j : Nat} (hj : j < w) : q j ≤ m := by
  rcases Nat.eq_zero_or_pos j with e | e
  · rw [e, h.1.1]
    exact Nat.le_refl _
  · have := (h.2.2.1 j e hj).1
    omega
theorem BF.w {A : Nat → Nat → Prop} {K : Nat → Option Nat} {m : Nat} {M : Mem} {w : Nat} {q : Nat → Nat} (h : BF A K m M w q) : w ≤ m + 1 := php (f := q) (fun i hi => by have := h.le hi; omega) h.2.1
def psQ (q : Nat → Nat) (w o : Nat) : Nat → Nat := fun j => if j = w then o else q j
theorem psQ_s {q : Nat → Nat} {w o : Nat} : psQ q w o w = o := if_pos rfl
theorem psQ_n {q : Nat → Nat} {w o j : Nat} (e : j ≠ w) : psQ q w o j = q j := if_neg e
/-- a flat that is taken: its household waits now -/
theorem BF_push {A : Nat → Nat → Prop} {K : Nat → Option Nat} {m : Nat} {M : Mem} {w : Nat} {q : Nat → Nat} (h : BF A K m M w q) (hm : m < 12) (hw : 1 ≤ w) (hK : Mat A m K) {t f o : Nat} (ht : t < w) (hf : f < 12) (hA : A (q t) f) (h5 : M 253 f = -5) (ho : K o = some f) : BF A K m (up (up M 253 f (nI (q t))) 254 w (nI o)) (w + 1) (psQ q w o) := by
  obtain ⟨⟨h1, h2⟩, h3, h4, h6⟩ := h
  have hom := (hK.1 o f ho).1
  have hnew : ∀ j, j < w → q j ≠ o := fun j hj e => by
    rcases Nat.eq_zero_or_pos j with z | z
    · rw [z, h1] at e
      omega
    · obtain ⟨-, g, i, g1, g2, g3, g4, -⟩ := h4 j z hj
      rw [e, ho] at g2
      cases g2
      rw [h5] at g4
      have := (h4 j z hj).1
      by_cases zi : i = 0
      · rw [zi, h1] at g4
        exact nIm5 (by omega) g4
      · have := (h4 i (by omega) (by omega)).1
        exact nIm5 (by omega) g4
  refine ⟨⟨by rw [psQ_n (by omega)]; exact h1, fun j hj => ?_⟩, fun i j hi hj e => ?_, fun j hj1 hj => ?_, fun g hg => ?_⟩
  · by_cases e : j = w
    · rw [e, up_same, psQ_s]
    · rw [up_other (by omega), up_ne (by omega), psQ_n e]
      exact h2 j (by omega)
  · by_cases c1 : i = w
    · by_cases c2 : j = w
      · omega
      · rw [c1, psQ_s, psQ_n c2] at e
        exact absurd e.symm (hnew j (by omega))
    · by_cases c2 : j = w
      · rw [c2, psQ_s, psQ_n c1] at e
        exact absurd e (hnew i (by omega))
      · rw [psQ_n c1, psQ_n c2] at e
        exact h3 i j (by omega) (by omega) e
  · by_cases c : j = w
    · rw [c, psQ_s]
      refine ⟨hom, f, t, hf, ho, ht, ?_, ?_⟩
      · rw [up_ne (by omega), up_same, psQ_n (by omega)]
      · rw [psQ_n (by omega)]
        exact hA
    · rw [psQ_n c]
      obtain ⟨a1, g, i, g1, g2, g3, g4, g5⟩ := h4 j hj1 (by omega)
      refine ⟨a1, g, i, g1, g2, g3, ?_, ?_⟩
      · rw [up_ne (by omega), psQ_n (by omega)]
        by_cases e : g = f
        · exfalso
          rw [e] at g2
          exact hnew j (by omega) (hK.2 _ _ f g2 ho)
        · rw [up_other (by omega)]
          exact g4
      · rw [psQ_n (by omega)]
        exact g5
  · rw [up_ne (by omega)]
    by_cases e : g = f
    · refine Or.inr ⟨w, hw, by omega, ?_⟩
      rw [psQ_s, e]
      exact ho
    · rw [up_other (by omega)]
      rcases h6 g hg with z | ⟨j, j1, j2, j3⟩
      · exact Or.inl z
      · refine Or.inr ⟨j, j1, by omega, ?_⟩
        rw [psQ_n (by omega)]
        exact j3
