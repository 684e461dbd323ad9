/-! THE ORDER: the ranks of the drawn are 0, 1, .. -/
theorem n12 {k : Nat} (h : k < 12) : ¬ (12 : Int32) ≤ nI k := fun q => absurd ((nIle (a := 12) (b := k) (by omega) (by omega)).mp q) (by omega)
theorem cntN_mono {p q : Nat → Bool} : ∀ {d i : Nat}, (∀ j, i ≤ j → j < i + d → p j = true → q j = true) → cntN p i d ≤ cntN q i d := by
  intro d
  induction d with
  | zero => intro i _; exact Nat.le_refl _
  | succ d ih =>
    intro i h
    unfold cntN
    have h1 := ih (i := i + 1) (fun j a b => h j (by omega) (by omega))
    have h2 := h i (Nat.le_refl _) (by omega)
    by_cases c : p i = true
    · rw [if_pos c, if_pos (h2 c)]
      omega
    · rw [if_neg c]
      omega
theorem cntN_one {p q : Nat → Bool} {z : Nat} : ∀ {d i : Nat}, (∀ j, i ≤ j → j < i + d → q j = true → p j = true ∨ j = z) → cntN q i d ≤ cntN p i d + 1 := by
  intro d
  induction d with
  | zero => intro i _; exact Nat.zero_le _
  | succ d ih =>
    intro i h
    unfold cntN
    have h1 := ih (i := i + 1) (fun j a b => h j (by omega) (by omega))
    by_cases c : q i = true
    · rcases h i (Nat.le_refl _) (by omega) c with e | e
      · rw [if_pos c, if_pos e]
        omega
      · have h2 : cntN q (i + 1) d ≤ cntN p (i + 1) d := cntN_mono (fun j a b hj => by
          rcases h j (by omega) (by omega) hj with g | g
          · exact g
          · omega)
        rw [if_pos c]
        omega
    · rw [if_neg c]
      omega
theorem cnt_surj {p : Nat → Bool} {f : Nat → Nat} {n : Nat} (hlt : ∀ h, h < n → p h = true → f h < cntN p 0 n) (inj : ∀ a b, a < n → b < n → p a = true → p b = true → f a = f b → a = b) {r : Nat} (hr : r < cntN p 0 n) : ∃ h, h < n ∧ p h = true ∧ f h = r := by
  by_cases hex : ∃ h, h < n ∧ p h = true ∧ f h = r
  · exact hex
  · exfalso
    have step : ∀ k, cntN (fun h => p h && decide (f h < k + 1)) 0 n ≤ cntN (fun h => p h && decide (f h < k)) 0 n + 1 := by
      intro k
      by_cases he : ∃ z, z < n ∧ p z = true ∧ f z = k
      · obtain ⟨z, z1, z2, z3⟩ := he
        refine cntN_one (z := z) (fun j _ h2 h3 => ?_)
        rw [Bool.and_eq_true] at h3
        have h4 := of_decide_eq_true h3.2
        by_cases e : f j = k
        · exact Or.inr (inj j z (by omega) z1 h3.1 z2 (by omega))
        · refine Or.inl ?_
          rw [Bool.and_eq_true]
          exact ⟨h3.1, decide_eq_true (by omega)⟩
      · refine Nat.le_succ_of_le (cntN_mono (fun j _ h2 h3 => ?_))
        rw [Bool.and_eq_true] at h3 ⊢
        have h4 := of_decide_eq_true h3.2
        exact ⟨h3.1, decide_eq_true (by
          have : f j ≠ k := fun q => he ⟨j, by omega, h3.1, q⟩
          omega)⟩
    have zero : cntN (fun h => p h && decide (f h < 0)) 0 n = 0 := by
      have : ∀ (d i : Nat), cntN (fun h => p h && decide (f h < 0)) i d = 0 := by
        intro d
        induction d with
        | zero => intro i; rfl
        | succ d ih =>
          intro i
          have hh : (p i && decide (f i < 0)) = false := by
            rw [decide_eq_false (Nat.not_lt_zero _), Bool.and_false]
          rw [cntN_f (p := fun h => p h && decide (f h < 0)) hh]
          exact ih (i + 1)
      exact this n 0
    have le1 : ∀ k, cntN (fun h => p h && decide (f h < k)) 0 n ≤ k := by
      intro k
      induction k with
      | zero => rw [zero]; exact Nat.le_refl _
      | succ k ih => exact Nat.le_trans (step k) (by omega)
    have le2 : ∀ k, cntN (fun h => p h && decide (f h < r + 1 + k)) 0 n ≤ r + k := by
      intro k
      induction k with
      | zero =>
        refine Nat.le_trans (cntN_mono (q := fun h => p h && decide (f h < r)) (fun j _ h2 h3 => ?_)) (le1 r)
        rw [Bool.and_eq_true] at h3 ⊢
        have h4 := of_decide_eq_true h3.2
        exact ⟨h3.1, decide_eq_true (by
          have : f j ≠ r := fun q => hex ⟨j, by omega, h3.1, q⟩
          omega)⟩
      | succ k ih => exact Nat.le_trans (step (r + 1 + k)) (by omega)
    have full : cntN (fun h => p h && decide (f h < r + 1 + (cntN p 0 n - (r + 1)))) 0 n = cntN p 0 n := by
      refine cntN_congr (fun j _ h2 => ?_)
      cases c : p j with
      | false => rfl
      | true =>
        rw [Bool.true_and]
        have := hlt j (by omega) c
        exact decide_eq_true (by omega)
    have := le2 (cntN p 0 n - (r + 1))
    rw [full] at this
    omega
theorem poN_drN {s : Row} {h : Nat} (hh : h < nh s) (hd : drB s h = true) : poN s h < drN s := by
  refine cntN_lt (k := h) (Nat.zero_le _) (by omega) hd ?_ (fun j _ h2 h3 => ?_)
  · refine Bool.eq_false_iff.mpr (fun q => ?_)
    have := ahB_iff.mp q
    omega
  · exact drB_iff.mpr (ahB_iff.mp h3).1
theorem drN_le {s : Row} : drN s ≤ nh s := cntN_le
theorem rk_ex {s : Row} (hI : Inv s) {r : Nat} (hr : r < drN s) : ∃ h, h < nh s ∧ drB s h = true ∧ poN s h = r := cnt_surj (fun h hh hd => poN_drN hh hd) (fun a b ha hb da db e => poN_inj hI ha hb da db e) hr
theorem atO_of {s : Row} (hI : Inv s) {h : Nat} (hh : h < nh s) (hd : drB s h = true) : atO s (nI (poN s h)) = some h := by
  refine fstO_of (Nat.zero_le _) (by omega) ?_ (fun j _ h2 => ?_)
  · rw [hd, decide_eq_true rfl]
    rfl
  · refine Bool.eq_false_iff.mpr (fun q => ?_)
    rw [Bool.and_eq_true] at q
    have q2 := of_decide_eq_true q.2
    have p1 := poN_lt12 hI (h := j)
    have p2 := poN_lt12 hI (h := h)
    have := poN_inj hI (by omega) hh q.1 hd (nI_inj (by omega) (by omega) q2)
    omega
theorem atO_ex {s : Row} (hI : Inv s) {r : Nat} (hr : r < drN s) : ∃ h, h < nh s ∧ drB s h = true ∧ poN s h = r ∧ atO s (nI r) = some h := by
  obtain ⟨h, h1, h2, h3⟩ := rk_ex hI hr
  refine ⟨h, h1, h2, h3, ?_⟩
  rw [← h3]
  exact atO_of hI h1 h2
theorem atO_none {s : Row} (hI : Inv s) {a : Int32} (h0 : 0 ≤ a) (ha : ¬ a < nI (drN s)) : atO s a = none := by
  have b1 := hI.h1l
  have b2 := drN_le (s := s)
  refine fstO_none.mpr (fun j _ h2 => Bool.eq_false_iff.mpr (fun q => ?_))
  rw [Bool.and_eq_true] at q
  have q2 := of_decide_eq_true q.2
  have := poN_drN (show j < nh s by omega) q.1
  apply ha
  rw [← q2]
  exact (nIlt (by omega) (by omega)).mpr this
/-! lining up -/
theorem k_lineUp_l {st : Nat} {s : Row} (hI : Inv s) : ∀ (d i n a : Nat) (M : Mem), RS M st s → i + d = nh s → d < n → (∀ h, h < i → drB s h = true → M (st + 3) (poN s h) = nI h) → ∃ M', l_X6_lineUp_4 st n (nI a) (nI i) M = some (nI (a + cntN (drB s) i d), M') ∧ (∀ c, c ≠ st + 3 → M' c = M c) ∧ ∀ h, h < nh s → drB s h = true → M' (st + 3) (poN s h) = nI h := by
  have b1 := hI.h1l
  intro d
  induction d with
  | zero =>
    intro i n a M R hi hn ho
    obtain ⟨n, rfl⟩ : ∃ z, n = z + 1 := ⟨n - 1, by omega⟩
    refine ⟨M, ?_, fun _ _ => rfl, fun h hh hd => ho h (by omega) hd⟩
    rw [l_X6_lineUp_4_s, R.n1, hI.h1, if_pos ((nIle (by omega) (by omega)).mpr (by omega))]
    rfl
  | succ d ih =>
    intro i n a M R hi hn ho
    obtain ⟨n, rfl⟩ : ∃ z, n = z + 1 := ⟨n - 1, by omega⟩
    rw [l_X6_lineUp_4_s, R.n1, hI.h1, if_neg (fun q => absurd ((nIle (by omega) (by omega)).mp q) (by omega)), ck_t (inbN (by omega) (by omega)), nN (by omega), k_placeIn R hI (by omega), bd_s, show (nI i : Int32) + 1 = nI (i + 1) from nI_1 i, show (nI a : Int32) + 1 = nI (a + 1) from nI_1 a]
    cases c : drB s i with
    | false =>
      rw [if_neg Bool.false_ne_true, if_pos (by decide), cntN_f c]
      exact ih (i + 1) n a M R (by omega) (by omega) (fun h h1 h2 => by
        by_cases e : h = i
        · subst e
          rw [c] at h2
          cases h2
        · exact ho h (by omega) h2)
    | true =>
      have hp := poN_drN (show i < nh s by omega) c
      have hp2 := drN_le (s := s)
      rw [if_pos rfl, if_neg (nI_pos (by omega)), if_neg (n12 (by omega)), ck_t (inbN (by omega) (by omega)), nN (by omega), cntN_t c]
      unfold lt_
      obtain ⟨M', e1, e2, e3⟩ := ih (i + 1) n (a + 1) (up M (st + 3) (poN s i) (nI i)) (R.co hI (fun j _ _ hj => up_ne hj)) (by omega) (by omega) (fun h h1 h2 => by
        by_cases e : h = i
        · subst e
          exact up_same
        · rw [up_other (fun q => e (poN_inj hI (by omega) (by omega) h2 c q.2))]
          exact ho h (by omega) h2)
      refine ⟨M', ?_, fun c hc => ?_, e3⟩
      · rw [← Nat.add_assoc]
        exact e1
      · rw [e2 c hc, up_ne hc]
theorem k_lineUp {M : Mem} {st : Nat} {s : Row} (R : RS M st s) (hI : Inv s) : ∃ M', f_X6_lineUp st M = some (nI (drN s), M') ∧ (∀ c, c ≠ st + 3 → M' c = M c) ∧ ∀ r, r < drN s → ∃ h, h < nh s ∧ drB s h = true ∧ poN s h = r ∧ atO s (nI r) = some h ∧ M' (st + 3) r = nI h := by
  have b1 := hI.h1l
  obtain ⟨M', e1, e2, e3⟩ := k_lineUp_l hI (nh s) 0 LF 0 M R (by omega) (by unfold LF; omega) (fun h h1 => absurd h1 (Nat.not_lt_zero _))
  refine ⟨M', ?_, e2, fun r hr => ?_⟩
  · rw [Nat.zero_add] at e1
    exact e1
  · obtain ⟨h, h1, h2, h3, h4⟩ := atO_ex hI hr
    refine ⟨h, h1, h2, h3, h4, ?_⟩
    rw [← h3]
    exact e3 h h1 h2
/-! what a household would get -/
def wgL (s : Row) (a1 a2 : Int32) : Nat → Nat → Int32 → Int32
  | 0, _, _ => -5
  | d + 1, i, tk => if oI (atO s (nI i)) = a2 then wgL s a1 a2 d (i + 1) tk else match atO s (nI i) with
    | none => -5
    | some h => if nI h = a1 then foI s h tk else if foI s h tk = -5 then wgL s a1 a2 d (i + 1) tk else wgL s a1 a2 d (i + 1) (tk ||| ((1 : Int32) <<< (foI s h tk &&& 31)))
theorem wgL_self {s : Row} {a : Int32} : ∀ {d i : Nat} {tk : Int32}, wgL s a a d i tk = -5 := by
  intro d
  induction d with
  | zero => intro i tk; rfl
  | succ d ih =>
    intro i tk
    unfold wgL
    by_cases c : oI (atO s (nI i)) = a
    · rw [if_pos c]
      exact ih
    · rw [if_neg c]
      cases hq : atO s (nI i) with
      | none => rfl
      | some h =>
        rw [hq] at c
        show (if nI h = a then _ else _) = _
        rw [if_neg (show ¬ nI h = a from c)]
        split
        · exact ih
        · exact ih
theorem k_would_l {st : Nat} {s : Row} {M : Mem} (R : RS M st s) (hI : Inv s) (ho : ∀ r, r < drN s → ∃ h, h < nh s ∧ drB s h = true ∧ poN s h = r ∧ atO s (nI r) = some h ∧ M (st + 3) r = nI h) (a1 a2 : Int32) : ∀ (d i n : Nat) (tk : Int32), i + d = drN s → d < n → l_X6_flatIfAllWereFree_11 st a1 a2 (nI (drN s)) n tk (nI i) M = some (wgL s a1 a2 d i tk, M) := by
  have b1 := hI.h1l
  have b2 := drN_le (s := s)
  intro d
  induction d with
  | zero =>
    intro i n tk hi hn
    obtain ⟨n, rfl⟩ : ∃ z, n = z + 1 := ⟨n - 1, by omega⟩
    rw [l_X6_flatIfAllWereFree_11_s, if_pos ((nIle (by omega) (by omega)).mpr (by omega))]
    rfl
  | succ d ih =>
    intro i n tk hi hn
    obtain ⟨n, rfl⟩ : ∃ z, n = z + 1 := ⟨n - 1, by omega⟩
    obtain ⟨h, h1, h2, h3, h4, h5⟩ := ho i (by omega)
    rw [l_X6_flatIfAllWereFree_11_s, if_neg (fun q => absurd ((nIle (by omega) (by omega)).mp q) (by omega)), ck_t (inbN (by omega) (by omega)), nN (show i < 2147483648 by omega), h5, show (nI i : Int32) + 1 = nI (i + 1) from nI_1 i]
    unfold wgL
    rw [h4]
    show _ = some (if nI h = a2 then _ else if nI h = a1 then _ else _, M)
    by_cases c : nI h = a2
    · rw [if_pos c, if_pos c]
      exact ih (i + 1) n tk (by omega) (by omega)
    · rw [if_neg c, if_neg c, ck_t (inbN (by omega) (by omega)), nN (show h < 2147483648 by omega), k_firstWish R hI h1, bd_s]
      by_cases c2 : nI h = a1
      · rw [if_pos c2, if_pos c2]
      · rw [if_neg c2, if_neg c2]
        by_cases c3 : foI s h tk = -5
        · rw [if_pos c3, if_pos c3]
          exact ih (i + 1) n tk (by omega) (by omega)
        · rw [if_neg c3, if_neg c3]
          exact ih (i + 1) n _ (by omega) (by omega)
theorem k_would {st : Nat} {s : Row} {M : Mem} (R : RS M st s) (hI : Inv s) (a1 a2 : Int32) : ∃ M', f_X6_flatIfAllWereFree st a1 a2 M = some (wgL s a1 a2 (drN s) 0 0, M') ∧ ∀ c, c ≠ st + 3 → M' c = M c := by
  have b1 := hI.h1l
  have b2 := drN_le (s := s)
  obtain ⟨M', e1, e2, e3⟩ := k_lineUp R hI
  refine ⟨M', ?_, e2⟩
  unfold f_X6_flatIfAllWereFree
  rw [e1, bd_s]
  exact k_would_l (R.co hI (fun j _ _ hj => e2 j hj)) hI e3 a1 a2 (drN s) 0 LF 0 (by omega) (by unfold LF; omega)
