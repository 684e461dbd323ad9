theorem most63_l {gd : Int32} {S : Nat} (hS : S < 4096) (K : Mem → Option (Int32 × Mem)) : ∀ (d i n : Nat) (M : Mem), i + d = 12 → d < n → ∃ M', l_X8_most_63 gd (nI S) K n (nI i) M = K M' ∧ (∀ T, (¬ M 263 S = 0 ∧ ∃ f, i ≤ f ∧ f < 12 ∧ bt gd f = true ∧ S.testBit f = false ∧ T = S ||| 2 ^ f) → M' 263 T = 1) ∧ (∀ T, ¬ (¬ M 263 S = 0 ∧ ∃ f, i ≤ f ∧ f < 12 ∧ bt gd f = true ∧ S.testBit f = false ∧ T = S ||| 2 ^ f) → M' 263 T = M 263 T) ∧ ∀ q, q ≠ 263 → M' q = M q := by
  intro d
  induction d with
  | zero =>
    intro i n M hi hn
    obtain ⟨n, rfl⟩ : ∃ z, n = z + 1 := ⟨n - 1, by omega⟩
    refine ⟨M, ?_, fun T h => ?_, fun _ _ => rfl, fun _ _ => rfl⟩
    · rw [l_X8_most_63_s, if_pos (show (12 : Int32) ≤ nI i by rw [show i = 12 by omega]; decide)]
    · obtain ⟨-, f, h1, h2, -⟩ := h
      omega
  | succ d ih =>
    intro i n M hi hn
    obtain ⟨n, rfl⟩ : ∃ z, n = z + 1 := ⟨n - 1, by omega⟩
    rw [l_X8_most_63_s, if_neg (n12 (by omega)), ck_t (inbN hS (by omega)), nN (show S < 2147483648 by omega)]
    by_cases c0 : M 263 S = 0
    · rw [if_pos c0]
      exact ⟨M, rfl, fun T h => absurd c0 h.1, fun _ _ => rfl, fun _ _ => rfl⟩
    · have cond : (gd &&& (nI S ^^^ -1)) &&& ((1 : Int32) <<< (nI i &&& 31)) = 0 ↔ ¬ (bt gd i = true ∧ S.testBit i = false) := by
        rw [bt_m (by omega), bt_and, bt_not (by omega), bt_nI (by omega)]
        cases bt gd i <;> cases S.testBit i <;> simp
      rw [if_neg c0, nI_or (by omega), show (nI i : Int32) + 1 = nI (i + 1) from nI_1 i]
      by_cases c : bt gd i = true ∧ S.testBit i = false
      · have hlt := or_lt hS (show i < 12 by omega)
        have hgt := or_gt c.2
        rw [if_neg (fun q => cond.mp q c), ck_t (inbN hlt (by omega)), nN (by omega), lt_e]
        obtain ⟨M', e1, e2, e3, e4⟩ := ih (i + 1) n (up M 263 (S ||| 2 ^ i) (vp_nar .boolean 1)) (by omega) (by omega)
        have hSS : up M 263 (S ||| 2 ^ i) (vp_nar .boolean 1) 263 S = M 263 S := up_other (by omega)
        rw [hSS] at e2 e3
        refine ⟨M', e1, fun T h => ?_, fun T h => ?_, fun q hq => by rw [e4 q hq, up_ne hq]⟩
        · by_cases hT : ¬ M 263 S = 0 ∧ ∃ f, i + 1 ≤ f ∧ f < 12 ∧ bt gd f = true ∧ S.testBit f = false ∧ T = S ||| 2 ^ f
          · exact e2 T hT
          · rw [e3 T hT]
            obtain ⟨-, f, h1, h2, h3, h4, h5⟩ := h
            by_cases e : f = i
            · subst e
              rw [h5, up_same]
              rfl
            · exact absurd ⟨c0, f, by omega, h2, h3, h4, h5⟩ hT
        · rw [e3 T (fun hT => h ⟨hT.1, by
            obtain ⟨f, h1, h2⟩ := hT.2
            exact ⟨f, by omega, h2⟩⟩), up_other (fun q => h ⟨c0, i, Nat.le_refl _, by omega, c.1, c.2, q.2⟩)]
      · rw [if_pos (cond.mpr c)]
        obtain ⟨M', e1, e2, e3, e4⟩ := ih (i + 1) n M (by omega) (by omega)
        refine ⟨M', e1, fun T h => ?_, fun T h => ?_, e4⟩
        · obtain ⟨h0, f, h1, h2, h3, h4, h5⟩ := h
          by_cases e : f = i
          · subst e
            exact absurd ⟨h3, h4⟩ c
          · exact e2 T ⟨h0, f, by omega, h2, h3, h4, h5⟩
        · exact e3 T (fun hT => h ⟨hT.1, by
            obtain ⟨f, h1, h2⟩ := hT.2
            exact ⟨f, by omega, h2⟩⟩)
