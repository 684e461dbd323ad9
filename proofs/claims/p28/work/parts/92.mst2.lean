/-- who waits now has asked for all that it can have -/
def DoneM (A : Nat → Nat → Prop) (M : Mem) (q : Nat → Nat) (t : Nat) : Prop := ∀ i, i < t → ∀ f, A (q i) f → ¬ M 253 f = -5
def FrM (M M' : Mem) : Prop := ∀ c, c < 251 ∨ 254 < c → M' c = M c
theorem FrM.rs {M M' : Mem} {s : Row} (h : FrM M M') (hI : Inv s) (R : RS M 1 s) : RS M' 1 s := R.co hI (fun i _ _ _ => h i (by omega))
theorem house_l {s : Row} (hI : Inv s) {m : Nat} (hm : m < nh s) {K : Nat → Option Nat} (hK : Mat (gdB s) m K) {t : Nat} (k : Int32 → Mem → Option (Int32 × Mem)) : ∀ (d p n w : Nat) (q : Nat → Nat) (M : Mem), p + d = fP s (q t) 7 → d < n → t < w → BF (gdB s) K m M w q → KM M K → RS M 1 s → DoneM (gdB s) M q t → (∀ p', p' < p → elB s (q t) (li s (q t) p') = true → ¬ M 253 (li s (q t) p') = -5) → (∃ M' K', l_X4_canHouse_61 1 (nI (q t)) (1 + 16 + 2 * q t) k n (nI w) (nI p) M = some (1, M') ∧ KM M' K' ∧ Mat (gdB s) (m + 1) K' ∧ (∀ h, (K' h).isSome = (decide (h = m) || (K h).isSome)) ∧ FrM M M') ∨ ∃ M' w' q', l_X4_canHouse_61 1 (nI (q t)) (1 + 16 + 2 * q t) k n (nI w) (nI p) M = k (nI w') M' ∧ w ≤ w' ∧ BF (gdB s) K m M' w' q' ∧ KM M' K ∧ DoneM (gdB s) M' q' (t + 1) ∧ FrM M M' := by
  have b0 := hI.h0l
  have b1 := hI.h1l
  have hKm : K m = none := by
    cases c : K m with
    | none => rfl
    | some f =>
      have := (hK.1 m f c).1
      omega
  intro d
  induction d with
  | zero =>
    intro p n w q M hp hn htw B hM R D E
    obtain ⟨n, rfl⟩ : ∃ z, n = z + 1 := ⟨n - 1, by omega⟩
    have hqt := B.le htw
    have hq : q t < nh s := by omega
    obtain ⟨⟨l1, l2⟩, l3, -⟩ := hI.ls hq
    refine Or.inr ⟨M, w, q, ?_, Nat.le_refl _, B, hM, fun i hi f hA => ?_, fun _ _ => rfl⟩
    · rw [l_X4_canHouse_61_s, R.wc hq, l1, if_pos ((nIle (by omega) (by omega)).mpr (by omega))]
    · by_cases e : i = t
      · subst e
        obtain ⟨-, j, j1, j2, j3⟩ := hA
        have := E j (by omega) (by rw [j2]; exact j3)
        rw [j2] at this
        exact this
      · exact D i (by omega) f hA
  | succ d ih =>
    intro p n w q M hp hn htw B hM R D E
    obtain ⟨n, rfl⟩ : ∃ z, n = z + 1 := ⟨n - 1, by omega⟩
    have hqt := B.le htw
    have hq : q t < nh s := by omega
    obtain ⟨⟨l1, l2⟩, l3, -⟩ := hI.ls hq
    obtain ⟨l4, l5⟩ := l3 p (by omega)
    obtain ⟨f, hfe⟩ : ∃ f, li s (q t) p = f := ⟨_, rfl⟩
    rw [hfe] at l4 l5
    have hf12 : f < 12 := by omega
    rw [l_X4_canHouse_61_s, R.wc hq, l1, if_neg (fun z => absurd ((nIle (by omega) (by omega)).mp z) (by omega)), ck_t (inbN (by omega) (by omega)), nN (show p < 2147483648 by omega), R.wi hq (by omega), l4, k_isEligible R hI hq l5, bd_s, show (nI p : Int32) + 1 = nI (p + 1) from nI_1 p]
    by_cases c : elB s (q t) f = true
    · have hA : gdB s (q t) f := ⟨hq, p, by omega, hfe, c⟩
      rw [if_neg (show ¬ bI (elB s (q t) f) = 0 by rw [c]; exact bIne), ck_t (inbN hf12 (by omega)), nN (show f < 2147483648 by omega)]
      by_cases c5 : M 253 f = -5
      · rw [if_pos c5, ck_t (inbN hf12 (by omega)), lt_e, ck_t (inbN hf12 (by omega)), up_ne (show (252 : Nat) ≠ 253 by omega)]
        rcases hM.2 f hf12 with ⟨t1, t2⟩ | ⟨o, t1, t2, t3⟩
        · rw [if_pos t1]
          refine Or.inl ?_
          have hw12 := B.w
          obtain ⟨M', K', r1, r2, r3, r4, r5⟩ := handOn_l (A := gdB s) (m := m) (t := t) (q := q) (K := K) (W := up M 253 f (nI (q t)) 253) (by omega) B.1.1 hKm (fun j hj => B.le (by omega)) (fun i j hi hj e => B.2.1 i j (by omega) (by omega) e) (fun j j1 j2 => by
            obtain ⟨a1, g, i, g1, g2, g3, g4, g5⟩ := B.2.2.1 j j1 (by omega)
            refine ⟨g, i, g1, g2, g3, ?_, g5⟩
            by_cases e : g = f
            · rw [e] at g2
              exact absurd g2 (t2 _)
            · rw [up_other (by omega)]
              exact g4) t t 0 LF f K (up M 253 f (nI (q t))) (Nat.le_refl _) (Nat.le_refl _) (by omega) (by unfold LF; omega) hf12 up_same hA (fun h hh => by rw [up_ne (by omega)]; exact hM.1 h hh) (fun g hg _ => by
            unfold tbM
            rw [up_ne (by omega)]
            exact hM.2 g hg) t2 ⟨fun h g z => ⟨by have := (hK.1 h g z).1; omega, (hK.1 h g z).2⟩, hK.2⟩ (fun _ _ => rfl) rfl
          refine ⟨M', K', ?_, r2, r3, r4, fun c hc => by rw [r5 c (by omega) (by omega), up_ne (by omega)]⟩
          have r1' : f_X4_handOn (nI f) (up M 253 f (nI (q t))) = some (0, M') := r1
          rw [r1', bd_s]
        · have hpsh := BF_push B (by omega) (by omega) hK htw hf12 hA c5 t3
          have hw12 := hpsh.w
          rw [if_neg (show ¬ M 252 f = -5 by rw [t2]; exact nIne5 (by omega)), if_neg (n12 (show w < 12 by omega)), ck_t (inbN hf12 (by omega)), ck_t (inbN (show w < 12 by omega) (by omega)), nN (show w < 2147483648 by omega), lt_e, t2, show (nI w : Int32) + 1 = nI (w + 1) from nI_1 w]
          have fr : FrM M (up (up M 253 f (nI (q t))) 254 w (nI o)) := fun c hc => by rw [up_ne (by omega), up_ne (by omega)]
          have qt' : psQ q w o t = q t := psQ_n (by omega)
          have m253 : ∀ g, ¬ M 253 g = -5 → ¬ up (up M 253 f (nI (q t))) 254 w (nI o) 253 g = -5 := fun g hg => by
            rw [up_ne (by omega)]
            by_cases e : g = f
            · rw [e, up_same]
              exact nIne5 (by omega)
            · rw [up_other (by omega)]
              exact hg
          have h := ih (p + 1) n (w + 1) (psQ q w o) (up (up M 253 f (nI (q t))) 254 w (nI o)) (by rw [qt']; omega) (by omega) (by omega) hpsh ⟨fun h hh => by rw [up_ne (by omega), up_ne (by omega)]; exact hM.1 h hh, fun g hg => by
            unfold tbM
            rw [up_ne (by omega), up_ne (by omega)]
            exact hM.2 g hg⟩ (fr.rs hI R) (fun i hi g hg => by
            rw [psQ_n (by omega)] at hg
            exact m253 g (D i hi g hg)) (fun p' hp' he => by
            rw [qt'] at he ⊢
            by_cases e : p' = p
            · rw [e, hfe, up_ne (by omega), up_same]
              exact nIne5 (by omega)
            · exact m253 _ (E p' (by omega) he))
          rw [qt'] at h
          rcases h with ⟨M', K', r1, r2, r3, r4, r5⟩ | ⟨M', w', q', r1, r2, r3, r4, r5, r6⟩
          · exact Or.inl ⟨M', K', r1, r2, r3, r4, fun c hc => (r5 c hc).trans (fr c hc)⟩
          · exact Or.inr ⟨M', w', q', r1, by omega, r3, r4, r5, fun c hc => (r6 c hc).trans (fr c hc)⟩
      · rw [if_neg c5]
        exact ih (p + 1) n w q M (by omega) (by omega) htw B hM R D (fun p' hp' he => by
          by_cases e : p' = p
          · rw [e, hfe]
            exact c5
          · exact E p' (by omega) he)
    · rw [if_pos (bIf c)]
      exact ih (p + 1) n w q M (by omega) (by omega) htw B hM R D (fun p' hp' he => by
        by_cases e : p' = p
        · rw [e, hfe] at he
          exact absurd he c
        · exact E p' (by omega) he)
theorem search_l {s : Row} (hI : Inv s) {m : Nat} (hm : m < nh s) {K : Nat → Option Nat} (hK : Mat (gdB s) m K) : ∀ (d t n w : Nat) (q : Nat → Nat) (M : Mem), t + d = 12 → d < n → t ≤ w → 1 ≤ w → BF (gdB s) K m M w q → KM M K → RS M 1 s → DoneM (gdB s) M q t → (∃ M' K', l_X4_canHouse_34 1 n (nI w) (nI t) M = some (1, M') ∧ KM M' K' ∧ Mat (gdB s) (m + 1) K' ∧ (∀ h, (K' h).isSome = (decide (h = m) || (K h).isSome)) ∧ FrM M M') ∨ ∃ M' w' q', l_X4_canHouse_34 1 n (nI w) (nI t) M = some (0, M') ∧ 1 ≤ w' ∧ BF (gdB s) K m M' w' q' ∧ KM M' K ∧ DoneM (gdB s) M' q' w' ∧ FrM M M' := by
  have b1 := hI.h1l
  have stop : ∀ (t n w : Nat) (q : Nat → Nat) (M : Mem), w ≤ t → t ≤ w → t ≤ 12 → 1 ≤ w → BF (gdB s) K m M w q → KM M K → DoneM (gdB s) M q t → ∃ M' w' q', l_X4_canHouse_34 1 (n + 1) (nI w) (nI t) M = some (0, M') ∧ 1 ≤ w' ∧ BF (gdB s) K m M' w' q' ∧ KM M' K ∧ DoneM (gdB s) M' q' w' ∧ FrM M M' := fun t n w q M h1 h2 h3 h4 B hM D => by
    have e : t = w := by omega
    subst e
    exact ⟨M, t, q, by rw [l_X4_canHouse_34_s, if_pos ((nIle (by omega) (by omega)).mpr (by omega))], h4, B, hM, D, fun _ _ => rfl⟩
  intro d
  induction d with
  | zero =>
    intro t n w q M ht hn htw hw B hM R D
    obtain ⟨n, rfl⟩ : ∃ z, n = z + 1 := ⟨n - 1, by omega⟩
    have := B.w
    exact Or.inr (stop t n w q M (by omega) htw (by omega) hw B hM D)
  | succ d ih =>
    intro t n w q M ht hn htw hw B hM R D
    obtain ⟨n, rfl⟩ : ∃ z, n = z + 1 := ⟨n - 1, by omega⟩
    by_cases c : w ≤ t
    · exact Or.inr (stop t n w q M c htw (by omega) hw B hM D)
    · have hqt := B.le (show t < w by omega)
      have hw12 := B.w
      rw [l_X4_canHouse_34_s, if_neg (fun z => c ((nIle (by omega) (by omega)).mp z)), ck_t (inbN (by omega) (by omega)), nN (show t < 2147483648 by omega), B.1.2 t (by omega), ck_t (inbN (by omega) (by omega)), nN (show q t < 2147483648 by omega), show (nI t : Int32) + 1 = nI (t + 1) from nI_1 t]
      have h := house_l hI hm hK (t := t) (fun (b3_61 : Int32) (M30 : Mem) => l_X4_canHouse_34 1 n b3_61 (nI (t + 1)) M30) (fP s (q t) 7) 0 LF w q M (by omega) (by have := (hI.ls (show q t < nh s by omega)).1.2; unfold LF; omega) (by omega) B hM R D (fun p' hp' => absurd hp' (Nat.not_lt_zero _))
      rcases h with ⟨M', K', r1, r2⟩ | ⟨M', w', q', r1, r2, r3, r4, r5, r6⟩
      · exact Or.inl ⟨M', K', r1, r2⟩
      · have h2 := ih (t + 1) n w' q' M' (by omega) (by omega) (by omega) (by omega) r3 r4 (r6.rs hI R) r5
        rcases h2 with ⟨M2, K2, x1, x2, x3, x4, x5⟩ | ⟨M2, w2, q2, x1, x2, x3, x4, x5, x6⟩
        · exact Or.inl ⟨M2, K2, r1.trans x1, x2, x3, x4, fun c hc => (x5 c hc).trans (r6 c hc)⟩
        · exact Or.inr ⟨M2, w2, q2, r1.trans x1, x2, x3, x4, x5, fun c hc => (x6 c hc).trans (r6 c hc)⟩
