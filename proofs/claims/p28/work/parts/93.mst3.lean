theorem ask0_l (K : Mem → Option (Int32 × Mem)) : ∀ (d i n : Nat) (M : Mem), i + d = 12 → d < n → ∃ M', l_X4_canHouse_2 K n (nI i) M = K M' ∧ (∀ f, i ≤ f → f < 12 → M' 253 f = -5) ∧ (∀ f, f < i → M' 253 f = M 253 f) ∧ ∀ c, c ≠ 253 → M' c = M c := by
  intro d
  induction d with
  | zero =>
    intro i n M hi hn
    obtain ⟨n, rfl⟩ : ∃ z, n = z + 1 := ⟨n - 1, by omega⟩
    refine ⟨M, ?_, fun f h1 h2 => by omega, fun _ _ => rfl, fun _ _ => rfl⟩
    rw [l_X4_canHouse_2_s, if_pos (show (12 : Int32) ≤ nI i by rw [show i = 12 by omega]; decide)]
  | succ d ih =>
    intro i n M hi hn
    obtain ⟨n, rfl⟩ : ∃ z, n = z + 1 := ⟨n - 1, by omega⟩
    obtain ⟨M', e1, e2, e3, e4⟩ := ih (i + 1) n (up M 253 i (-5)) (by omega) (by omega)
    refine ⟨M', ?_, fun f h1 h2 => ?_, fun f h1 => ?_, fun c hc => by rw [e4 c hc, up_ne hc]⟩
    · rw [l_X4_canHouse_2_s, if_neg (n12 (by omega)), ck_t (inbN (show i < 12 by omega) (by omega)), nN (by omega), lt_e, show (nI i : Int32) + 1 = nI (i + 1) from nI_1 i]
      exact e1
    · by_cases e : f = i
      · rw [e, e3 i (by omega), up_same]
      · exact e2 f (by omega) h2
    · rw [e3 f (by omega), up_other (by omega)]
theorem flat0_l (K : Mem → Option (Int32 × Mem)) : ∀ (d i n : Nat) (M : Mem), i + d = 12 → d < n → ∃ M', l_X4_greatest_2 K n (nI i) M = K M' ∧ (∀ f, i ≤ f → f < 12 → M' 251 f = -5) ∧ (∀ f, f < i → M' 251 f = M 251 f) ∧ ∀ c, c ≠ 251 → M' c = M c := by
  intro d
  induction d with
  | zero =>
    intro i n M hi hn
    obtain ⟨n, rfl⟩ : ∃ z, n = z + 1 := ⟨n - 1, by omega⟩
    refine ⟨M, ?_, fun f h1 h2 => by omega, fun _ _ => rfl, fun _ _ => rfl⟩
    rw [l_X4_greatest_2_s, if_pos (show (12 : Int32) ≤ nI i by rw [show i = 12 by omega]; decide)]
  | succ d ih =>
    intro i n M hi hn
    obtain ⟨n, rfl⟩ : ∃ z, n = z + 1 := ⟨n - 1, by omega⟩
    obtain ⟨M', e1, e2, e3, e4⟩ := ih (i + 1) n (up M 251 i (-5)) (by omega) (by omega)
    refine ⟨M', ?_, fun f h1 h2 => ?_, fun f h1 => ?_, fun c hc => by rw [e4 c hc, up_ne hc]⟩
    · rw [l_X4_greatest_2_s, if_neg (n12 (by omega)), ck_t (inbN (show i < 12 by omega) (by omega)), nN (by omega), lt_e, show (nI i : Int32) + 1 = nI (i + 1) from nI_1 i]
      exact e1
    · by_cases e : f = i
      · rw [e, e3 i (by omega), up_same]
      · exact e2 f (by omega) h2
    · rw [e3 f (by omega), up_other (by omega)]
theorem take0_l (K : Mem → Option (Int32 × Mem)) : ∀ (d i n : Nat) (M : Mem), i + d = 12 → d < n → ∃ M', l_X4_greatest_24 K n (nI i) M = K M' ∧ (∀ f, i ≤ f → f < 12 → M' 252 f = -5) ∧ (∀ f, f < i → M' 252 f = M 252 f) ∧ ∀ c, c ≠ 252 → M' c = M c := by
  intro d
  induction d with
  | zero =>
    intro i n M hi hn
    obtain ⟨n, rfl⟩ : ∃ z, n = z + 1 := ⟨n - 1, by omega⟩
    refine ⟨M, ?_, fun f h1 h2 => by omega, fun _ _ => rfl, fun _ _ => rfl⟩
    rw [l_X4_greatest_24_s, if_pos (show (12 : Int32) ≤ nI i by rw [show i = 12 by omega]; decide)]
  | succ d ih =>
    intro i n M hi hn
    obtain ⟨n, rfl⟩ : ∃ z, n = z + 1 := ⟨n - 1, by omega⟩
    obtain ⟨M', e1, e2, e3, e4⟩ := ih (i + 1) n (up M 252 i (-5)) (by omega) (by omega)
    refine ⟨M', ?_, fun f h1 h2 => ?_, fun f h1 => ?_, fun c hc => by rw [e4 c hc, up_ne hc]⟩
    · rw [l_X4_greatest_24_s, if_neg (n12 (by omega)), ck_t (inbN (show i < 12 by omega) (by omega)), nN (by omega), lt_e, show (nI i : Int32) + 1 = nI (i + 1) from nI_1 i]
      exact e1
    · by_cases e : f = i
      · rw [e, e3 i (by omega), up_same]
      · exact e2 f (by omega) h2
    · rw [e3 f (by omega), up_other (by omega)]
theorem msz_up {K K' : Nat → Option Nat} {m : Nat} (h : ∀ h, (K' h).isSome = (decide (h = m) || (K h).isSome)) : msz K' (m + 1) = msz K m + 1 := by
  unfold msz
  rw [cntN_last, h m, decide_eq_true rfl, Bool.true_or, if_pos rfl]
  rw [cntN_congr (q := fun h => (K h).isSome) (fun j _ hj => by
    show (K' j).isSome = (K j).isSome
    rw [h j, decide_eq_false (by omega), Bool.false_or])]
theorem k_canHouse {s : Row} (hI : Inv s) {m : Nat} (hm : m < nh s) {K : Nat → Option Nat} (hK : Mat (gdB s) m K) {M : Mem} (hM : KM M K) (R : RS M 1 s) : ∃ M' K' b, f_X4_canHouse (nI m) 1 M = some (bI b, M') ∧ KM M' K' ∧ Mat (gdB s) (m + 1) K' ∧ msz K' (m + 1) = msz K m + (if b = true then 1 else 0) ∧ (b = false → ∀ N, Mat (gdB s) (m + 1) N → ∃ N', Mat (gdB s) m N' ∧ msz N (m + 1) ≤ msz N' m) ∧ FrM M M' := by
  have b1 := hI.h1l
  have hKm : K m = none := by
    cases c : K m with
    | none => rfl
    | some f =>
      have := (hK.1 m f c).1
      omega
  unfold f_X4_canHouse
  obtain ⟨M1, e1, e2, -, e4⟩ := ask0_l (fun (M4 : Mem) => lt_ (up M4 254 0 (nI m)) (fun M5 => l_X4_canHouse_34 1 LF (1 : Int32) (0 : Int32) M5)) 12 0 LF M (by omega) (by unfold LF; omega)
  replace e1 := e1.trans (lt_e (M := up M1 254 0 (nI m)) (k := fun M5 => l_X4_canHouse_34 1 LF (1 : Int32) (0 : Int32) M5))
  have fr : FrM M (up M1 254 0 (nI m)) := fun c hc => by rw [up_ne (by omega), e4 c (by omega)]
  have hB : BF (gdB s) K m (up M1 254 0 (nI m)) 1 (fun _ => m) := by
    refine ⟨⟨rfl, fun j hj => ?_⟩, fun i j hi hj _ => by omega, fun j h1 h2 => by omega, fun f hf => Or.inl ?_⟩
    · rw [show j = 0 by omega, up_same]
    · rw [up_ne (by omega)]
      exact e2 f (Nat.zero_le _) hf
  have hM2 : KM (up M1 254 0 (nI m)) K := by
    refine ⟨fun h hh => ?_, fun f hf => ?_⟩
    · rw [up_ne (by omega), e4 251 (by omega)]
      exact hM.1 h hh
    · unfold tbM
      rw [up_ne (by omega), e4 252 (by omega)]
      exact hM.2 f hf
  have h := search_l hI hm hK 12 0 LF 1 (fun _ => m) (up M1 254 0 (nI m)) (by omega) (by unfold LF; omega) (by omega) (by omega) hB hM2 (fr.rs hI R) (fun i hi => absurd hi (Nat.not_lt_zero _))
  rcases h with ⟨M', K', r1, r2, r3, r4, r5⟩ | ⟨M', w', q', r1, r2, r3, r4, r5, r6⟩
  · exact ⟨M', K', true, e1.trans r1, r2, r3, by rw [if_pos rfl]; exact msz_up r4, fun z => (by cases z), fun c hc => (r5 c hc).trans (fr c hc)⟩
  · refine ⟨M', K, false, e1.trans r1, r4, ⟨fun h f z => ⟨by have := (hK.1 h f z).1; omega, (hK.1 h f z).2⟩, hK.2⟩, ?_, fun _ N hN => ?_, fun c hc => (r6 c hc).trans (fr c hc)⟩
    · unfold msz
      rw [cntN_last, hKm, if_neg (by decide), if_neg (by decide)]
    · have hQ : ∀ h, anyB (fun j => decide (q' j = h)) 0 w' = true ↔ ∃ j, j < w' ∧ q' j = h := fun h => by
        rw [anyB_iff]
        constructor
        · rintro ⟨j, -, j2, j3⟩
          exact ⟨j, by omega, of_decide_eq_true j3⟩
        · rintro ⟨j, j2, j3⟩
          exact ⟨j, Nat.zero_le _, by omega, decide_eq_true j3⟩
      refine ⟨swN N K (fun h => anyB (fun j => decide (q' j = h)) 0 w') m, swN_mat hN hK, swN_size hN hK ((hQ m).mpr ⟨0, by omega, r3.1.1⟩) (fun h hh hq => ?_) (fun h f hh hq hA => ?_)⟩
      · obtain ⟨j, j1, j2⟩ := (hQ h).mp hq
        by_cases z : j = 0
        · rw [z, r3.1.1] at j2
          omega
        · obtain ⟨-, g, i, -, g2, -⟩ := r3.2.2.1 j (by omega) j1
          rw [← j2, g2]
          rfl
      · obtain ⟨j, j1, j2⟩ := (hQ h).mp hq
        have h5 := r5 j j1 f (by rw [j2]; exact hA)
        rcases r3.2.2.2 f (gdB12 hI h f hA) with z | ⟨i, i1, i2, i3⟩
        · exact absurd z h5
        · exact rcB_iff.mpr ⟨q' i, (r3.2.2.1 i i1 i2).1, (hQ _).mpr ⟨i, i2, rfl⟩, i3⟩
theorem msz_res {A : Nat → Nat → Prop} {m : Nat} {N : Nat → Option Nat} (hN : Mat A (m + 1) N) : ∃ N', Mat A m N' ∧ msz N (m + 1) ≤ msz N' m + 1 := by
  have key : ∀ h f, (if h < m then N h else none) = some f → h < m ∧ N h = some f := fun h f q => by
    by_cases c : h < m
    · rw [if_pos c] at q
      exact ⟨c, q⟩
    · rw [if_neg c] at q
      cases q
  refine ⟨fun h => if h < m then N h else none, ⟨fun h f q => ?_, fun h h' f q q' => ?_⟩, ?_⟩
  · obtain ⟨a1, a2⟩ := key h f q
    exact ⟨a1, (hN.1 h f a2).2⟩
  · obtain ⟨-, a2⟩ := key h f q
    obtain ⟨-, b2⟩ := key h' f q'
    exact hN.2 h h' f a2 b2
  · unfold msz
    rw [cntN_last, cntN_congr (p := fun h => (if h < m then N h else none).isSome) (q := fun h => (N h).isSome) (fun j _ hj => by
      show (if j < m then N j else none).isSome = (N j).isSome
      rw [if_pos (by omega)])]
    split <;> omega
theorem great_l {s : Row} (hI : Inv s) : ∀ (d i n c : Nat) (K : Nat → Option Nat) (M : Mem), i + d = nh s → d < n → RS M 1 s → KM M K → Mat (gdB s) i K → msz K i = c → (∀ N, Mat (gdB s) i N → msz N i ≤ c) → ∃ c' M', l_X4_greatest_48 1 n (nI c) (nI i) M = some (nI c', M') ∧ tpM (gdB s) (nh s) c' ∧ FrM M M' := by
  have b1 := hI.h1l
  intro d
  induction d with
  | zero =>
    intro i n c K M hi hn R hM hK hc hN
    obtain ⟨n, rfl⟩ : ∃ z, n = z + 1 := ⟨n - 1, by omega⟩
    have e : nh s = i := by omega
    refine ⟨c, M, ?_, ?_, fun _ _ => rfl⟩
    · rw [l_X4_greatest_48_s, R.n1, hI.h1, if_pos ((nIle (by omega) (by omega)).mpr (by omega))]
    · rw [e]
      exact ⟨⟨K, hK, hc⟩, hN⟩
  | succ d ih =>
    intro i n c K M hi hn R hM hK hc hN
    obtain ⟨n, rfl⟩ : ∃ z, n = z + 1 := ⟨n - 1, by omega⟩
    obtain ⟨M1, K1, b, r1, r2, r3, r4, r5, r6⟩ := k_canHouse hI (show i < nh s by omega) hK hM R
    rw [l_X4_greatest_48_s, R.n1, hI.h1, if_neg (fun z => absurd ((nIle (by omega) (by omega)).mp z) (by omega)), r1, bd_s, show (nI i : Int32) + 1 = nI (i + 1) from nI_1 i, show (nI c : Int32) + 1 = nI (c + 1) from nI_1 c]
    cases b with
    | false =>
      rw [if_pos bI_f]
      rw [if_neg Bool.false_ne_true, Nat.add_zero] at r4
      obtain ⟨c', M', x1, x2, x3⟩ := ih (i + 1) n c K1 M1 (by omega) (by omega) (r6.rs hI R) r2 r3 (r4.trans hc) (fun N h => by
        obtain ⟨N', n1, n2⟩ := r5 rfl N h
        have := hN N' n1
        omega)
      exact ⟨c', M', x1, x2, fun q hq => (x3 q hq).trans (r6 q hq)⟩
    | true =>
      rw [if_neg bIne]
      rw [if_pos rfl] at r4
      obtain ⟨c', M', x1, x2, x3⟩ := ih (i + 1) n (c + 1) K1 M1 (by omega) (by omega) (r6.rs hI R) r2 r3 (by omega) (fun N h => by
        obtain ⟨N', n1, n2⟩ := msz_res h
        have := hN N' n1
        omega)
      exact ⟨c', M', x1, x2, fun q hq => (x3 q hq).trans (r6 q hq)⟩
theorem k_greatest {s : Row} (hI : Inv s) {M : Mem} (R : RS M 1 s) : ∃ c M', f_X4_greatest 1 M = some (nI c, M') ∧ tpM (gdB s) (nh s) c ∧ FrM M M' := by
  have b1 := hI.h1l
  unfold f_X4_greatest
  obtain ⟨M1, e1, e2, -, e4⟩ := flat0_l (fun (M4 : Mem) => l_X4_greatest_24 (fun (M8 : Mem) => l_X4_greatest_48 1 LF (0 : Int32) (0 : Int32) M8) LF (0 : Int32) M4) 12 0 LF M (by omega) (by unfold LF; omega)
  obtain ⟨M2, f1, f2, -, f4⟩ := take0_l (fun (M8 : Mem) => l_X4_greatest_48 1 LF (0 : Int32) (0 : Int32) M8) 12 0 LF M1 (by omega) (by unfold LF; omega)
  have fr : FrM M M2 := fun c hc => by rw [f4 c (by omega), e4 c (by omega)]
  have hM : KM M2 (fun _ => none) := by
    refine ⟨fun h hh => ?_, fun f hf => Or.inl ⟨f2 f (Nat.zero_le _) hf, fun h q => (by cases q)⟩⟩
    rw [f4 251 (by omega)]
    exact e2 h (Nat.zero_le _) hh
  obtain ⟨c', M', x1, x2, x3⟩ := great_l hI (nh s) 0 LF 0 (fun _ => none) M2 (by omega) (by unfold LF; omega) (fr.rs hI R) hM Mat_0 rfl (fun N _ => Nat.le_refl _)
  exact ⟨c', M', e1.trans (f1.trans x1), x2, fun q hq => (x3 q hq).trans (fr q hq)⟩
