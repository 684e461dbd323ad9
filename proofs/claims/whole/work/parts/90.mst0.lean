theorem DPi_step {A : Nat → Nat → Prop} {m X : Nat} {gd : Int32} {M M' : Mem} (hX : X < 4096) (hg : ∀ f, f < 12 → (bt gd f = true ↔ A m f)) (h : DPi A m (X + 1) M) (e2 : ∀ T, (¬ M 263 X = 0 ∧ ∃ f, 0 ≤ f ∧ f < 12 ∧ bt gd f = true ∧ X.testBit f = false ∧ T = X ||| 2 ^ f) → M' 263 T = 1) (e3 : ∀ T, ¬ (¬ M 263 X = 0 ∧ ∃ f, 0 ≤ f ∧ f < 12 ∧ bt gd f = true ∧ X.testBit f = false ∧ T = X ||| 2 ^ f) → M' 263 T = M 263 T) : DPi A m X M' := by
  have hx : M 263 X = 1 ↔ ExM A m X := (h X hX).2.trans ⟨fun q => by
    rcases q with q | ⟨U, f, u1, -, -, -, u5, u6, -⟩
    · exact q
    · have := or_gt u5
      rw [← u6] at this
      omega, Or.inl⟩
  have hx0 : ¬ M 263 X = 0 ↔ ExM A m X := by
    rw [← hx]
    rcases (h X hX).1 with q | q <;> rw [q] <;> decide
  intro T hT
  by_cases c : ¬ M 263 X = 0 ∧ ∃ f, 0 ≤ f ∧ f < 12 ∧ bt gd f = true ∧ X.testBit f = false ∧ T = X ||| 2 ^ f
  · refine ⟨Or.inr (e2 T c), fun _ => ?_, fun _ => e2 T c⟩
    obtain ⟨c0, f, -, c2, c3, c4, c5⟩ := c
    exact Or.inr ⟨X, f, Nat.le_refl _, hX, c2, (hg f c2).mp c3, c4, c5, hx0.mp c0⟩
  · rw [e3 T c]
    obtain ⟨h1, h2⟩ := h T hT
    refine ⟨h1, h2.trans ⟨fun q => ?_, fun q => ?_⟩⟩
    · rcases q with q | ⟨U, f, u1, u2, u3, u4, u5, u6, u7⟩
      · exact Or.inl q
      · exact Or.inr ⟨U, f, by omega, u2, u3, u4, u5, u6, u7⟩
    · rcases q with q | ⟨U, f, u1, u2, u3, u4, u5, u6, u7⟩
      · exact Or.inl q
      · by_cases e : U = X
        · subst e
          exact absurd ⟨hx0.mpr u7, f, Nat.zero_le _, u3, (hg f u3).mpr u4, u5, u6⟩ c
        · exact Or.inr ⟨U, f, by omega, u2, u3, u4, u5, u6, u7⟩
theorem most55_l {A : Nat → Nat → Prop} {m : Nat} {gd : Int32} (hg : ∀ f, f < 12 → (bt gd f = true ↔ A m f)) (K : Mem → Option (Int32 × Mem)) : ∀ (X n : Nat) (M : Mem), X ≤ 4096 → X < n → DPi A m X M → ∃ M', l_X8_most_55 gd K n (nI X + (-1)) M = K M' ∧ DPi A m 0 M' ∧ ∀ q, q ≠ 263 → M' q = M q := by
  intro X
  induction X with
  | zero =>
    intro n M hX hn h
    obtain ⟨n, rfl⟩ : ∃ z, n = z + 1 := ⟨n - 1, by omega⟩
    exact ⟨M, by rw [l_X8_most_55_s, if_pos (show (nI 0 + (-1) : Int32) < 0 by decide)], h, fun _ _ => rfl⟩
  | succ X ih =>
    intro n M hX hn h
    obtain ⟨n, rfl⟩ : ∃ z, n = z + 1 := ⟨n - 1, by omega⟩
    rw [pk_m1, l_X8_most_55_s, if_neg (nI_pos (by omega))]
    obtain ⟨M1, e1, e2, e3, e4⟩ := most63_l (gd := gd) (S := X) (by omega) (fun (M19 : Mem) => l_X8_most_55 gd K n (nI X + (-1 : Int32)) M19) 12 0 LF M (by omega) (by unfold LF; omega)
    obtain ⟨M', f1, f2, f3⟩ := ih n M1 (by omega) (by omega) (DPi_step (by omega) hg h e2 e3)
    exact ⟨M', e1.trans f1, f2, fun q hq => (f3 q hq).trans (e4 q hq)⟩
def gdB (s : Row) (h f : Nat) : Prop := h < nh s ∧ gdA s h f
theorem gdB12 {s : Row} (hI : Inv s) : ∀ h f, gdB s h f → f < 12 := by
  rintro h f ⟨hh, k, k1, k2, -⟩
  have b0 := hI.h0l
  obtain ⟨-, l3, -⟩ := hI.ls hh
  obtain ⟨-, l5⟩ := l3 k k1
  omega
theorem most34_l (K : Mem → Option (Int32 × Mem)) : ∀ (d i n : Nat) (M : Mem), Inv (M 256) → i + d = nh (M 256) → d < n → DPi (gdB (M 256)) i 4096 M → ∃ M', l_X8_most_34 K n (nI i) M = K M' ∧ DPi (gdB (M 256)) (nh (M 256)) 4096 M' ∧ ∀ q, q ≠ 263 → M' q = M q := by
  intro d
  induction d with
  | zero =>
    intro i n M hI hi hn h
    have b1 := hI.h1l
    obtain ⟨n, rfl⟩ : ∃ z, n = z + 1 := ⟨n - 1, by omega⟩
    refine ⟨M, ?_, ?_, fun _ _ => rfl⟩
    · rw [l_X8_most_34_s, hI.h1, if_pos ((nIle (by omega) (by omega)).mpr (by omega))]
    · rw [show nh (M 256) = i by omega]
      exact h
  | succ d ih =>
    intro i n M hI hi hn h
    have b1 := hI.h1l
    obtain ⟨n, rfl⟩ : ∃ z, n = z + 1 := ⟨n - 1, by omega⟩
    have hg : ∀ f, f < 12 → (bt (goI (M 256) i) f = true ↔ gdB (M 256) i f) := fun f hf => (goI_bt hI (by omega) (by omega)).trans ⟨fun q => ⟨by omega, q⟩, fun q => q.2⟩
    rw [l_X8_most_34_s, hI.h1, if_neg (fun q => absurd ((nIle (by omega) (by omega)).mp q) (by omega)), goods_n hI (by omega), bd_s, show (nI i : Int32) + 1 = nI (i + 1) from nI_1 i, show (4095 : Int32) = nI 4096 + (-1) from (pk_m1 4095).symm]
    obtain ⟨M1, e1, e2, e3⟩ := most55_l hg (fun (M20 : Mem) => l_X8_most_34 K n (nI (i + 1)) M20) 4096 LF M (by omega) (by unfold LF; omega) h
    have e256 : M1 256 = M 256 := e3 256 (by omega)
    obtain ⟨M', f1, f2, f3⟩ := ih (i + 1) n M1 (by rw [e256]; exact hI) (by rw [e256]; omega) (by omega) (by rw [e256]; exact DPi_all (gdB12 hI) e2)
    rw [e256] at f2
    exact ⟨M', e1.trans f1, f2, fun q hq => (f3 q hq).trans (e3 q hq)⟩
/-! how many are in a set -/
def onN (S : Nat) : Nat := cntN (fun j => S.testBit j) 0 12
theorem bt_one {j : Nat} (hj : j < 32) : bt 1 j = decide (j = 0) := by
  have h : ∀ j, j < 32 → bt 1 j = decide (j = 0) := by decide +kernel
  exact h j hj
theorem and1_nI {y : Int32} : y &&& 1 = nI (if bt y 0 = true then 1 else 0) := by
  refine bt_eq (fun j hj => ?_)
  rw [bt_and, bt_one hj]
  by_cases e : j = 0
  · subst e
    rw [decide_eq_true rfl, Bool.and_true]
    cases bt y 0 with
    | false => decide
    | true => decide
  · rw [decide_eq_false e, Bool.and_false]
    cases bt y 0 with
    | false =>
      show false = bt 0 j
      exact bt_zero.symm
    | true =>
      show false = bt 1 j
      rw [bt_one hj, decide_eq_false e]
theorem bt_sh0 {x : Int32} {j : Nat} (hj : j < 12) : bt (x >>> (nI j &&& 31)) 0 = bt x j := by
  have h := bt_shr (x := x) hj
  rw [and1_nI] at h
  cases c : bt (x >>> (nI j &&& 31)) 0 with
  | false =>
    rw [c] at h
    exact (h.mp (by decide)).symm
  | true =>
    rw [c] at h
    cases c2 : bt x j with
    | false => exact absurd (h.mpr c2) (by decide)
    | true => rfl
theorem ones_l {S : Nat} {M : Mem} : ∀ (d i n a : Nat), i + d = 12 → d < n → l_X8_ones_4 (nI S) n (nI a) (nI i) M = some (nI (a + cntN (fun j => S.testBit j) i d), M) := by
  intro d
  induction d with
  | zero =>
    intro i n a hi hn
    obtain ⟨n, rfl⟩ : ∃ z, n = z + 1 := ⟨n - 1, by omega⟩
    rw [l_X8_ones_4_s, if_pos (show (12 : Int32) ≤ nI i by rw [show i = 12 by omega]; decide)]
    rfl
  | succ d ih =>
    intro i n a hi hn
    obtain ⟨n, rfl⟩ : ∃ z, n = z + 1 := ⟨n - 1, by omega⟩
    rw [l_X8_ones_4_s, if_neg (n12 (by omega)), and1_nI, bt_sh0 (by omega), bt_nI (by omega), nI_add, show (nI i : Int32) + 1 = nI (i + 1) from nI_1 i, ih (i + 1) n _ (by omega) (by omega), Nat.add_assoc]
    rfl
theorem ones_n {S : Nat} {M : Mem} : f_X8_ones (nI S) M = some (nI (onN S), M) := by
  unfold f_X8_ones onN
  have := ones_l (S := S) (M := M) 12 0 LF 0 (by omega) (by unfold LF; omega)
  rw [Nat.zero_add] at this
  exact this
theorem most127_l {M : Mem} : ∀ (d i n a : Nat), i + d = 4096 → d < n → a ≤ 12 → ∃ r, l_X8_most_127 n (nI a) (nI i) M = some (nI r, M) ∧ (a ≤ r ∧ r ≤ 12) ∧ (∀ T, i ≤ T → T < 4096 → ¬ M 263 T = 0 → onN T ≤ r) ∧ (r = a ∨ ∃ T, i ≤ T ∧ T < 4096 ∧ ¬ M 263 T = 0 ∧ onN T = r) := by
  intro d
  induction d with
  | zero =>
    intro i n a hi hn ha
    obtain ⟨n, rfl⟩ : ∃ z, n = z + 1 := ⟨n - 1, by omega⟩
    refine ⟨a, ?_, ⟨Nat.le_refl _, ha⟩, fun T h1 h2 => by omega, Or.inl rfl⟩
    rw [l_X8_most_127_s, if_pos (show (4096 : Int32) ≤ nI i by rw [show i = 4096 by omega]; decide)]
  | succ d ih =>
    intro i n a hi hn ha
    obtain ⟨n, rfl⟩ : ∃ z, n = z + 1 := ⟨n - 1, by omega⟩
    have o12 : onN i ≤ 12 := cntN_le
    rw [l_X8_most_127_s, if_neg (n4096 (by omega)), ck_t (inbN (by omega) (by omega)), nN (by omega), show (nI i : Int32) + 1 = nI (i + 1) from nI_1 i]
    by_cases c : M 263 i = 0
    · rw [if_pos c]
      obtain ⟨r, e1, e2, e3, e4⟩ := ih (i + 1) n a (by omega) (by omega) ha
      refine ⟨r, e1, e2, fun T h1 h2 h3 => ?_, ?_⟩
      · by_cases e : T = i
        · subst e
          exact absurd c h3
        · exact e3 T (by omega) h2 h3
      · rcases e4 with q | ⟨T, q1, q2⟩
        · exact Or.inl q
        · exact Or.inr ⟨T, by omega, q2⟩
    · rw [if_neg c, ones_n, bd_s]
      by_cases c2 : onN i ≤ a
      · rw [if_pos ((nIle (by omega) (by omega)).mpr c2)]
        obtain ⟨r, e1, e2, e3, e4⟩ := ih (i + 1) n a (by omega) (by omega) ha
        refine ⟨r, e1, e2, fun T h1 h2 h3 => ?_, ?_⟩
        · by_cases e : T = i
          · subst e
            omega
          · exact e3 T (by omega) h2 h3
        · rcases e4 with q | ⟨T, q1, q2⟩
          · exact Or.inl q
          · exact Or.inr ⟨T, by omega, q2⟩
      · rw [if_neg (fun q => c2 ((nIle (by omega) (by omega)).mp q)), ones_n, bd_s]
        obtain ⟨r, e1, e2, e3, e4⟩ := ih (i + 1) n (onN i) (by omega) (by omega) o12
        refine ⟨r, e1, ⟨by omega, e2.2⟩, fun T h1 h2 h3 => ?_, ?_⟩
        · by_cases e : T = i
          · subst e
            exact e2.1
          · exact e3 T (by omega) h2 h3
        · rcases e4 with q | ⟨T, q1, q2⟩
          · exact Or.inr ⟨i, Nat.le_refl _, by omega, c, q.symm⟩
          · exact Or.inr ⟨T, by omega, q2⟩
theorem ex_set (p : Nat → Bool) : ∀ n, ∃ S, S < 2 ^ n ∧ ∀ j, j < n → S.testBit j = p j := by
  intro n
  induction n with
  | zero => exact ⟨0, by decide, fun j hj => absurd hj (Nat.not_lt_zero _)⟩
  | succ n ih =>
    obtain ⟨S, h1, h2⟩ := ih
    have h1' : S < 2 ^ (n + 1) := Nat.lt_of_lt_of_le h1 (Nat.pow_le_pow_right (by omega) (by omega))
    cases c : p n with
    | false =>
      refine ⟨S, h1', fun j hj => ?_⟩
      by_cases e : j = n
      · rw [e, c]
        exact Nat.testBit_lt_two_pow h1
      · exact h2 j (by omega)
    | true =>
      refine ⟨S ||| 2 ^ n, Nat.or_lt_two_pow h1' (Nat.pow_lt_pow_right (by omega) (by omega)), fun j hj => ?_⟩
      rw [Nat.testBit_or, Nat.testBit_two_pow]
      by_cases e : j = n
      · rw [e, c, decide_eq_true rfl, Bool.or_true]
      · rw [h2 j (by omega), decide_eq_false (fun q => e q.symm), Bool.or_false]
theorem onN_msz {A : Nat → Nat → Prop} (hA12 : ∀ h f, A h f → f < 12) {m S : Nat} {N : Nat → Option Nat} (hN : Mat A m N) (hb : ∀ f, f < 12 → (S.testBit f = true ↔ ∃ h, N h = some f)) : onN S = msz N m := by
  refine Nat.le_antisymm ?_ ?_
  · have ow : ∀ f, ∃ h, f < 12 → S.testBit f = true → N h = some f := fun f => by
      by_cases c : f < 12 ∧ S.testBit f = true
      · obtain ⟨h, hh⟩ := (hb f c.1).mp c.2
        exact ⟨h, fun _ _ => hh⟩
      · exact ⟨0, fun a b => absurd ⟨a, b⟩ c⟩
    obtain ⟨F, hF⟩ : ∃ F : Nat → Nat, ∀ f, f < 12 → S.testBit f = true → N (F f) = some f := ⟨fun f => Classical.choose (ow f), fun f => Classical.choose_spec (ow f)⟩
    refine cnt_inj (f := F) (fun f hf hp => ?_) (fun a b ha hb2 pa pb e => ?_)
    · have hp2 := hF f hf hp
      refine ⟨(hN.1 _ _ hp2).1, ?_⟩
      show (N (F f)).isSome = true
      rw [hp2]
      rfl
    · have h1 := hF a ha pa
      have h2 := hF b hb2 pb
      rw [e, h2] at h1
      exact (Option.some.inj h1).symm
  · refine cnt_inj (f := fun h => (N h).getD 0) (fun h hh hp => ?_) (fun a b ha hb2 pa pb e => ?_)
    · have hp2 : (N h).isSome = true := hp
      cases hq : N h with
      | none =>
        rw [hq] at hp2
        cases hp2
      | some f =>
        have f12 := hA12 h f (hN.1 h f hq).2
        exact ⟨f12, (hb f f12).mpr ⟨h, hq⟩⟩
    · have pa2 : (N a).isSome = true := pa
      have pb2 : (N b).isSome = true := pb
      have e2 : (N a).getD 0 = (N b).getD 0 := e
      cases qa : N a with
      | none =>
        rw [qa] at pa2
        cases pa2
      | some f =>
        cases qb : N b with
        | none =>
          rw [qb] at pb2
          cases pb2
        | some f' =>
          rw [qa, qb] at e2
          have e3 : f = f' := e2
          rw [← e3] at qb
          exact hN.2 a b f qa qb
/-- c is the greatest size of a matching -/
def tpM (A : Nat → Nat → Prop) (m c : Nat) : Prop := (∃ N, Mat A m N ∧ msz N m = c) ∧ ∀ N, Mat A m N → msz N m ≤ c
theorem tpM_uq {A : Nat → Nat → Prop} {m c c' : Nat} (h : tpM A m c) (h' : tpM A m c') : c = c' := by
  obtain ⟨⟨N, n1, n2⟩, h2⟩ := h
  obtain ⟨⟨N', n1', n2'⟩, h2'⟩ := h'
  have a1 := h2 N' n1'
  have a2 := h2' N n1
  omega
theorem Mat_0 {A : Nat → Nat → Prop} {m : Nat} : Mat A m (fun _ => none) := ⟨fun h f q => (by cases q), fun h h' f q => (by cases q)⟩
theorem most_n {M : Mem} (hI : Inv (M 256)) : ∃ c M', f_X8_most M = some (nI c, M') ∧ tpM (gdB (M 256)) (nh (M 256)) c ∧ ∀ q, q ≠ 263 → M' q = M q := by
  unfold f_X8_most
  have b1 := hI.h1l
  obtain ⟨M1, e1, e2, e3, e4⟩ := most2_l (fun (M7 : Mem) => l_X8_most_34 (fun (M21 : Mem) => l_X8_most_127 LF (0) (0) M21) LF (0) M7) 4096 0 LF M (by omega) (by unfold LF; omega)
  have m256 : M1 256 = M 256 := e4 256 (by omega)
  have d0 : DPi (gdB (M1 256)) 0 4096 M1 := fun T hT => by
    have h := e2 T (Nat.zero_le _) hT
    by_cases c : T = 0
    · rw [if_pos c] at h
      exact ⟨Or.inr h, fun _ => Or.inl ((ExM_0 hT).mpr c), fun _ => h⟩
    · rw [if_neg c] at h
      refine ⟨Or.inl h, fun q => ?_, fun q => ?_⟩
      · rw [h] at q
        exact absurd q (by decide)
      · rcases q with q | ⟨U, f, u1, u2, -⟩
        · exact absurd ((ExM_0 hT).mp q) c
        · omega
  obtain ⟨M2, f1, f2, f3⟩ := most34_l (fun (M21 : Mem) => l_X8_most_127 LF (0) (0) M21) (nh (M 256)) 0 LF M1 (by rw [m256]; exact hI) (by rw [m256]; omega) (by unfold LF; omega) d0
  rw [m256] at f2
  obtain ⟨r, g1, g2, g3, g4⟩ := most127_l (M := M2) 4096 0 LF 0 (by omega) (by unfold LF; omega) (by omega)
  have nz : ∀ T, T < 4096 → (¬ M2 263 T = 0 ↔ ExM (gdB (M 256)) (nh (M 256)) T) := fun T hT => by
    obtain ⟨h1, h2⟩ := f2 T hT
    constructor
    · intro q
      rcases h1 with h1 | h1
      · exact absurd h1 q
      · rcases h2.mp h1 with q | ⟨U, f, u1, u2, -⟩
        · exact q
        · omega
    · intro q
      rw [h2.mpr (Or.inl q)]
      decide
  refine ⟨r, M2, e1.trans (f1.trans g1), ⟨?_, fun N hN => ?_⟩, fun q hq => (f3 q hq).trans (e4 q hq)⟩
  · rcases g4 with g4 | ⟨T, t1, t2, t3, t4⟩
    · refine ⟨fun _ => none, Mat_0, ?_⟩
      rw [← onN_msz (S := 0) (gdB12 hI) (Mat_0 (A := gdB (M 256))) (fun f _ => by
        rw [Nat.zero_testBit]
        exact ⟨fun q => (by cases q), fun ⟨h, q⟩ => (by cases q)⟩), g4]
      decide
    · obtain ⟨N, n1, n2⟩ := (nz T t2).mp t3
      exact ⟨N, n1, by rw [← onN_msz (gdB12 hI) n1 n2]; exact t4⟩
  · obtain ⟨S, s1, s2⟩ := ex_set (fun f => anyB (fun h => decide (N h = some f)) 0 (nh (M 256))) 12
    have hb : ∀ f, f < 12 → (S.testBit f = true ↔ ∃ h, N h = some f) := fun f hf => by
      rw [s2 f hf, anyB_iff]
      constructor
      · rintro ⟨h, -, -, h3⟩
        exact ⟨h, of_decide_eq_true h3⟩
      · rintro ⟨h, hh⟩
        have := (hN.1 h f hh).1
        exact ⟨h, Nat.zero_le _, by omega, decide_eq_true hh⟩
    rw [← onN_msz (gdB12 hI) hN hb]
    exact g3 S (Nat.zero_le _) s1 ((nz S s1).mpr ⟨N, hN, hb⟩)
