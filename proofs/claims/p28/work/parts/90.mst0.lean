theorem DPi_step {A : Nat → Nat → Prop} {m X : Nat} {gd : Int32} {M M' : Mem} (hX : X < 4096) (hg : ∀ f, f < 12 → (bt gd f = true ↔ A m f)) (h : DPi A m (X + 1) M) (e2 : ∀ T, (¬ M 263 X = 0 ∧ ∃ f, 0 ≤ f ∧ f < 12 ∧ bt gd f = true ∧ X.testBit f = false ∧ T = X ||| 2 ^ f) → M' 263 T = 1) (e3 : ∀ T, ¬ (¬ M 263 X = 0 ∧ ∃ f, 0 ≤ f ∧ f < 12 ∧ bt gd f = true ∧ X.testBit f = false ∧ T = X ||| 2 ^ f) → M' 263 T = M 263 T) : DPi A m X M' := by
  have hx : M 263 X = 1 ↔ ExM A m X := (h X hX).2.trans ⟨fun q => by
    rcases q with q | ⟨U, f, u1, -, -, -, u5, u6, -⟩
    · exact q
    · have := or_gt u5
      rw [← u6] at this
      omega, Or.inl⟩
  have hx0 : ¬ M 263 X = 0 ↔ ExM A m X := by
    rw [← hx]
    rcases (h X hX).1 with q | q <;> rw [q] <;> decide
  intro T hT
  by_cases c : ¬ M 263 X = 0 ∧ ∃ f, 0 ≤ f ∧ f < 12 ∧ bt gd f = true ∧ X.testBit f = false ∧ T = X ||| 2 ^ f
  · refine ⟨Or.inr (e2 T c), fun _ => ?_, fun _ => e2 T c⟩
    obtain ⟨c0, f, -, c2, c3, c4, c5⟩ := c
    exact Or.inr ⟨X, f, Nat.le_refl _, hX, c2, (hg f c2).mp c3, c4, c5, hx0.mp c0⟩
  · rw [e3 T c]
    obtain ⟨h1, h2⟩ := h T hT
    refine ⟨h1, h2.trans ⟨fun q => ?_, fun q => ?_⟩⟩
    · rcases q with q | ⟨U, f, u1, u2, u3, u4, u5, u6, u7⟩
      · exact Or.inl q
      · exact Or.inr ⟨U, f, by omega, u2, u3, u4, u5, u6, u7⟩
    · rcases q with q | ⟨U, f, u1, u2, u3, u4, u5, u6, u7⟩
      · exact Or.inl q
      · by_cases e : U = X
        · subst e
          exact absurd ⟨hx0.mpr u7, f, Nat.zero_le _, u3, (hg f u3).mpr u4, u5, u6⟩ c
        · exact Or.inr ⟨U, f, by omega, u2, u3, u4, u5, u6, u7⟩
def gdB (s : Row) (h f : Nat) : Prop := h < nh s ∧ gdA s h f
theorem gdB12 {s : Row} (hI : Inv s) : ∀ h f, gdB s h f → f < 12 := by
  rintro h f ⟨hh, k, k1, k2, -⟩
  have b0 := hI.h0l
  obtain ⟨-, l3, -⟩ := hI.ls hh
  obtain ⟨-, l5⟩ := l3 k k1
  omega
/-! how many are in a set -/
def onN (S : Nat) : Nat := cntN (fun j => S.testBit j) 0 12
theorem bt_one {j : Nat} (hj : j < 32) : bt 1 j = decide (j = 0) := by
  have h : ∀ j, j < 32 → bt 1 j = decide (j = 0) := by decide +kernel
  exact h j hj
theorem and1_nI {y : Int32} : y &&& 1 = nI (if bt y 0 = true then 1 else 0) := by
  refine bt_eq (fun j hj => ?_)
  rw [bt_and, bt_one hj]
  by_cases e : j = 0
  · subst e
    rw [decide_eq_true rfl, Bool.and_true]
    cases bt y 0 with
    | false => decide
    | true => decide
  · rw [decide_eq_false e, Bool.and_false]
    cases bt y 0 with
    | false =>
      show false = bt 0 j
      exact bt_zero.symm
    | true =>
      show false = bt 1 j
      rw [bt_one hj, decide_eq_false e]
theorem bt_sh0 {x : Int32} {j : Nat} (hj : j < 12) : bt (x >>> (nI j &&& 31)) 0 = bt x j := by
  have h := bt_shr (x := x) hj
  rw [and1_nI] at h
  cases c : bt (x >>> (nI j &&& 31)) 0 with
  | false =>
    rw [c] at h
    exact (h.mp (by decide)).symm
  | true =>
    rw [c] at h
    cases c2 : bt x j with
    | false => exact absurd (h.mpr c2) (by decide)
    | true => rfl
theorem ex_set (p : Nat → Bool) : ∀ n, ∃ S, S < 2 ^ n ∧ ∀ j, j < n → S.testBit j = p j := by
  intro n
  induction n with
  | zero => exact ⟨0, by decide, fun j hj => absurd hj (Nat.not_lt_zero _)⟩
  | succ n ih =>
    obtain ⟨S, h1, h2⟩ := ih
    have h1' : S < 2 ^ (n + 1) := Nat.lt_of_lt_of_le h1 (Nat.pow_le_pow_right (by omega) (by omega))
    cases c : p n with
    | false =>
      refine ⟨S, h1', fun j hj => ?_⟩
      by_cases e : j = n
      · rw [e, c]
        exact Nat.testBit_lt_two_pow h1
      · exact h2 j (by omega)
    | true =>
      refine ⟨S ||| 2 ^ n, Nat.or_lt_two_pow h1' (Nat.pow_lt_pow_right (by omega) (by omega)), fun j hj => ?_⟩
      rw [Nat.testBit_or, Nat.testBit_two_pow]
      by_cases e : j = n
      · rw [e, c, decide_eq_true rfl, Bool.or_true]
      · rw [h2 j (by omega), decide_eq_false (fun q => e q.symm), Bool.or_false]
theorem onN_msz {A : Nat → Nat → Prop} (hA12 : ∀ h f, A h f → f < 12) {m S : Nat} {N : Nat → Option Nat} (hN : Mat A m N) (hb : ∀ f, f < 12 → (S.testBit f = true ↔ ∃ h, N h = some f)) : onN S = msz N m := by
  refine Nat.le_antisymm ?_ ?_
  · have ow : ∀ f, ∃ h, f < 12 → S.testBit f = true → N h = some f := fun f => by
      by_cases c : f < 12 ∧ S.testBit f = true
      · obtain ⟨h, hh⟩ := (hb f c.1).mp c.2
        exact ⟨h, fun _ _ => hh⟩
      · exact ⟨0, fun a b => absurd ⟨a, b⟩ c⟩
    obtain ⟨F, hF⟩ : ∃ F : Nat → Nat, ∀ f, f < 12 → S.testBit f = true → N (F f) = some f := ⟨fun f => Classical.choose (ow f), fun f => Classical.choose_spec (ow f)⟩
    refine cnt_inj (f := F) (fun f hf hp => ?_) (fun a b ha hb2 pa pb e => ?_)
    · have hp2 := hF f hf hp
      refine ⟨(hN.1 _ _ hp2).1, ?_⟩
      show (N (F f)).isSome = true
      rw [hp2]
      rfl
    · have h1 := hF a ha pa
      have h2 := hF b hb2 pb
      rw [e, h2] at h1
      exact (Option.some.inj h1).symm
  · refine cnt_inj (f := fun h => (N h).getD 0) (fun h hh hp => ?_) (fun a b ha hb2 pa pb e => ?_)
    · have hp2 : (N h).isSome = true := hp
      cases hq : N h with
      | none =>
        rw [hq] at hp2
        cases hp2
      | some f =>
        have f12 := hA12 h f (hN.1 h f hq).2
        exact ⟨f12, (hb f f12).mpr ⟨h, hq⟩⟩
    · have pa2 : (N a).isSome = true := pa
      have pb2 : (N b).isSome = true := pb
      have e2 : (N a).getD 0 = (N b).getD 0 := e
      cases qa : N a with
      | none =>
        rw [qa] at pa2
        cases pa2
      | some f =>
        cases qb : N b with
        | none =>
          rw [qb] at pb2
          cases pb2
        | some f' =>
          rw [qa, qb] at e2
          have e3 : f = f' := e2
          rw [← e3] at qb
          exact hN.2 a b f qa qb
/-- c is the greatest size of a matching -/
def tpM (A : Nat → Nat → Prop) (m c : Nat) : Prop := (∃ N, Mat A m N ∧ msz N m = c) ∧ ∀ N, Mat A m N → msz N m ≤ c
theorem tpM_uq {A : Nat → Nat → Prop} {m c c' : Nat} (h : tpM A m c) (h' : tpM A m c') : c = c' := by
  obtain ⟨⟨N, n1, n2⟩, h2⟩ := h
  obtain ⟨⟨N', n1', n2'⟩, h2'⟩ := h'
  have a1 := h2 N' n1'
  have a2 := h2' N n1
  omega
theorem Mat_0 {A : Nat → Nat → Prop} {m : Nat} : Mat A m (fun _ => none) := ⟨fun h f q => (by cases q), fun h h' f q => (by cases q)⟩
