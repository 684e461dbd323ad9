/-! THE MOST: matchings -/
theorem cntN_split {p : Nat → Bool} : ∀ {a b i : Nat}, cntN p i (a + b) = cntN p i a + cntN p (i + a) b := by
  intro a
  induction a with
  | zero =>
    intro b i
    rw [Nat.zero_add, Nat.add_zero]
    exact (Nat.zero_add _).symm
  | succ a ih =>
    intro b i
    rw [show a + 1 + b = a + b + 1 by omega]
    show (if p i = true then 1 else 0) + cntN p (i + 1) (a + b) = (if p i = true then 1 else 0) + cntN p (i + 1) a + cntN p (i + (a + 1)) b
    rw [ih, show i + 1 + a = i + (a + 1) by omega, Nat.add_assoc]
theorem cntN_last {p : Nat → Bool} {n : Nat} : cntN p 0 (n + 1) = cntN p 0 n + (if p n = true then 1 else 0) := by
  rw [cntN_split (a := n) (b := 1), Nat.zero_add]
  rfl
theorem cnt_inj {p : Nat → Bool} {f : Nat → Nat} {n' : Nat} : ∀ {n : Nat} {q : Nat → Bool}, (∀ h, h < n → p h = true → f h < n' ∧ q (f h) = true) → (∀ a b, a < n → b < n → p a = true → p b = true → f a = f b → a = b) → cntN p 0 n ≤ cntN q 0 n' := by
  intro n
  induction n with
  | zero => intro q _ _; exact Nat.zero_le _
  | succ n ih =>
    intro q h1 h2
    rw [cntN_last]
    by_cases c : p n = true
    · rw [if_pos c]
      obtain ⟨f1, f2⟩ := h1 n (by omega) c
      have h3 := ih (q := fun j => q j && decide (j ≠ f n)) (fun h hh hp => by
        obtain ⟨a1, a2⟩ := h1 h (by omega) hp
        refine ⟨a1, ?_⟩
        show (q (f h) && decide (f h ≠ f n)) = true
        rw [a2, Bool.true_and]
        refine decide_eq_true (fun e => ?_)
        have := h2 h n (by omega) (by omega) hp c e
        omega) (fun a b ha hb pa pb e => h2 a b (by omega) (by omega) pa pb e)
      have h4 : cntN (fun j => q j && decide (j ≠ f n)) 0 n' < cntN q 0 n' := cntN_lt (k := f n) (Nat.zero_le _) (by omega) f2 (by
        show (q (f n) && decide (f n ≠ f n)) = false
        rw [decide_eq_false (fun e => e rfl), Bool.and_false]) (fun j _ _ hj => by
        have hj2 : (q j && decide (j ≠ f n)) = true := hj
        rw [Bool.and_eq_true] at hj2
        exact hj2.1)
      omega
    · rw [if_neg c, Nat.add_zero]
      exact ih (fun h hh hp => h1 h (by omega) hp) (fun a b ha hb => h2 a b (by omega) (by omega))
/-- a matching of the households before m: each has at most one flat, of those that are good for it, and no flat twice -/
def Mat (A : Nat → Nat → Prop) (m : Nat) (N : Nat → Option Nat) : Prop := (∀ h f, N h = some f → h < m ∧ A h f) ∧ ∀ h h' f, N h = some f → N h' = some f → h = h'
def msz (N : Nat → Option Nat) (m : Nat) : Nat := cntN (fun h => (N h).isSome) 0 m
