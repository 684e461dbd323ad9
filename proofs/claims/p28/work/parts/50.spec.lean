/-! THE PURE PART: the state as a row of 198 ints (the reference's own), what must always hold of it, and what it tells -/
abbrev Row : Type := Nat → Int32
theorem nN {j : Nat} (h : j < 2147483648) : (nI j).toNatClampNeg = j := nI_clamp h
theorem nIeq {a b : Nat} (ha : a < 2147483648) (hb : b < 2147483648) : nI a = nI b ↔ a = b := nI_eq ha hb
theorem nIle {a b : Nat} (ha : a < 2147483648) (hb : b < 2147483648) : nI a ≤ nI b ↔ a ≤ b := nI_leI ha hb
theorem nIlt {a b : Nat} (ha : a < 2147483648) (hb : b < 2147483648) : nI a < nI b ↔ a < b := nI_ltI ha hb
theorem nI_inj {a b : Nat} (ha : a < 2147483648) (hb : b < 2147483648) (h : nI a = nI b) : a = b := (nI_eq ha hb).mp h
theorem nIne5 {j : Nat} (h : j < 2147483648) : ¬ nI j = (-5 : Int32) := fun q => by
  have h1 := congrArg Int32.toInt q
  rw [nI_toInt h, show (-5 : Int32).toInt = -5 from by decide] at h1
  omega
theorem nIm5 {j : Nat} (h : j < 2147483648) : ¬ (-5 : Int32) = nI j := fun q => nIne5 h q.symm
theorem inbN {j n : Nat} (h : j < n) (hn : n < 2147483648) : inb (nI j) n = true := inb_nI h hn
/-- a bool as the machine's int -/
def bI (b : Bool) : Int32 := if b = true then 1 else 0
theorem bI_t : bI true = 1 := rfl
theorem bI_f : bI false = 0 := rfl
theorem isb_bI (b : Bool) : isb (bI b) = true := by cases b <;> rfl
theorem bI0 {b : Bool} : bI b = 0 ↔ b = false := by cases b <;> decide
/-- none, or a number -/
def oI (o : Option Nat) : Int32 := match o with
  | none => -5
  | some k => nI k
/-- the first, the last of a range; how many -/
def fstO (p : Nat → Bool) : Nat → Nat → Option Nat
  | _, 0 => none
  | i, d + 1 => if p i = true then some i else fstO p (i + 1) d
def lstO (p : Nat → Bool) : Nat → Nat → Option Nat → Option Nat
  | _, 0, acc => acc
  | i, d + 1, acc => lstO p (i + 1) d (if p i = true then some i else acc)
def cntN (p : Nat → Bool) : Nat → Nat → Nat
  | _, 0 => 0
  | i, d + 1 => (if p i = true then 1 else 0) + cntN p (i + 1) d
def anyB (p : Nat → Bool) : Nat → Nat → Bool
  | _, 0 => false
  | i, d + 1 => p i || anyB p (i + 1) d
def orI (g : Nat → Int32) : Nat → Nat → Int32 → Int32
  | _, 0, acc => acc
  | i, d + 1, acc => orI g (i + 1) d (acc ||| g i)
def sumN (g : Nat → Nat) : Nat → Nat
  | 0 => 0
  | n + 1 => sumN g n + g n
theorem fstO_some {p : Nat → Bool} : ∀ {d i k : Nat}, fstO p i d = some k → i ≤ k ∧ k < i + d ∧ p k = true ∧ ∀ j, i ≤ j → j < k → p j = false := by
  intro d
  induction d with
  | zero => intro i k h; cases h
  | succ d ih =>
    intro i k h
    unfold fstO at h
    by_cases hp : p i = true
    · rw [if_pos hp] at h
      cases h
      exact ⟨Nat.le_refl _, by omega, hp, fun j h1 h2 => by omega⟩
    · rw [if_neg hp] at h
      obtain ⟨h1, h2, h3, h4⟩ := ih h
      refine ⟨by omega, by omega, h3, fun j hj1 hj2 => ?_⟩
      by_cases e : j = i
      · subst e; exact Bool.eq_false_iff.mpr hp
      · exact h4 j (by omega) hj2
theorem fstO_none {p : Nat → Bool} : ∀ {d i : Nat}, fstO p i d = none ↔ ∀ j, i ≤ j → j < i + d → p j = false := by
  intro d
  induction d with
  | zero => intro i; exact ⟨fun _ j h1 h2 => by omega, fun _ => rfl⟩
  | succ d ih =>
    intro i
    unfold fstO
    by_cases hp : p i = true
    · rw [if_pos hp]
      constructor
      · intro h; cases h
      · intro h
        have := h i (Nat.le_refl _) (by omega)
        rw [hp] at this
        cases this
    · rw [if_neg hp, ih]
      constructor
      · intro h j h1 h2
        by_cases e : j = i
        · subst e; exact Bool.eq_false_iff.mpr hp
        · exact h j (by omega) (by omega)
      · intro h j h1 h2
        exact h j (by omega) (by omega)
theorem fstO_of {p : Nat → Bool} {d i k : Nat} (h1 : i ≤ k) (h2 : k < i + d) (h3 : p k = true) (h4 : ∀ j, i ≤ j → j < k → p j = false) : fstO p i d = some k := by
  cases hq : fstO p i d with
  | none =>
    have := fstO_none.mp hq k h1 h2
    rw [h3] at this
    cases this
  | some q =>
    obtain ⟨a, b, c, e⟩ := fstO_some hq
    rcases Nat.lt_trichotomy q k with z | z | z
    · have := h4 q a z
      rw [c] at this
      cases this
    · rw [z]
    · have := e k h1 z
      rw [h3] at this
      cases this
theorem fstO_congr {p q : Nat → Bool} {d i : Nat} (h : ∀ j, i ≤ j → j < i + d → p j = q j) : fstO p i d = fstO q i d := by
  induction d generalizing i with
  | zero => rfl
  | succ d ih =>
    unfold fstO
    rw [h i (Nat.le_refl _) (by omega), ih (fun j h1 h2 => h j (by omega) (by omega))]
theorem cntN_congr {p q : Nat → Bool} {d i : Nat} (h : ∀ j, i ≤ j → j < i + d → p j = q j) : cntN p i d = cntN q i d := by
  induction d generalizing i with
  | zero => rfl
  | succ d ih =>
    unfold cntN
    rw [h i (Nat.le_refl _) (by omega), ih (fun j h1 h2 => h j (by omega) (by omega))]
theorem orI_congr {p q : Nat → Int32} {d i : Nat} {acc : Int32} (h : ∀ j, i ≤ j → j < i + d → p j = q j) : orI p i d acc = orI q i d acc := by
  induction d generalizing i acc with
  | zero => rfl
  | succ d ih =>
    unfold orI
    rw [h i (Nat.le_refl _) (by omega), ih (fun j h1 h2 => h j (by omega) (by omega))]
theorem cntN_f {p : Nat → Bool} {d i : Nat} (h : p i = false) : cntN p i (d + 1) = cntN p (i + 1) d := by
  show (if p i = true then 1 else 0) + cntN p (i + 1) d = cntN p (i + 1) d
  rw [h, if_neg (by decide), Nat.zero_add]
theorem cntN_t {p : Nat → Bool} {d i : Nat} (h : p i = true) : cntN p i (d + 1) = 1 + cntN p (i + 1) d := by
  show (if p i = true then 1 else 0) + cntN p (i + 1) d = 1 + cntN p (i + 1) d
  rw [h, if_pos rfl]
theorem cntN_le {p : Nat → Bool} {d i : Nat} : cntN p i d ≤ d := by
  induction d generalizing i with
  | zero => exact Nat.le_refl _
  | succ d ih =>
    unfold cntN
    have := ih (i := i + 1)
    split <;> omega
/-- the last is the first where there is but one -/
theorem lstO_fst {p : Nat → Bool} : ∀ {d i : Nat} {acc : Option Nat}, (∀ j k, i ≤ j → j < i + d → i ≤ k → k < i + d → p j = true → p k = true → j = k) → lstO p i d acc = match fstO p i d with | none => acc | some k => some k := by
  intro d
  induction d with
  | zero => intro i acc _; rfl
  | succ d ih =>
    intro i acc hu
    unfold lstO fstO
    rw [ih (fun j k h1 h2 h3 h4 => hu j k (by omega) (by omega) (by omega) (by omega))]
    by_cases hp : p i = true
    · rw [if_pos hp, if_pos hp]
      have hn : fstO p (i + 1) d = none := fstO_none.mpr (fun j h1 h2 => by
        by_cases hj : p j = true
        · have := hu i j (Nat.le_refl _) (by omega) (by omega) (by omega) hp hj
          omega
        · exact Bool.eq_false_iff.mpr hj)
      rw [hn]
    · rw [if_neg hp, if_neg hp]
theorem anyB_iff {p : Nat → Bool} : ∀ {d i : Nat}, anyB p i d = true ↔ ∃ j, i ≤ j ∧ j < i + d ∧ p j = true := by
  intro d
  induction d with
  | zero => intro i; exact ⟨fun h => (by cases h), fun ⟨j, h1, h2, _⟩ => by omega⟩
  | succ d ih =>
    intro i
    unfold anyB
    rw [Bool.or_eq_true, ih]
    constructor
    · rintro (h | ⟨j, h1, h2, h3⟩)
      · exact ⟨i, Nat.le_refl _, by omega, h⟩
      · exact ⟨j, by omega, by omega, h3⟩
    · rintro ⟨j, h1, h2, h3⟩
      by_cases e : j = i
      · subst e; exact Or.inl h3
      · exact Or.inr ⟨j, by omega, by omega, h3⟩
/-! the state -/
def nf (s : Row) : Nat := (s 0).toNatClampNeg
def nh (s : Row) : Nat := (s 1).toNatClampNeg
def fP (s : Row) (h k : Nat) : Nat := (s (30 + 14 * h + k)).toNatClampNeg
def li (s : Row) (h k : Nat) : Nat := (s (30 + 14 * h + 8 + k)).toNatClampNeg
def hd (s : Row) (h : Nat) : Int32 := s (30 + 14 * h + 4)
def rm (s : Row) (f : Nat) : Nat := (s (6 + 2 * f)).toNatClampNeg
def rt (s : Row) (f : Nat) : Nat := (s (6 + 2 * f + 1)).toNatClampNeg
def FlOk (s : Row) (f : Nat) : Prop := (s (6 + 2 * f) = nI (rm s f) ∧ 1 ≤ rm s f ∧ rm s f ≤ 5) ∧ s (6 + 2 * f + 1) = nI (rt s f) ∧ 1 ≤ rt s f ∧ rt s f ≤ 999
def LsOk (s : Row) (h : Nat) : Prop := (s (30 + 14 * h + 7) = nI (fP s h 7) ∧ fP s h 7 ≤ 6) ∧ (∀ k, k < fP s h 7 → s (30 + 14 * h + 8 + k) = nI (li s h k) ∧ li s h k < nf s) ∧ ∀ k k', k < fP s h 7 → k' < fP s h 7 → li s h k = li s h k' → k = k'
def NuOk (s : Row) (h : Nat) : Prop := (s (30 + 14 * h + 0) = nI (fP s h 0) ∧ 1 ≤ fP s h 0 ∧ fP s h 0 ≤ 9) ∧ (s (30 + 14 * h + 1) = nI (fP s h 1) ∧ fP s h 1 ≤ 9999) ∧ (s (30 + 14 * h + 2) = nI (fP s h 2) ∧ fP s h 2 ≤ 999) ∧ (s (30 + 14 * h + 3) = nI (fP s h 3) ∧ fP s h 3 ≤ 3 * fP s h 5) ∧ s (30 + 14 * h + 5) = nI (fP s h 5) ∧ fP s h 5 ≤ 2
def HdOk (s : Row) (h : Nat) : Prop := hd s h = -5 ∨ ∃ f, f < nf s ∧ hd s h = nI f
def HhOk (s : Row) (h : Nat) : Prop := NuOk s h ∧ LsOk s h ∧ HdOk s h
def UqOk (s : Row) : Prop := (∀ h h', h < nh s → h' < nh s → hd s h = hd s h' → hd s h ≠ -5 → h = h') ∧ ∀ h h', h < nh s → h' < nh s → fP s h 2 = fP s h' 2 → fP s h 2 ≠ 0 → h = h'
def Inv (s : Row) : Prop := ((s 0 = nI (nf s) ∧ nf s ≤ 12) ∧ (s 1 = nI (nh s) ∧ nh s ≤ 12)) ∧ ((∀ f, f < nf s → FlOk s f) ∧ (∀ h, h < nh s → HhOk s h)) ∧ UqOk s ∧ s 3 = nI (sumN (fun h => fP s h 5) (nh s))
/-! what it tells -/
def elB (s : Row) (h f : Nat) : Bool := decide (fP s h 0 ≤ 2 * rm s f ∧ rm s f ≤ fP s h 0 + 1 ∧ 3 * rt s f ≤ fP s h 1)
def plO (s : Row) (h : Nat) (x : Int32) : Option Nat := fstO (fun k => decide (s (30 + 14 * h + 8 + k) = x)) 0 (fP s h 7)
def wmB (s : Row) (h : Nat) (x : Int32) : Bool := match plO s h x, plO s h (hd s h) with
  | none, _ => false
  | some _, none => true
  | some k, some k' => decide (k < k')
def hoO (s : Row) (x : Int32) : Option Nat := fstO (fun h => decide (hd s h = x)) 0 (nh s)
def drB (s : Row) (h : Nat) : Bool := decide (fP s h 2 ≠ 0)
def ahB (s : Row) (h o : Nat) : Bool := drB s h && (!drB s o || (decide (fP s o 3 < fP s h 3) || (decide (fP s h 3 = fP s o 3) && decide (fP s h 2 < fP s o 2))))
def poN (s : Row) (h : Nat) : Nat := cntN (fun k => ahB s k h) 0 (nh s)
def atO (s : Row) (r : Int32) : Option Nat := fstO (fun h => drB s h && decide (nI (poN s h) = r)) 0 (nh s)
def drN (s : Row) : Nat := cntN (drB s) 0 (nh s)
def hdN (s : Row) : Nat := cntN (fun h => decide (hd s h ≠ -5)) 0 (nh s)
def hsI (s : Row) : Int32 := orI (fun h => if hd s h = -5 then 0 else (1 : Int32) <<< (hd s h &&& 31)) 0 (nh s) 0
def foK (s : Row) (h : Nat) (tk : Int32) : Option Nat := fstO (fun k => decide ((tk >>> (s (30 + 14 * h + 8 + k) &&& 31)) &&& 1 = 0) && elB s h (li s h k)) 0 (fP s h 7)
def foI (s : Row) (h : Nat) (tk : Int32) : Int32 := match foK s h tk with
  | none => -5
  | some k => s (30 + 14 * h + 8 + k)
def enB (s : Row) (h o : Nat) : Bool := decide (h ≠ o) && (decide (hd s o ≠ -5) && (wmB s h (hd s o) && elB s h (hd s o).toNatClampNeg))
def evI (s : Row) (h o : Nat) : Int32 := if enB s h o = true then (if ahB s h o = true then 2 else 1) else 0
def ptK (s : Row) (h : Nat) : Option Nat := fstO (fun k => (hoO s (s (30 + 14 * h + 8 + k))).isSome && (elB s h (li s h k) && wmB s h (s (30 + 14 * h + 8 + k)))) 0 (fP s h 7)
def ptO (s : Row) (h : Nat) : Option Nat := if hd s h = -5 then none else match ptK s h with
  | none => none
  | some k => hoO s (s (30 + 14 * h + 8 + k))
