/-! A RING SWAPS -/
def swL (s : Row) (a : Nat) : Nat → Row
  | 0 => s
  | k + 1 => ur (swL s a k) (30 + 14 * vA s a k + 4) (hd s (vA s a (k + 1)))
theorem swL_ne {s : Row} {a : Nat} {i : Nat} : ∀ {k : Nat}, (∀ j, j < k → i ≠ 30 + 14 * vA s a j + 4) → swL s a k i = s i := by
  intro k
  induction k with
  | zero => intro _; rfl
  | succ k ih =>
    intro h
    show ur (swL s a k) (30 + 14 * vA s a k + 4) (hd s (vA s a (k + 1))) i = s i
    rw [ur_ne (h k (by omega))]
    exact ih (fun j hj => h j (by omega))
theorem swL_hd_ne {s : Row} {a o : Nat} {k : Nat} (h : ∀ j, j < k → o ≠ vA s a j) : hd (swL s a k) o = hd s o := swL_ne (fun j hj => by
  have := h j hj
  omega)
theorem swL_hd {s : Row} {a m : Nat} (r : Ring s a m) : ∀ {k : Nat}, k ≤ m → ∀ {j : Nat}, j < k → hd (swL s a k) (vA s a j) = hd s (vA s a (j + 1)) := by
  intro k
  induction k with
  | zero => intro _ j hj; omega
  | succ k ih =>
    intro hk j hj
    show hd (ur (swL s a k) (30 + 14 * vA s a k + 4) (hd s (vA s a (k + 1)))) (vA s a j) = _
    by_cases e : j = k
    · subst e
      exact hd_ur
    · rw [hd_ur_ne (fun q => e (r.inj (by omega) (by omega) q))]
      exact ih (by omega) (by omega)
/-- a number that is not one of a household's flats stays -/
theorem swL_fld {s : Row} {a i : Nat} (h : ∀ o, i ≠ 30 + 14 * o + 4) {k : Nat} : swL s a k i = s i := swL_ne (fun j _ => h _)
theorem swL_nh {s : Row} {a k : Nat} : nh (swL s a k) = nh s := by
  unfold nh
  rw [swL_fld (fun o => by omega)]
theorem swL_nf {s : Row} {a k : Nat} : nf (swL s a k) = nf s := by
  unfold nf
  rw [swL_fld (fun o => by omega)]
theorem swL_Zr {s : Row} (hI : Inv s) (hZ : Zr s) {a m : Nat} (ha : a < nh s) (r : Ring s a m) {k : Nat} (hk : k ≤ m) : Zr (swL s a k) := fun i hi => by
  have b1 := hI.h1l
  rw [swL_ne (fun j hj => by
    have := r.lt ha (k := j) (by omega)
    omega)]
  exact hZ i hi
theorem swL_inv {s : Row} (hI : Inv s) {a m : Nat} (ha : a < nh s) (r : Ring s a m) : Inv (swL s a m) := by
  have b0 := hI.h0l
  have b1 := hI.h1l
  have cs : ∀ o, (∃ k, k < m ∧ o = vA s a k) ∨ (∀ j, j < m → o ≠ vA s a j) := fun o => by
    by_cases h : ∃ k, k < m ∧ o = vA s a k
    · exact Or.inl h
    · exact Or.inr (fun j hj q => h ⟨j, hj, q⟩)
  have fs : ∀ o k, k < 14 → k ≠ 4 → swL s a m (30 + 14 * o + k) = s (30 + 14 * o + k) := fun o k hk h4 => swL_fld (fun p => by omega)
  refine ⟨⟨⟨?_, ?_⟩, ?_, ?_⟩, ⟨fun f hf => ?_, fun o ho => ⟨?_, ?_, ?_⟩⟩, ⟨fun x y hx hy hq hne => ?_, fun x y hx hy hq hne => ?_⟩, ?_⟩
  · rw [swL_nf, swL_fld (fun o => by omega)]
    exact hI.h0
  · rw [swL_nf]
    exact b0
  · rw [swL_nh, swL_fld (fun o => by omega)]
    exact hI.h1
  · rw [swL_nh]
    exact b1
  · rw [swL_nf] at hf
    have := hI.fl hf
    unfold FlOk rm rt at *
    rw [swL_fld (i := 6 + 2 * f) (fun o => by omega), swL_fld (i := 6 + 2 * f + 1) (fun o => by omega)]
    exact this
  · rw [swL_nh] at ho
    exact (hI.nu ho).co2 (fun k hk h4 => fs o k (by omega) h4)
  · rw [swL_nh] at ho
    exact (hI.ls ho).co2 swL_nf (fun k h7 hk => fs o k hk (by omega))
  · rw [swL_nh] at ho
    unfold HdOk
    rw [swL_nf]
    rcases cs o with ⟨k, k1, rfl⟩ | h
    · rw [swL_hd r (Nat.le_refl _) k1]
      exact hI.hdk (r.lt ha (by omega))
    · rw [swL_hd_ne h]
      exact hI.hdk ho
  · rw [swL_nh] at hx hy
    rcases cs x with ⟨k, k1, rfl⟩ | h
    · rw [swL_hd r (Nat.le_refl _) k1] at hq hne
      rcases cs y with ⟨k', k2, rfl⟩ | h'
      · rw [swL_hd r (Nat.le_refl _) k2] at hq
        have e := hI.uh _ _ (r.lt ha (by omega)) (r.lt ha (by omega)) hq hne
        have key : ∀ i j, i < m → j < m → vA s a (i + 1) = vA s a (j + 1) → i ≤ j := by
          intro i j hi hj he
          by_cases c1 : i + 1 < m
          · by_cases c2 : j + 1 < m
            · have := r.inj c1 c2 he
              omega
            · omega
          · by_cases c2 : j + 1 < m
            · rw [show i + 1 = m by omega, r.end_] at he
              have := r.inj (i := 0) (j := j + 1) (by omega) c2 he
              omega
            · omega
        have e1 := key k k' k1 k2 e
        have e2 := key k' k k2 k1 e.symm
        rw [show k = k' by omega]
      · rw [swL_hd_ne h'] at hq
        have e := hI.uh _ _ (r.lt ha (by omega)) hy hq hne
        exfalso
        by_cases c1 : k + 1 < m
        · exact h' (k + 1) c1 e.symm
        · rw [show k + 1 = m by omega, r.end_] at e
          exact h' 0 (by omega) e.symm
    · rw [swL_hd_ne h] at hq hne
      rcases cs y with ⟨k', k2, rfl⟩ | h'
      · rw [swL_hd r (Nat.le_refl _) k2] at hq
        have e := hI.uh _ _ hx (r.lt ha (by omega)) hq hne
        exfalso
        by_cases c1 : k' + 1 < m
        · exact h (k' + 1) c1 e
        · rw [show k' + 1 = m by omega, r.end_] at e
          exact h 0 (by omega) e
      · rw [swL_hd_ne h'] at hq
        exact hI.uh x y hx hy hq hne
  · rw [swL_nh] at hx hy
    unfold fP at hq hne
    rw [fs x 2 (by omega) (by omega)] at hq hne
    rw [fs y 2 (by omega) (by omega)] at hq
    exact hI.un x y hx hy hq hne
  · rw [swL_fld (fun o => by omega), swL_nh, hI.2.2.2]
    congr 1
    refine sumN_congr (fun i _ => ?_)
    unfold fP
    rw [fs i 5 (by omega) (by omega)]
/-! it ends -/
def plc (s : Row) (h : Nat) : Nat := match plO s h (hd s h) with
  | none => 6
  | some k => k
def pot (s : Row) : Nat := sumN (plc s) (nh s)
theorem sumN_le {f : Nat → Nat} {c : Nat} : ∀ {n : Nat}, (∀ i, i < n → f i ≤ c) → sumN f n ≤ c * n := by
  intro n
  induction n with
  | zero => intro _; exact Nat.zero_le _
  | succ n ih =>
    intro h
    unfold sumN
    have h1 := ih (fun i hi => h i (by omega))
    have h2 := h n (by omega)
    rw [Nat.mul_succ]
    omega
theorem sumN_lt {f g : Nat → Nat} : ∀ {n : Nat}, (∀ i, i < n → f i ≤ g i) → ∀ {k : Nat}, k < n → f k < g k → sumN f n < sumN g n := by
  intro n
  induction n with
  | zero => intro _ k hk; omega
  | succ n ih =>
    intro h k hk hlt
    unfold sumN
    have hn := h n (by omega)
    by_cases e : k = n
    · subst e
      have : sumN f k ≤ sumN g k := by
        clear ih hk hlt hn
        have h' : ∀ i, i < k → f i ≤ g i := fun i hi => h i (by omega)
        clear h
        induction k with
        | zero => exact Nat.le_refl _
        | succ k ih =>
          unfold sumN
          have a1 := ih (fun i hi => h' i (by omega))
          have a2 := h' k (by omega)
          omega
      omega
    · have := ih (fun i hi => h i (by omega)) (k := k) (by omega) hlt
      omega
theorem plc_le {s : Row} (hI : Inv s) {h : Nat} (hh : h < nh s) : plc s h ≤ 6 := by
  have h1 := (hI.ls hh).1.2
  unfold plc
  cases hq : plO s h (hd s h) with
  | none => exact Nat.le_refl _
  | some k =>
    have := plO_lt hq
    show k ≤ 6
    omega
theorem pot_le {s : Row} (hI : Inv s) : pot s ≤ 72 := by
  have b1 := hI.h1l
  have : pot s ≤ 6 * nh s := sumN_le (fun i hi => plc_le hI hi)
  omega
theorem ptO_wm {s : Row} (hI : Inv s) {h o : Nat} (hh : h < nh s) (hp : ptO s h = some o) : ∃ k, plO s h (hd s o) = some k ∧ k < plc s h := by
  unfold ptO at hp
  by_cases c : hd s h = -5
  · rw [if_pos c] at hp
    cases hp
  · rw [if_neg c] at hp
    cases hq : ptK s h with
    | none => rw [hq] at hp; cases hp
    | some k =>
      rw [hq] at hp
      have h1 := (hoO_lt hp).2
      obtain ⟨-, q2, q3, -⟩ := fstO_some hq
      rw [Bool.and_eq_true, Bool.and_eq_true] at q3
      have q4 := q3.2.2
      rw [wmB_at hI hh (by omega)] at q4
      refine ⟨k, ?_, ?_⟩
      · rw [h1]
        exact plO_at hI hh (by omega)
      · unfold plc
        have l2 := (hI.ls hh).1.2
        cases hr : plO s h (hd s h) with
        | none =>
          show k < 6
          omega
        | some k' =>
          rw [hr] at q4
          exact of_decide_eq_true q4
theorem swL_plO {s : Row} (hI : Inv s) {a k o : Nat} (ho : o < nh s) (x : Int32) : plO (swL s a k) o x = plO s o x := by
  have l2 := (hI.ls ho).1.2
  have e7 : fP (swL s a k) o 7 = fP s o 7 := by
    unfold fP
    rw [swL_fld (fun p => by omega)]
  unfold plO
  rw [e7]
  refine fstO_congr (fun j _ h2 => ?_)
  rw [swL_fld (fun p => by omega)]
theorem pot_lt {s : Row} (hI : Inv s) {a m : Nat} (ha : a < nh s) (r : Ring s a m) : pot (swL s a m) < pot s := by
  have cs : ∀ o, (∃ k, k < m ∧ o = vA s a k) ∨ (∀ j, j < m → o ≠ vA s a j) := fun o => by
    by_cases h : ∃ k, k < m ∧ o = vA s a k
    · exact Or.inl h
    · exact Or.inr (fun j hj q => h ⟨j, hj, q⟩)
  have low : ∀ k, k < m → plc (swL s a m) (vA s a k) < plc s (vA s a k) := by
    intro k hk
    have hl := r.lt ha (k := k) (by omega)
    obtain ⟨j, j1, j2⟩ := ptO_wm hI hl (r.nx hk)
    have : plc (swL s a m) (vA s a k) = j := by
      unfold plc
      rw [swL_hd r (Nat.le_refl _) hk, swL_plO hI hl, j1]
    omega
  unfold pot
  rw [swL_nh]
  refine sumN_lt (fun i hi => ?_) (k := a) ha ?_
  · rcases cs i with ⟨k, k1, rfl⟩ | h
    · exact Nat.le_of_lt (low k k1)
    · refine Nat.le_of_eq ?_
      unfold plc
      rw [swL_hd_ne h, swL_plO hI hi]
  · exact low 0 r.1
/-- the period -/
def peN (s : Row) (a : Nat) : Nat := (fstO (fun m => decide (itP s m (some a) = some a)) 1 (nh s)).getD 0
theorem peN_ring {s : Row} {a : Nat} (ha : a < nh s) (h : rgB s a = true) : Ring s a (peN s a) := by
  obtain ⟨m, r⟩ := (rgB_iff ha).mp h
  have hm : fstO (fun m => decide (itP s m (some a) = some a)) 1 (nh s) = some m := by
    have := r.le ha
    exact fstO_of r.1 (by omega) (decide_eq_true r.2.1) (fun j h1 h2 => decide_eq_false (r.2.2 j h1 h2))
  unfold peN
  rw [hm]
  exact r
def swA : Nat → Row → Nat → Row × Nat
  | 0, s, c => (s, c)
  | d + 1, s, c => match loO s with
    | none => (s, c)
    | some a => swA d (swL s a (peN s a)) (c + peN s a)
theorem loO_some {s : Row} {a : Nat} (h : loO s = some a) : a < nh s ∧ Ring s a (peN s a) := by
  obtain ⟨-, h2, h3, -⟩ := fstO_some h
  exact ⟨by omega, peN_ring (by omega) h3⟩
theorem swA_inv : ∀ {d : Nat} {s : Row} {c : Nat}, Inv s → Zr s → Inv (swA d s c).1 ∧ Zr (swA d s c).1 := by
  intro d
  induction d with
  | zero => intro s c hI hZ; exact ⟨hI, hZ⟩
  | succ d ih =>
    intro s c hI hZ
    unfold swA
    cases hq : loO s with
    | none => exact ⟨hI, hZ⟩
    | some a =>
      obtain ⟨ha, r⟩ := loO_some hq
      exact ih (swL_inv hI ha r) (swL_Zr hI hZ ha r (Nat.le_refl _))
/-! the reference swaps -/
theorem lt_e {M : Mem} {k : Mem → Option (Int32 × Mem)} : lt_ M k = k M := rfl
theorem up_up {M : Mem} {i k : Nat} {v w : Int32} : up (up M i k v) i k w = up M i k w := by
  funext x y
  unfold up
  split <;> rfl
