/-! THE REFERENCE's questions, over its row -/
theorem Inv.h0 {s : Row} (h : Inv s) : s 0 = nI (nf s) := h.1.1.1
theorem Inv.h0l {s : Row} (h : Inv s) : nf s ≤ 12 := h.1.1.2
theorem Inv.h1 {s : Row} (h : Inv s) : s 1 = nI (nh s) := h.1.2.1
theorem Inv.h1l {s : Row} (h : Inv s) : nh s ≤ 12 := h.1.2.2
theorem Inv.fl {s : Row} (h : Inv s) {f : Nat} (hf : f < nf s) : FlOk s f := h.2.1.1 f hf
theorem Inv.nu {s : Row} (h : Inv s) {k : Nat} (hk : k < nh s) : NuOk s k := (h.2.1.2 k hk).1
theorem Inv.ls {s : Row} (h : Inv s) {k : Nat} (hk : k < nh s) : LsOk s k := (h.2.1.2 k hk).2.1
theorem Inv.hdk {s : Row} (h : Inv s) {k : Nat} (hk : k < nh s) : HdOk s k := (h.2.1.2 k hk).2.2
theorem Inv.uh {s : Row} (h : Inv s) : ∀ a b, a < nh s → b < nh s → hd s a = hd s b → hd s a ≠ -5 → a = b := h.2.2.1.1
theorem Inv.un {s : Row} (h : Inv s) : ∀ a b, a < nh s → b < nh s → fP s a 2 = fP s b 2 → fP s a 2 ≠ 0 → a = b := h.2.2.1.2
theorem inb_ex {a : Int32} {n : Nat} (h : inb a n = true) (hn : n < 2147483648) : ∃ j, j < n ∧ a = nI j := by
  obtain ⟨j, h1, h2⟩ := vp_in_of (inb_in h) hn
  exact ⟨j, h1, h2⟩
theorem in0 {a : Int32} {n : Nat} (hn : n ≤ 12) : decide ((0 : Int32) ≤ a ∧ a ≤ nI n - 1) = inb a n := by
  unfold inb
  have h : (nI n - 1).toInt = (n : Int) - 1 := pk_sub_toInt (b := 1) (by omega) (by omega)
  refine decide_eq_decide.mpr ?_
  rw [Int32.le_iff_toInt_le, Int32.le_iff_toInt_le, h, Int32.toInt_zero]
  constructor <;> rintro ⟨h1, h2⟩ <;> exact ⟨h1, by omega⟩
theorem lstO_none {p : Nat → Bool} {d i : Nat} (hu : ∀ j k, i ≤ j → j < i + d → i ≤ k → k < i + d → p j = true → p k = true → j = k) : lstO p i d none = fstO p i d := by
  rw [lstO_fst hu]
  cases fstO p i d <;> rfl
theorem plO_lt {s : Row} {h k : Nat} {x : Int32} (hp : plO s h x = some k) : k < fP s h 7 := by
  have := (fstO_some hp).2.1
  omega
theorem plO_m5 {s : Row} (hI : Inv s) {h : Nat} (hh : h < nh s) : plO s h (-5) = none := by
  obtain ⟨-, l3, -⟩ := hI.ls hh
  have b0 := hI.h0l
  refine fstO_none.mpr (fun j _ h2 => decide_eq_false (fun q => ?_))
  obtain ⟨a1, a2⟩ := l3 j (by omega)
  rw [a1] at q
  exact nIne5 (by omega) q
/-- the order: ahead of another: a strict order, total on those with a number -/
theorem ahB_iff {s : Row} {h o : Nat} : ahB s h o = true ↔ fP s h 2 ≠ 0 ∧ (fP s o 2 = 0 ∨ fP s o 3 < fP s h 3 ∨ (fP s h 3 = fP s o 3 ∧ fP s h 2 < fP s o 2)) := by
  unfold ahB drB
  simp only [Bool.and_eq_true, Bool.or_eq_true, decide_eq_true_eq, Bool.not_eq_true', decide_eq_false_iff_not, ne_eq, Decidable.not_not]
theorem drB_iff {s : Row} {h : Nat} : drB s h = true ↔ fP s h 2 ≠ 0 := by
  unfold drB
  exact decide_eq_true_iff
theorem cntN_lt {p q : Nat → Bool} {d i k : Nat} (hk : i ≤ k) (hk2 : k < i + d) (hq : q k = true) (hp : p k = false) (h : ∀ j, i ≤ j → j < i + d → p j = true → q j = true) : cntN p i d < cntN q i d := by
  induction d generalizing i with
  | zero => omega
  | succ d ih =>
    unfold cntN
    by_cases e : k = i
    · subst e
      rw [hq, hp, if_neg (by decide), if_pos rfl]
      have : cntN p (k + 1) d ≤ cntN q (k + 1) d := by
        clear ih
        have h2 : ∀ j, k + 1 ≤ j → j < k + 1 + d → p j = true → q j = true := fun j h1 h2 => h j (by omega) (by omega)
        clear h hk hk2 hq hp
        generalize k + 1 = z at h2 ⊢
        induction d generalizing z with
        | zero => exact Nat.le_refl _
        | succ d ih =>
          unfold cntN
          have := ih (z + 1) (fun j a b => h2 j (by omega) (by omega))
          have h3 := h2 z (Nat.le_refl _) (by omega)
          by_cases c : p z = true
          · rw [if_pos c, if_pos (h3 c)]
            omega
          · rw [if_neg c]
            omega
      omega
    · have := ih (i := i + 1) (by omega) (by omega) (fun j h1 h2 => h j (by omega) (by omega))
      have h3 := h i (Nat.le_refl _) (by omega)
      by_cases c : p i = true
      · rw [if_pos c, if_pos (h3 c)]
        omega
      · rw [if_neg c]
        omega
theorem poN_lt {s : Row} (hI : Inv s) {a b : Nat} (ha : a < nh s) (hb : b < nh s) (da : fP s a 2 ≠ 0) (h : ahB s a b = true) : poN s a < poN s b := by
  unfold poN
  refine cntN_lt (k := a) (Nat.zero_le _) (by omega) h ?_ (fun j _ h2 h3 => ?_)
  · refine Bool.eq_false_iff.mpr (fun q => ?_)
    have := ahB_iff.mp q
    omega
  · have h4 := ahB_iff.mp h
    have h5 := ahB_iff.mp h3
    refine ahB_iff.mpr ?_
    omega
theorem poN_inj {s : Row} (hI : Inv s) {a b : Nat} (ha : a < nh s) (hb : b < nh s) (da : drB s a = true) (db : drB s b = true) (h : poN s a = poN s b) : a = b := by
  have da := drB_iff.mp da
  have db := drB_iff.mp db
  by_cases e : a = b
  · exact e
  · have hu : fP s a 2 ≠ fP s b 2 := fun q => e (hI.un a b ha hb q da)
    by_cases c : ahB s a b = true
    · have := poN_lt hI ha hb da c
      omega
    · have c2 : ahB s b a = true := by
        refine ahB_iff.mpr ?_
        have c3 : ¬ (fP s a 2 ≠ 0 ∧ (fP s b 2 = 0 ∨ fP s b 3 < fP s a 3 ∨ (fP s a 3 = fP s b 3 ∧ fP s a 2 < fP s b 2))) := fun q => c (ahB_iff.mpr q)
        omega
      have := poN_lt hI hb ha db c2
      omega
theorem poN_lt12 {s : Row} (hI : Inv s) {h : Nat} : poN s h ≤ 12 := by
  have := hI.h1l
  have h2 : poN s h ≤ nh s := cntN_le
  omega
