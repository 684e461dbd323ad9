/-! a row that changes in one place -/
def ur (s : Row) (i : Nat) (v : Int32) : Row := fun b => if b = i then v else s b
theorem ur_ne {s : Row} {i j : Nat} {v : Int32} (h : i ≠ j) : ur s j v i = s i := if_neg h
theorem ur_eq {s : Row} {j : Nat} {v : Int32} : ur s j v j = v := if_pos rfl
theorem ur_id {s : Row} {j : Nat} : ur s j (s j) = s := by
  funext b
  unfold ur
  split
  · subst_vars; rfl
  · rfl
theorem ur_comm {s : Row} {i j : Nat} {v w : Int32} (h : i ≠ j) : ur (ur s i v) j w = ur (ur s j w) i v := by
  funext b
  unfold ur
  by_cases c1 : b = j
  · subst c1
    rw [if_pos rfl, if_neg (Ne.symm h), if_pos rfl]
  · rw [if_neg c1, if_neg c1]
theorem up_row {M : Mem} {i k : Nat} {v : Int32} : up M i k v i = ur (M i) k v := by
  rw [up_eq]
  rfl
/-- what stays with another household, another field -/
def Agr (s s' : Row) (h : Nat) : Prop := ∀ i, i ≠ 2 → i ≠ 3 → i ≠ 4 → i ≠ 5 → (i < 30 + 14 * h ∨ 30 + 14 * h + 14 ≤ i) → s' i = s i
theorem Agr.xnf {s s' : Row} {h : Nat} (g : Agr s s' h) : nf s' = nf s := by
  unfold nf
  rw [g 0 (by omega) (by omega) (by omega) (by omega) (by omega)]
theorem Agr.xnh {s s' : Row} {h : Nat} (g : Agr s s' h) : nh s' = nh s := by
  unfold nh
  rw [g 1 (by omega) (by omega) (by omega) (by omega) (by omega)]
theorem Agr.xfP {s s' : Row} {h : Nat} (g : Agr s s' h) {o k : Nat} (ho : o ≠ h) (hk : k < 14) : fP s' o k = fP s o k := by
  unfold fP
  rw [g (30 + 14 * o + k) (by omega) (by omega) (by omega) (by omega) (by omega)]
theorem Agr.xhd {s s' : Row} {h : Nat} (g : Agr s s' h) {o : Nat} (ho : o ≠ h) : hd s' o = hd s o := by
  unfold hd
  rw [g (30 + 14 * o + 4) (by omega) (by omega) (by omega) (by omega) (by omega)]
theorem sumN_congr {f g : Nat → Nat} : ∀ {n : Nat}, (∀ i, i < n → f i = g i) → sumN f n = sumN g n := by
  intro n
  induction n with
  | zero => intro _; rfl
  | succ n ih =>
    intro h
    unfold sumN
    rw [ih (fun i hi => h i (by omega)), h n (by omega)]
theorem LsOk.co2 {s s' : Row} {o : Nat} (h : LsOk s o) (hf : nf s' = nf s) (hb : ∀ k, 7 ≤ k → k < 14 → s' (30 + 14 * o + k) = s (30 + 14 * o + k)) : LsOk s' o := by
  obtain ⟨⟨h1, h2⟩, h3, h4⟩ := h
  have e7 : fP s' o 7 = fP s o 7 := by
    unfold fP
    rw [hb 7 (by omega) (by omega)]
  have ek : ∀ k, k < 6 → li s' o k = li s o k := fun k hk => by
    unfold li
    rw [show 30 + 14 * o + 8 + k = 30 + 14 * o + (8 + k) by omega, hb (8 + k) (by omega) (by omega)]
  unfold LsOk
  rw [e7, hb 7 (by omega) (by omega), hf]
  refine ⟨⟨h1, h2⟩, fun k hk => ?_, fun k k' hk hk' hq => ?_⟩
  · rw [ek k (by omega), show 30 + 14 * o + 8 + k = 30 + 14 * o + (8 + k) by omega, hb (8 + k) (by omega) (by omega), show 30 + 14 * o + (8 + k) = 30 + 14 * o + 8 + k by omega]
    exact h3 k hk
  · rw [ek k (by omega), ek k' (by omega)] at hq
    exact h4 k k' hk hk' hq
theorem LsOk.co {s s' : Row} {o : Nat} (h : LsOk s o) (hf : nf s' = nf s) (hb : ∀ k, k < 14 → s' (30 + 14 * o + k) = s (30 + 14 * o + k)) : LsOk s' o := h.co2 hf (fun k _ hk => hb k hk)
theorem NuOk.co2 {s s' : Row} {o : Nat} (h : NuOk s o) (hb : ∀ k, k < 6 → k ≠ 4 → s' (30 + 14 * o + k) = s (30 + 14 * o + k)) : NuOk s' o := by
  unfold NuOk fP at *
  rw [hb 0 (by omega) (by omega), hb 1 (by omega) (by omega), hb 2 (by omega) (by omega), hb 3 (by omega) (by omega), hb 5 (by omega) (by omega)]
  exact h
theorem NuOk.co {s s' : Row} {o : Nat} (h : NuOk s o) (hb : ∀ k, k < 14 → s' (30 + 14 * o + k) = s (30 + 14 * o + k)) : NuOk s' o := h.co2 (fun k hk _ => hb k (by omega))
theorem HdOk.co {s s' : Row} {o : Nat} (h : HdOk s o) (hf : nf s' = nf s) (hb : s' (30 + 14 * o + 4) = s (30 + 14 * o + 4)) : HdOk s' o := by
  unfold HdOk hd at *
  rw [hb, hf]
  exact h
theorem Inv.hh {s s' : Row} {h : Nat} (hI : Inv s) (g : Agr s s' h) (hh : h < nh s) (hN : NuOk s' h) (hL : LsOk s' h) (hH : HdOk s' h) (hu1 : hd s' h ≠ -5 → ∀ o, o < nh s → o ≠ h → hd s o ≠ hd s' h) (hu2 : fP s' h 2 ≠ 0 → ∀ o, o < nh s → o ≠ h → fP s o 2 ≠ fP s' h 2) (h3 : s' 3 = nI (sumN (fun h => fP s' h 5) (nh s))) : Inv s' := by
  have b0 := hI.h0l
  have b1 := hI.h1l
  refine ⟨⟨⟨?_, ?_⟩, ?_, ?_⟩, ⟨fun f hf => ?_, fun o ho => ?_⟩, ⟨fun a b ha hb hq hne => ?_, fun a b ha hb hq hne => ?_⟩, ?_⟩
  · rw [g.xnf, g 0 (by omega) (by omega) (by omega) (by omega) (by omega)]
    exact hI.h0
  · rw [g.xnf]
    exact b0
  · rw [g.xnh, g 1 (by omega) (by omega) (by omega) (by omega) (by omega)]
    exact hI.h1
  · rw [g.xnh]
    exact b1
  · rw [g.xnf] at hf
    have := hI.fl hf
    unfold FlOk rm rt at *
    rw [g (6 + 2 * f) (by omega) (by omega) (by omega) (by omega) (by omega), g (6 + 2 * f + 1) (by omega) (by omega) (by omega) (by omega) (by omega)]
    exact this
  · rw [g.xnh] at ho
    by_cases e : o = h
    · subst e
      exact ⟨hN, hL, hH⟩
    · have hb : ∀ k, k < 14 → s' (30 + 14 * o + k) = s (30 + 14 * o + k) := fun k hk => g _ (by omega) (by omega) (by omega) (by omega) (by omega)
      exact ⟨(hI.nu ho).co hb, (hI.ls ho).co g.xnf hb, (hI.hdk ho).co g.xnf (hb 4 (by omega))⟩
  · rw [g.xnh] at ha hb
    by_cases e1 : a = h
    · by_cases e2 : b = h
      · rw [e1, e2]
      · rw [g.xhd e2] at hq
        subst e1
        exact absurd hq.symm (hu1 hne b hb e2)
    · by_cases e2 : b = h
      · subst e2
        rw [g.xhd e1] at hq hne
        exact absurd hq (hu1 (by rw [← hq]; exact hne) a ha e1)
      · rw [g.xhd e1, g.xhd e2] at hq
        rw [g.xhd e1] at hne
        exact hI.uh a b ha hb hq hne
  · rw [g.xnh] at ha hb
    by_cases e1 : a = h
    · by_cases e2 : b = h
      · rw [e1, e2]
      · rw [g.xfP e2 (by omega)] at hq
        subst e1
        exact absurd hq.symm (hu2 hne b hb e2)
    · by_cases e2 : b = h
      · subst e2
        rw [g.xfP e1 (by omega)] at hq hne
        exact absurd hq (hu2 (by rw [← hq]; exact hne) a ha e1)
      · rw [g.xfP e1 (by omega), g.xfP e2 (by omega)] at hq
        rw [g.xfP e1 (by omega)] at hne
        exact hI.un a b ha hb hq hne
  · rw [g.xnh]
    exact h3
theorem HR.co {M M' : Mem} {st o : Nat} {s s' : Row} (h : HR M st s o) (hl : fP s o 7 ≤ 6) (hb : ∀ k, k < 14 → s' (30 + 14 * o + k) = s (30 + 14 * o + k)) (h1 : M' (st + 16 + 2 * o) = M (st + 16 + 2 * o)) (h2 : M' (st + 16 + 2 * o + 1) = M (st + 16 + 2 * o + 1)) : HR M' st s' o := by
  have e7 : fP s' o 7 = fP s o 7 := by
    unfold fP
    rw [hb 7 (by omega)]
  have en : noI s' o = noI s o := by
    unfold noI drB fP
    rw [hb 2 (by omega)]
  obtain ⟨a1, a2, a3, a4, a5, a6, a7, a8, a9⟩ := h
  unfold HR hd at *
  rw [h1, h2, e7, en, hb 7 (by omega), hb 0 (by omega), hb 1 (by omega), hb 3 (by omega), hb 4 (by omega), hb 5 (by omega), hb 6 (by omega)]
  refine ⟨a1, a2, a3, a4, a5, a6, a7, a8, fun k hk => ?_⟩
  rw [show 30 + 14 * o + 8 + k = 30 + 14 * o + (8 + k) by omega, hb (8 + k) (by omega), a9 k hk, show 30 + 14 * o + 8 + k = 30 + 14 * o + (8 + k) by omega]
theorem RS.hh0 {M M' : Mem} {st h : Nat} {s s' : Row} (R : RS M st s) (b0 : nf s ≤ 12) (b1 : nh s ≤ 12) (hl : ∀ o, o < nh s → fP s o 7 ≤ 6) (g : Agr s s' h) (hM : ∀ i, st + 4 ≤ i → i < st + 40 → i ≠ st + 16 + 2 * h → i ≠ st + 16 + 2 * h + 1 → M' i = M i) (hc : M' st 2 = M st 2 ∧ M' st 3 = M st 3 ∧ M' st 4 = s' 2 ∧ M' st 5 = s' 4 ∧ M' st 6 = s' 5) (hH : h < nh s → HR M' st s' h) : RS M' st s' := by
  obtain ⟨c1, c2, c3, c4, c5⟩ := hc
  refine ⟨⟨?_, ?_, c3, c4, c5⟩, fun f hf => ?_, fun o ho => ?_⟩
  · rw [c1, g 0 (by omega) (by omega) (by omega) (by omega) (by omega)]
    exact R.n0
  · rw [c2, g 1 (by omega) (by omega) (by omega) (by omega) (by omega)]
    exact R.n1
  · rw [g.xnf] at hf
    rw [hM (st + 4 + f) (by omega) (by omega) (by omega) (by omega), g (6 + 2 * f) (by omega) (by omega) (by omega) (by omega) (by omega), g (6 + 2 * f + 1) (by omega) (by omega) (by omega) (by omega) (by omega)]
    exact R.fl hf
  · rw [g.xnh] at ho
    by_cases e : o = h
    · subst e
      exact hH ho
    · exact (R.hr ho).co (hl o ho) (fun k hk => g _ (by omega) (by omega) (by omega) (by omega) (by omega)) (hM _ (by omega) (by omega) (by omega) (by omega)) (hM _ (by omega) (by omega) (by omega) (by omega))
theorem RS.hh {M M' : Mem} {st h : Nat} {s s' : Row} (R : RS M st s) (hI : Inv s) (g : Agr s s' h) (hM : ∀ i, st + 4 ≤ i → i < st + 40 → i ≠ st + 16 + 2 * h → i ≠ st + 16 + 2 * h + 1 → M' i = M i) (hc : M' st 2 = M st 2 ∧ M' st 3 = M st 3 ∧ M' st 4 = s' 2 ∧ M' st 5 = s' 4 ∧ M' st 6 = s' 5) (hH : h < nh s → HR M' st s' h) : RS M' st s' := R.hh0 hI.h0l hI.h1l (fun _ ho => (hI.ls ho).1.2) g hM hc hH
theorem RS_held {M : Mem} {st h : Nat} {t : Row} {v : Int32} (R : RS M st t) (b0 : nf t ≤ 12) (b1 : nh t ≤ 12) (hl : ∀ o, o < nh t → fP t o 7 ≤ 6) : RS (up M (st + 16 + 2 * h) 6 v) st (ur t (30 + 14 * h + 4) v) := by
  obtain ⟨c1, c2, c3, c4, c5⟩ := R.1
  refine R.hh0 b0 b1 hl (h := h) (fun i _ _ _ _ h5 => ur_ne (by omega)) (fun j _ _ h3 h4 => up_ne h3) ?_ (fun hh => ?_)
  · rw [up_ne (by omega), ur_ne (by omega), ur_ne (by omega), ur_ne (by omega)]
    exact ⟨rfl, rfl, c3, c4, c5⟩
  · obtain ⟨a1, a2, a3, a4, a5, a6, a7, a8, a9⟩ := R.hr hh
    have ef : fP (ur t (30 + 14 * h + 4) v) h 7 = fP t h 7 := by
      unfold fP
      rw [ur_ne (by omega)]
    have en : noI (ur t (30 + 14 * h + 4) v) h = noI t h := by
      unfold noI drB fP
      rw [ur_ne (by omega)]
    unfold HR
    rw [show hd (ur t (30 + 14 * h + 4) v) h = v from ur_eq, ef, en, up_other (by omega), up_other (by omega), up_other (by omega), up_other (by omega), up_other (by omega), up_same, up_other (by omega), up_other (by omega), ur_ne (by omega), ur_ne (by omega), ur_ne (by omega), ur_ne (by omega), ur_ne (by omega), ur_ne (by omega)]
    refine ⟨a1, a2, a3, a4, a5, rfl, a7, a8, fun k hk => ?_⟩
    rw [up_other (by omega), ur_ne (by omega)]
    exact a9 k hk
theorem Agr.up {s : Row} {h k : Nat} {v : Int32} (hk : k < 14) : Agr s (ur s (30 + 14 * h + k) v) h := fun i _ _ _ _ h5 => ur_ne (by omega)
def Zr (s : Row) : Prop := ∀ i, 198 ≤ i → s i = 0
theorem Zr.up {s : Row} {i : Nat} {v : Int32} (h : Zr s) (hi : i < 198) : Zr (ur s i v) := fun j hj => by
  rw [ur_ne (by omega)]
  exact h j hj
