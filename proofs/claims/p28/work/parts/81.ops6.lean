/-! a new flat, a new household -/
def adF (s : Row) (a b : Int32) : Row := ur (ur (ur s (6 + 2 * nf s) a) (6 + 2 * nf s + 1) b) 0 (nI (nf s + 1))
theorem adF_ne {s : Row} {a b : Int32} {i : Nat} (h0 : i ≠ 0) (h1 : i ≠ 6 + 2 * nf s) (h2 : i ≠ 6 + 2 * nf s + 1) : adF s a b i = s i := by
  unfold adF
  rw [ur_ne h0, ur_ne h2, ur_ne h1]
theorem adF_nf {s : Row} (h : nf s < 12) {a b : Int32} : nf (adF s a b) = nf s + 1 := by
  show (adF s a b 0).toNatClampNeg = _
  rw [show adF s a b 0 = nI (nf s + 1) from ur_eq, nN (by omega)]
theorem adF_nh {s : Row} (h : nf s < 12) {a b : Int32} : nh (adF s a b) = nh s := by
  unfold nh
  rw [adF_ne (by omega) (by omega) (by omega)]
theorem adF_inv {s : Row} (hI : Inv s) (hn : nf s < 12) {j k : Nat} (j1 : 1 ≤ j) (j2 : j ≤ 5) (k1 : 1 ≤ k) (k2 : k ≤ 999) : Inv (adF s (nI j) (nI k)) := by
  have hb : ∀ o i, i < 14 → adF s (nI j) (nI k) (30 + 14 * o + i) = s (30 + 14 * o + i) := fun o i hi => adF_ne (by omega) (by omega) (by omega)
  have ef : ∀ o i, i < 14 → fP (adF s (nI j) (nI k)) o i = fP s o i := fun o i hi => by
    unfold fP
    rw [hb o i hi]
  have eh : ∀ o, hd (adF s (nI j) (nI k)) o = hd s o := fun o => hb o 4 (by omega)
  refine ⟨⟨⟨?_, ?_⟩, ?_, ?_⟩, ⟨fun f hf => ?_, fun o ho => ⟨?_, ?_, ?_⟩⟩, ⟨fun a b ha hb2 hq hne => ?_, fun a b ha hb2 hq hne => ?_⟩, ?_⟩
  · rw [adF_nf hn]
    exact ur_eq
  · rw [adF_nf hn]
    omega
  · rw [adF_nh hn, adF_ne (by omega) (by omega) (by omega)]
    exact hI.h1
  · rw [adF_nh hn]
    exact hI.h1l
  · rw [adF_nf hn] at hf
    by_cases e : f = nf s
    · subst e
      have v1 : adF s (nI j) (nI k) (6 + 2 * nf s) = nI j := by
        unfold adF
        rw [ur_ne (by omega), ur_ne (by omega), ur_eq]
      have v2 : adF s (nI j) (nI k) (6 + 2 * nf s + 1) = nI k := by
        unfold adF
        rw [ur_ne (by omega), ur_eq]
      unfold FlOk rm rt
      rw [v1, v2, nN (by omega), nN (by omega)]
      exact ⟨⟨rfl, j1, j2⟩, rfl, k1, k2⟩
    · have := hI.fl (show f < nf s by omega)
      unfold FlOk rm rt at *
      rw [adF_ne (by omega) (by omega) (by omega), adF_ne (i := 6 + 2 * f + 1) (by omega) (by omega) (by omega)]
      exact this
  · rw [adF_nh hn] at ho
    exact (hI.nu ho).co (hb o)
  · rw [adF_nh hn] at ho
    obtain ⟨⟨l1, l2⟩, l3, l4⟩ := hI.ls ho
    have el : ∀ i, i < 6 → adF s (nI j) (nI k) (30 + 14 * o + 8 + i) = s (30 + 14 * o + 8 + i) := fun i hi => adF_ne (by omega) (by omega) (by omega)
    have ek : ∀ i, i < 6 → li (adF s (nI j) (nI k)) o i = li s o i := fun i hi => by
      unfold li
      rw [el i hi]
    unfold LsOk
    rw [ef o 7 (by omega), hb o 7 (by omega), adF_nf hn]
    refine ⟨⟨l1, l2⟩, fun i hi => ?_, fun i i' hi hi' hq => ?_⟩
    · rw [el i (by omega), ek i (by omega)]
      exact ⟨(l3 i hi).1, Nat.lt_succ_of_lt (l3 i hi).2⟩
    · rw [ek i (by omega), ek i' (by omega)] at hq
      exact l4 i i' hi hi' hq
  · rw [adF_nh hn] at ho
    unfold HdOk
    rw [eh, adF_nf hn]
    rcases hI.hdk ho with h1 | ⟨f, h1, h2⟩
    · exact Or.inl h1
    · exact Or.inr ⟨f, Nat.lt_succ_of_lt h1, h2⟩
  · rw [adF_nh hn] at ha hb2
    rw [eh, eh] at hq
    rw [eh] at hne
    exact hI.uh a b ha hb2 hq hne
  · rw [adF_nh hn] at ha hb2
    rw [ef a 2 (by omega)] at hq hne
    rw [ef b 2 (by omega)] at hq
    exact hI.un a b ha hb2 hq hne
  · rw [adF_nh hn, adF_ne (by omega) (by omega) (by omega), hI.2.2.2]
    congr 1
    exact sumN_congr (fun i _ => (ef i 5 (by omega)).symm)
theorem n12eq {k : Nat} (h : k ≤ 12) : nI k = (12 : Int32) ↔ k = 12 := nIeq (b := 12) (by omega) (by omega)
theorem n12lt {k : Nat} (h : k ≤ 12) : nI k < (12 : Int32) ↔ k < 12 := nIlt (b := 12) (by omega) (by omega)
def zrB (s : Row) (n i : Nat) : Row := fun q => if 30 + 14 * n ≤ q ∧ q < 30 + 14 * n + i then 0 else s q
def adH (s : Row) (a b : Int32) : Row := ur (ur (ur (ur (zrB s (nh s) 14) (30 + 14 * nh s + 0) a) (30 + 14 * nh s + 1) b) (30 + 14 * nh s + 4) (-5)) 1 (nI (nh s + 1))
theorem adH_ne {s : Row} {a b : Int32} {i : Nat} (h1 : i ≠ 1) (h2 : i < 30 + 14 * nh s ∨ 30 + 14 * nh s + 14 ≤ i) : adH s a b i = s i := by
  unfold adH zrB
  rw [ur_ne h1, ur_ne (by omega), ur_ne (by omega), ur_ne (by omega), if_neg (by omega)]
theorem adH_new {s : Row} {a b : Int32} {k : Nat} (hk : k < 14) : adH s a b (30 + 14 * nh s + k) = if k = 0 then a else if k = 1 then b else if k = 4 then -5 else 0 := by
  unfold adH
  rw [ur_ne (by omega)]
  by_cases c4 : k = 4
  · subst c4
    rw [ur_eq]
    rfl
  · rw [ur_ne (by omega)]
    by_cases c1 : k = 1
    · subst c1
      rw [ur_eq]
      rfl
    · rw [ur_ne (by omega)]
      by_cases c0 : k = 0
      · subst c0
        rw [ur_eq]
        rfl
      · rw [ur_ne (by omega), if_neg c0, if_neg c1, if_neg c4]
        unfold zrB
        rw [if_pos (by omega)]
theorem adH_nh {s : Row} (h : nh s < 12) {a b : Int32} : nh (adH s a b) = nh s + 1 := by
  show (adH s a b 1).toNatClampNeg = _
  rw [show adH s a b 1 = nI (nh s + 1) from ur_eq, nN (by omega)]
theorem adH_nf {s : Row} {a b : Int32} : nf (adH s a b) = nf s := by
  unfold nf
  rw [adH_ne (by omega) (by omega)]
theorem adH_inv {s : Row} (hI : Inv s) (hn : nh s < 12) {j k : Nat} (j1 : 1 ≤ j) (j2 : j ≤ 9) (k2 : k ≤ 9999) : Inv (adH s (nI j) (nI k)) := by
  have hb : ∀ o i, o < nh s → i < 14 → adH s (nI j) (nI k) (30 + 14 * o + i) = s (30 + 14 * o + i) := fun o i ho hi => adH_ne (by omega) (by omega)
  have ef : ∀ o i, o < nh s → i < 14 → fP (adH s (nI j) (nI k)) o i = fP s o i := fun o i ho hi => by
    unfold fP
    rw [hb o i ho hi]
  have eh : ∀ o, o < nh s → hd (adH s (nI j) (nI k)) o = hd s o := fun o ho => hb o 4 ho (by omega)
  have nw : ∀ i, i < 14 → adH s (nI j) (nI k) (30 + 14 * nh s + i) = if i = 0 then nI j else if i = 1 then nI k else if i = 4 then -5 else 0 := fun i hi => adH_new hi
  have hn5 : hd (adH s (nI j) (nI k)) (nh s) = -5 := by
    unfold hd
    rw [nw 4 (by omega)]
    rfl
  have n2 : fP (adH s (nI j) (nI k)) (nh s) 2 = 0 := by
    unfold fP
    rw [nw 2 (by omega)]
    rfl
  have n3 : fP (adH s (nI j) (nI k)) (nh s) 3 = 0 := by
    unfold fP
    rw [nw 3 (by omega)]
    rfl
  have n5 : fP (adH s (nI j) (nI k)) (nh s) 5 = 0 := by
    unfold fP
    rw [nw 5 (by omega)]
    rfl
  have n7 : fP (adH s (nI j) (nI k)) (nh s) 7 = 0 := by
    unfold fP
    rw [nw 7 (by omega)]
    rfl
  have n0 : fP (adH s (nI j) (nI k)) (nh s) 0 = j := by
    unfold fP
    rw [nw 0 (by omega)]
    exact nN (by omega)
  have n1 : fP (adH s (nI j) (nI k)) (nh s) 1 = k := by
    unfold fP
    rw [nw 1 (by omega)]
    exact nN (by omega)
  refine ⟨⟨⟨?_, ?_⟩, ?_, ?_⟩, ⟨fun f hf => ?_, fun o ho => ?_⟩, ⟨fun a b ha hb2 hq hne => ?_, fun a b ha hb2 hq hne => ?_⟩, ?_⟩
  · rw [adH_nf, adH_ne (by omega) (by omega)]
    exact hI.h0
  · rw [adH_nf]
    exact hI.h0l
  · rw [adH_nh hn]
    exact ur_eq
  · rw [adH_nh hn]
    omega
  · rw [adH_nf] at hf
    have b0 := hI.h0l
    have := hI.fl hf
    unfold FlOk rm rt at *
    rw [adH_ne (by omega) (by omega), adH_ne (i := 6 + 2 * f + 1) (by omega) (by omega)]
    exact this
  · rw [adH_nh hn] at ho
    by_cases e : o = nh s
    · subst e
      refine ⟨?_, ?_, Or.inl hn5⟩
      · unfold NuOk
        rw [n0, n1, n2, n3, n5, nw 0 (by omega), nw 1 (by omega), nw 2 (by omega), nw 3 (by omega), nw 5 (by omega)]
        exact ⟨⟨rfl, j1, j2⟩, ⟨rfl, k2⟩, ⟨rfl, by omega⟩, ⟨rfl, by omega⟩, rfl, by omega⟩
      · unfold LsOk
        rw [n7, nw 7 (by omega)]
        exact ⟨⟨rfl, by omega⟩, fun i hi => absurd hi (Nat.not_lt_zero _), fun i i' hi => absurd hi (Nat.not_lt_zero _)⟩
    · have ho2 : o < nh s := by omega
      exact ⟨(hI.nu ho2).co (fun i hi => hb o i ho2 hi), (hI.ls ho2).co adH_nf (fun i hi => hb o i ho2 hi), (hI.hdk ho2).co adH_nf (hb o 4 ho2 (by omega))⟩
  · rw [adH_nh hn] at ha hb2
    by_cases ea : a = nh s
    · rw [ea] at hne
      exact absurd hn5 hne
    · by_cases eb : b = nh s
      · rw [eb, hn5] at hq
        exact absurd hq hne
      · rw [eh a (by omega), eh b (by omega)] at hq
        rw [eh a (by omega)] at hne
        exact hI.uh a b (by omega) (by omega) hq hne
  · rw [adH_nh hn] at ha hb2
    by_cases ea : a = nh s
    · rw [ea] at hne
      exact absurd n2 hne
    · by_cases eb : b = nh s
      · rw [eb, n2] at hq
        exact absurd hq hne
      · rw [ef a 2 (by omega) (by omega)] at hq hne
        rw [ef b 2 (by omega) (by omega)] at hq
        exact hI.un a b (by omega) (by omega) hq hne
  · rw [adH_nh hn, adH_ne (by omega) (by omega), hI.2.2.2]
    congr 1
    show _ = sumN (fun h => fP (adH s (nI j) (nI k)) h 5) (nh s) + fP (adH s (nI j) (nI k)) (nh s) 5
    rw [n5, Nat.add_zero]
    exact sumN_congr (fun i hi => (ef i 5 hi (by omega)).symm)
