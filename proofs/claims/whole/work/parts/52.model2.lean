theorem bIne : ¬ bI true = 0 := by decide
theorem firstOf_l {M : Mem} (hI : Inv (M 256)) {h : Nat} (hh : h < nh (M 256)) (tk : Int32) : ∀ (d i n : Nat), i + d = fP (M 256) h 7 → d < n → l_X8_firstOf_2 (nI h) tk n (nI i) M = some (match fstO (fun k => decide ((tk >>> (M 256 (30 + 14 * h + 8 + k) &&& 31)) &&& 1 = 0) && elB (M 256) h (li (M 256) h k)) i d with | none => -5 | some k => M 256 (30 + 14 * h + 8 + k), M) := by
  have b1 := hI.h1l
  have b0 := hI.h0l
  obtain ⟨⟨l1, l2⟩, l3, -⟩ := hI.ls hh
  intro d
  induction d with
  | zero =>
    intro i n hi hn
    obtain ⟨n, rfl⟩ : ∃ z, n = z + 1 := ⟨n - 1, by omega⟩
    rw [l_X8_firstOf_2_s, of7 (by omega), bd_s, l1, if_pos ((nIle (by omega) (by omega)).mpr (by omega))]
    rfl
  | succ d ih =>
    intro i n hi hn
    obtain ⟨n, rfl⟩ : ∃ z, n = z + 1 := ⟨n - 1, by omega⟩
    obtain ⟨l4, l5⟩ := l3 i (by omega)
    rw [l_X8_firstOf_2_s, of7 (by omega), bd_s, l1, if_neg (fun q => absurd ((nIle (by omega) (by omega)).mp q) (by omega)), show (8 : Int32) + nI i = nI (8 + i) from nI_add 8 i, of_n (k := 8 + i) (by omega) (by omega) rfl, bd_s, show (30 + 14 * h + (8 + i)) = 30 + 14 * h + 8 + i by omega, show (nI i : Int32) + 1 = nI (i + 1) from nI_1 i]
    unfold fstO
    by_cases c : (tk >>> (M 256 (30 + 14 * h + 8 + i) &&& 31)) &&& 1 = 0
    · rw [if_pos c, decide_eq_true c, Bool.true_and, l4, isEligible_n hI hh l5, bd_s]
      cases c2 : elB (M 256) h (li (M 256) h i) with
      | false =>
        rw [if_pos bI_f, if_neg Bool.false_ne_true]
        exact ih (i + 1) n (by omega) (by omega)
      | true =>
        rw [if_neg bIne, if_pos rfl]
        show some (nI (li (M 256) h i), M) = some (M 256 (30 + 14 * h + 8 + i), M)
        rw [l4]
    · rw [if_neg c, decide_eq_false c, Bool.false_and, if_neg Bool.false_ne_true]
      exact ih (i + 1) n (by omega) (by omega)
theorem firstOf_n {M : Mem} (hI : Inv (M 256)) {h : Nat} (hh : h < nh (M 256)) (tk : Int32) : f_X8_firstOf (nI h) tk M = some (foI (M 256) h tk, M) := by
  obtain ⟨⟨l1, l2⟩, -⟩ := hI.ls hh
  unfold f_X8_firstOf
  exact firstOf_l hI hh tk (fP (M 256) h 7) 0 LF (by omega) (by unfold LF; omega)
theorem Int32_or_zero (x : Int32) : x ||| 0 = x := by
  exact Int32.or_zero
theorem heldSet_l {M : Mem} (hI : Inv (M 256)) : ∀ (d i n : Nat) (a : Int32), i + d = nh (M 256) → d < n → l_X8_heldSet_4 n a (nI i) M = some (orI (fun h => if hd (M 256) h = -5 then 0 else (1 : Int32) <<< (hd (M 256) h &&& 31)) i d a, M) := by
  have b1 := hI.h1l
  intro d
  induction d with
  | zero =>
    intro i n a hi hn
    obtain ⟨n, rfl⟩ : ∃ z, n = z + 1 := ⟨n - 1, by omega⟩
    rw [l_X8_heldSet_4_s, hI.h1, if_pos ((nIle (by omega) (by omega)).mpr (by omega))]
    rfl
  | succ d ih =>
    intro i n a hi hn
    obtain ⟨n, rfl⟩ : ∃ z, n = z + 1 := ⟨n - 1, by omega⟩
    rw [l_X8_heldSet_4_s, hI.h1, if_neg (fun q => absurd ((nIle (by omega) (by omega)).mp q) (by omega)), of4 (by omega), bd_s, of4 (by omega), bd_s, show (nI i : Int32) + 1 = nI (i + 1) from nI_1 i]
    unfold orI
    by_cases c : hd (M 256) i = -5
    · rw [if_pos c, if_pos c]
      exact ih (i + 1) n _ (by omega) (by omega)
    · rw [if_neg c, if_neg c]
      exact ih (i + 1) n _ (by omega) (by omega)
theorem heldSet_n {M : Mem} (hI : Inv (M 256)) : f_X8_heldSet M = some (hsI (M 256), M) := by
  have b1 := hI.h1l
  unfold f_X8_heldSet
  exact heldSet_l hI (nh (M 256)) 0 LF 0 (by omega) (by unfold LF; omega)
theorem hd_cases {s : Row} (hI : Inv s) {h : Nat} (hh : h < nh s) : hd s h = -5 ∨ (∃ f, f < nf s ∧ hd s h = nI f ∧ (hd s h).toNatClampNeg = f ∧ ¬ hd s h = -5) := by
  have b0 := hI.h0l
  rcases hI.hdk hh with h1 | ⟨f, h1, h2⟩
  · exact Or.inl h1
  · exact Or.inr ⟨f, h1, h2, by rw [h2, nN (by omega)], by rw [h2]; exact nIne5 (by omega)⟩
theorem doesEnvy_n {M : Mem} (hI : Inv (M 256)) {h o : Nat} (hh : h < nh (M 256)) (ho : o < nh (M 256)) : f_X8_doesEnvy (nI h) (nI o) M = some (bI (enB (M 256) h o), M) := by
  have b1 := hI.h1l
  unfold f_X8_doesEnvy enB
  rw [of4 (by omega), bd_s]
  by_cases e : h = o
  · subst e
    rw [if_pos rfl, decide_eq_false (fun q => q rfl)]
    rfl
  · rw [if_neg (fun q => e (nI_inj (by omega) (by omega) q)), decide_eq_true e, Bool.true_and]
    rcases hd_cases hI ho with c | ⟨f, c1, c2, c3, c4⟩
    · rw [if_pos c, decide_eq_false (fun q => q c)]
      rfl
    · rw [if_neg c4, decide_eq_true c4, Bool.true_and, wishesMore_n hI hh, bd_s, c3]
      cases wmB (M 256) h (hd (M 256) o) with
      | false => rfl
      | true =>
        rw [if_neg bIne, c2, isEligible_n hI hh c1, bd_s]
        cases elB (M 256) h f <;> rfl
theorem envy_n {M : Mem} (hI : Inv (M 256)) {h o : Nat} (hh : h < nh (M 256)) (ho : o < nh (M 256)) : f_X8_envy (nI h) (nI o) M = some (evI (M 256) h o, M) := by
  unfold f_X8_envy evI
  rw [doesEnvy_n hI hh ho, bd_s, isAhead_n hI hh ho, bd_s]
  cases enB (M 256) h o with
  | false => rfl
  | true =>
    cases ahB (M 256) h o <;> rfl
def wrB (s : Row) (h : Nat) : Bool := anyB (fun o => enB s h o && ahB s h o) 0 (nh s)
theorem isWronged_l {M : Mem} (hI : Inv (M 256)) {h : Nat} (hh : h < nh (M 256)) : ∀ (d i n : Nat) (a : Bool), i + d = nh (M 256) → d < n → l_X8_isWronged_4 (nI h) n (bI a) (nI i) M = some (bI (a || anyB (fun o => enB (M 256) h o && ahB (M 256) h o) i d), M) := by
  have b1 := hI.h1l
  intro d
  induction d with
  | zero =>
    intro i n a hi hn
    obtain ⟨n, rfl⟩ : ∃ z, n = z + 1 := ⟨n - 1, by omega⟩
    rw [l_X8_isWronged_4_s, hI.h1, if_pos ((nIle (by omega) (by omega)).mpr (by omega)), ck_t (isb_bI _)]
    unfold anyB
    rw [Bool.or_false]
  | succ d ih =>
    intro i n a hi hn
    obtain ⟨n, rfl⟩ : ∃ z, n = z + 1 := ⟨n - 1, by omega⟩
    rw [l_X8_isWronged_4_s, hI.h1, if_neg (fun q => absurd ((nIle (by omega) (by omega)).mp q) (by omega)), doesEnvy_n hI hh (by omega), bd_s, isAhead_n hI hh (by omega), bd_s, show (nI i : Int32) + 1 = nI (i + 1) from nI_1 i]
    unfold anyB
    cases a with
    | true =>
      rw [if_neg bIne]
      have := ih (i + 1) n true (by omega) (by omega)
      rw [show (1 : Int32) = bI true from rfl, this]
      rfl
    | false =>
      rw [if_pos bI_f, Bool.false_or]
      cases enB (M 256) h i with
      | false =>
        rw [if_pos bI_f, Bool.false_and, Bool.false_or]
        exact (ih (i + 1) n false (by omega) (by omega)).trans (by rw [Bool.false_or])
      | true =>
        rw [if_neg bIne, Bool.true_and]
        cases ahB (M 256) h i with
        | false =>
          rw [if_pos bI_f, Bool.false_or]
          exact (ih (i + 1) n false (by omega) (by omega)).trans (by rw [Bool.false_or])
        | true =>
          rw [if_neg bIne]
          exact ih (i + 1) n true (by omega) (by omega)
theorem isWronged_n {M : Mem} (hI : Inv (M 256)) {h : Nat} (hh : h < nh (M 256)) : f_X8_isWronged (nI h) M = some (bI (wrB (M 256) h), M) := by
  have b1 := hI.h1l
  unfold f_X8_isWronged wrB
  exact (isWronged_l hI hh (nh (M 256)) 0 LF false (by omega) (by unfold LF; omega)).trans (by rw [Bool.false_or])
/-- whether a reason holds -/
def rsB (s : Row) (h r : Nat) : Bool := if r = 0 then drB s h && (decide (hd s h = -5) && decide ((0 : Int32) < s (30 + 14 * h + 6))) else if r = 1 then decide (hd s h ≠ -5) && decide (rm s (hd s h).toNatClampNeg + 1 < fP s h 0) else wrB s h
theorem holds_n {M : Mem} (hI : Inv (M 256)) {h r : Nat} (hh : h < nh (M 256)) (hr : r < 3) : f_X8_holds (nI h) (nI r) M = some (bI (rsB (M 256) h r), M) := by
  have b1 := hI.h1l
  obtain ⟨⟨m1, m2, m3⟩, -⟩ := hI.nu hh
  unfold f_X8_holds rsB
  rw [of4 (by omega), bd_s, isDrawn_n hI hh, bd_s, of6 (by omega), bd_s, of0 (by omega), bd_s, isWronged_n hI hh, bd_s]
  rcases (show r = 0 ∨ r = 1 ∨ r = 2 by omega) with rfl | rfl | rfl
  · rw [if_pos (show nI 0 = (0 : Int32) from rfl), if_pos rfl]
    cases drB (M 256) h with
    | false => rfl
    | true =>
      rw [if_neg bIne, Bool.true_and]
      by_cases c : hd (M 256) h = -5
      · rw [if_pos c, decide_eq_true c, Bool.true_and]
        by_cases c2 : M 256 (30 + 14 * h + 6) ≤ 0
        · rw [if_pos c2, decide_eq_false (Int32.not_lt.mpr c2)]
          rfl
        · rw [if_neg c2, decide_eq_true (Int32.not_le.mp c2)]
          rfl
      · rw [if_neg c, decide_eq_false c]
        rfl
  · rw [if_neg (show ¬ nI 1 = (0 : Int32) by decide), if_pos (show nI 1 = (1 : Int32) from rfl), if_neg (show ¬ (1 : Nat) = 0 by decide), if_pos rfl]
    rcases hd_cases hI hh with c | ⟨f, c1, c2, c3, c4⟩
    · rw [if_pos c, decide_eq_false (fun q => q c)]
      rfl
    · have b0 := hI.h0l
      obtain ⟨⟨r1, r2, r3⟩, -⟩ := hI.fl c1
      rw [if_neg c4, decide_eq_true c4, Bool.true_and, c3, c2, rooms_n (by omega), bd_s, r1, m1, show nI (rm (M 256) f) + (1 : Int32) = nI (rm (M 256) f + 1) from nI_1 _]
      by_cases c5 : rm (M 256) f + 1 < fP (M 256) h 0
      · rw [if_neg (fun q => absurd ((nIle (by omega) (by omega)).mp q) (by omega)), decide_eq_true c5]
        rfl
      · rw [if_pos ((nIle (by omega) (by omega)).mpr (by omega)), decide_eq_false c5]
        rfl
  · rw [if_neg (show ¬ nI 2 = (0 : Int32) by decide), if_neg (show ¬ nI 2 = (1 : Int32) by decide), if_neg (show ¬ (2 : Nat) = 0 by decide), if_neg (show ¬ (2 : Nat) = 1 by decide)]
    exact ck_t (isb_bI _)
def prN (s : Row) (least : Int32) : Nat → Nat → Nat
  | _, 0 => 0
  | k, d + 1 => (if evI s (k / nh s) (k % nh s) < least then 0 else 1) + prN s least (k + 1) d
theorem pairs_l {M : Mem} (hI : Inv (M 256)) (least : Int32) : ∀ (d i n a : Nat), i + d = nh (M 256) * nh (M 256) → d < n → l_X8_pairs_4 least n (nI a) (nI i) M = some (nI (a + prN (M 256) least i d), M) := by
  have b1 := hI.h1l
  have b2 : nh (M 256) * nh (M 256) ≤ 144 := Nat.mul_le_mul b1 b1
  intro d
  induction d with
  | zero =>
    intro i n a hi hn
    obtain ⟨n, rfl⟩ : ∃ z, n = z + 1 := ⟨n - 1, by omega⟩
    rw [l_X8_pairs_4_s, hI.h1, pk_mul, if_pos ((nIle (by omega) (by omega)).mpr (by omega))]
    rfl
  | succ d ih =>
    intro i n a hi hn
    obtain ⟨n, rfl⟩ : ∃ z, n = z + 1 := ⟨n - 1, by omega⟩
    have hp : 0 < nh (M 256) := by
      rcases Nat.eq_zero_or_pos (nh (M 256)) with z | z
      · rw [z] at hi
        omega
      · exact z
    have hne : ¬ nI (nh (M 256)) = (0 : Int32) := fun q => by
      have := nI_inj (b := 0) (by omega) (by omega) q
      omega
    rw [l_X8_pairs_4_s, hI.h1, pk_mul, if_neg (fun q => absurd ((nIle (by omega) (by omega)).mp q) (by omega)), ck_t (decide_eq_true hne), ck_t (decide_eq_true hne), pk_rem (by omega) hp (by omega), pk_div (by omega) hp (by omega), envy_n hI ((Nat.div_lt_iff_lt_mul hp).mpr (by omega)) (Nat.mod_lt _ hp), bd_s, show (nI i : Int32) + 1 = nI (i + 1) from nI_1 i, show (nI a : Int32) + 0 = nI (a + 0) from nI_add a 0, show (nI a : Int32) + 1 = nI (a + 1) from nI_1 a]
    unfold prN
    by_cases c : evI (M 256) (i / nh (M 256)) (i % nh (M 256)) < least
    · rw [if_pos c, if_pos c, ih (i + 1) n (a + 0) (by omega) (by omega), Nat.add_zero, Nat.zero_add]
    · rw [if_neg c, if_neg c, ih (i + 1) n (a + 1) (by omega) (by omega), Nat.add_assoc]
theorem pairs_n {M : Mem} (hI : Inv (M 256)) (least : Int32) : f_X8_pairs least M = some (nI (prN (M 256) least 0 (nh (M 256) * nh (M 256))), M) := by
  have b1 := hI.h1l
  have b2 : nh (M 256) * nh (M 256) ≤ 144 := Nat.mul_le_mul b1 b1
  unfold f_X8_pairs
  have := pairs_l hI least (nh (M 256) * nh (M 256)) 0 LF 0 (by omega) (by unfold LF; omega)
  rwa [Nat.zero_add] at this
/-- pointing: looked for from the last wish to the first -/
def ptP (s : Row) (h k : Nat) : Bool := (hoO s (s (30 + 14 * h + 8 + k))).isSome && (elB s h (li s h k) && wmB s h (s (30 + 14 * h + 8 + k)))
theorem hoO_lt {s : Row} {x : Int32} {o : Nat} (h : hoO s x = some o) : o < nh s ∧ hd s o = x := by
  obtain ⟨-, h2, h3, -⟩ := fstO_some h
  exact ⟨by omega, of_decide_eq_true h3⟩
/-- what stands behind the place k is looked through already -/
theorem pointed_l {M : Mem} (hI : Inv (M 256)) {h : Nat} (hh : h < nh (M 256)) (hn5 : ¬ hd (M 256) h = -5) : ∀ (k n : Nat) (acc : Option Nat), k ≤ fP (M 256) h 7 → k < n → l_X8_pointed_13 (nI h) n (oI acc) (nI k + (-1)) M = some (oI (match fstO (ptP (M 256) h) 0 k with | none => acc | some j => hoO (M 256) (M 256 (30 + 14 * h + 8 + j))), M) := by
  have b1 := hI.h1l
  have b0 := hI.h0l
  obtain ⟨⟨l1, l2⟩, l3, -⟩ := hI.ls hh
  intro k
  induction k with
  | zero =>
    intro n acc hk hn
    obtain ⟨n, rfl⟩ : ∃ z, n = z + 1 := ⟨n - 1, by omega⟩
    rw [l_X8_pointed_13_s, if_pos (by decide)]
    rfl
  | succ k ih =>
    intro n acc hk hn
    obtain ⟨n, rfl⟩ : ∃ z, n = z + 1 := ⟨n - 1, by omega⟩
    obtain ⟨l4, l5⟩ := l3 k (by omega)
    have hsp : fstO (ptP (M 256) h) 0 (k + 1) = match fstO (ptP (M 256) h) 0 k with | some j => some j | none => if ptP (M 256) h k = true then some k else none := by
      cases hq : fstO (ptP (M 256) h) 0 k with
      | some j =>
        obtain ⟨a1, a2, a3, a4⟩ := fstO_some hq
        exact fstO_of a1 (by omega) a3 a4
      | none =>
        have hq2 := fstO_none.mp hq
        by_cases c : ptP (M 256) h k = true
        · rw [if_pos c]
          exact fstO_of (Nat.zero_le _) (by omega) c (fun j h1 h2 => hq2 j h1 (by omega))
        · rw [if_neg c]
          refine fstO_none.mpr (fun j h1 h2 => ?_)
          by_cases e : j = k
          · subst e; exact Bool.eq_false_iff.mpr c
          · exact hq2 j h1 (by omega)
    rw [pk_m1, l_X8_pointed_13_s, if_neg (nI_pos (by omega)), of4 (by omega), bd_s, if_neg hn5, show (8 : Int32) + nI k = nI (8 + k) from nI_add 8 k, of_n (k := 8 + k) (by omega) (by omega) rfl, bd_s, show (30 + 14 * h + (8 + k)) = 30 + 14 * h + 8 + k by omega, hsp]
    have key : ∀ acc2 : Option Nat, (acc2 = if ptP (M 256) h k = true then hoO (M 256) (M 256 (30 + 14 * h + 8 + k)) else acc) → l_X8_pointed_13 (nI h) n (oI acc2) (nI k + (-1)) M = some (oI (match (match fstO (ptP (M 256) h) 0 k with | some j => some j | none => if ptP (M 256) h k = true then some k else none) with | none => acc | some j => hoO (M 256) (M 256 (30 + 14 * h + 8 + j))), M) := by
      intro acc2 he
      rw [ih n acc2 (by omega) (by omega)]
      cases fstO (ptP (M 256) h) 0 k with
      | some j => rfl
      | none =>
        rw [he]
        by_cases c : ptP (M 256) h k = true
        · rw [if_pos c, if_pos c]
        · rw [if_neg c, if_neg c]
    have hP : ptP (M 256) h k = ((hoO (M 256) (M 256 (30 + 14 * h + 8 + k))).isSome && (elB (M 256) h (li (M 256) h k) && wmB (M 256) h (M 256 (30 + 14 * h + 8 + k)))) := rfl
    have hho : f_X8_holder (M 256 (30 + 14 * h + 8 + k)) M = some (oI (hoO (M 256) (M 256 (30 + 14 * h + 8 + k))), M) := by
      rw [l4]
      exact holder_n hI (by omega)
    rw [hho, bd_s]
    cases ho : hoO (M 256) (M 256 (30 + 14 * h + 8 + k)) with
    | none =>
      rw [if_pos (show oI none = -5 from rfl)]
      exact key acc (by rw [hP, ho]; rfl)
    | some o =>
      have hol := (hoO_lt ho).1
      rw [if_neg (show ¬ oI (some o) = -5 from nIne5 (by omega))]
      have hel : f_X8_isEligible (nI h) (M 256 (30 + 14 * h + 8 + k)) M = some (bI (elB (M 256) h (li (M 256) h k)), M) := by
        rw [l4]
        exact isEligible_n hI hh l5
      rw [hel, bd_s, wishesMore_n hI hh, bd_s]
      cases c2 : elB (M 256) h (li (M 256) h k) with
      | false =>
        rw [if_pos bI_f]
        exact key acc (by rw [hP, ho, c2]; rfl)
      | true =>
        rw [if_neg bIne]
        cases c3 : wmB (M 256) h (M 256 (30 + 14 * h + 8 + k)) with
        | false =>
          rw [if_pos bI_f]
          exact key acc (by rw [hP, ho, c2, c3]; rfl)
        | true =>
          rw [if_neg bIne]
          exact key (some o) (by rw [hP, ho, c2, c3]; rfl)
theorem pointed_n {M : Mem} (hI : Inv (M 256)) {h : Nat} (hh : h < nh (M 256)) : f_X8_pointed (nI h) M = some (oI (ptO (M 256) h), M) := by
  have b1 := hI.h1l
  obtain ⟨⟨l1, l2⟩, -⟩ := hI.ls hh
  unfold f_X8_pointed ptO
  rw [of7 (by omega), bd_s, l1]
  by_cases c : hd (M 256) h = -5
  · rw [if_pos c, show LF = 4999 + 1 from rfl, l_X8_pointed_13_s, of4 (by omega), bd_s, if_pos c]
    split <;> rfl
  · rw [if_neg c]
    have h1 := pointed_l hI hh c (fP (M 256) h 7) LF none (Nat.le_refl _) (by unfold LF; omega)
    rw [show nI (fP (M 256) h 7) - (1 : Int32) = nI (fP (M 256) h 7) + (-1) from Int32.sub_eq_add_neg _ _]
    exact h1
theorem ptO_lt {s : Row} {h o : Nat} (hp : ptO s h = some o) : o < nh s := by
  unfold ptO at hp
  by_cases c : hd s h = -5
  · rw [if_pos c] at hp
    cases hp
  · rw [if_neg c] at hp
    cases hq : ptK s h with
    | none => rw [hq] at hp; cases hp
    | some k =>
      rw [hq] at hp
      exact (hoO_lt hp).1
