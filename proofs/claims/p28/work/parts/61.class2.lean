/-! the class's questions, on; and the reference's sets -/
theorem plO_at {s : Row} (hI : Inv s) {h k : Nat} (hh : h < nh s) (hk : k < fP s h 7) : plO s h (s (30 + 14 * h + 8 + k)) = some k := by
  obtain ⟨-, l3, l4⟩ := hI.ls hh
  have b0 := hI.h0l
  refine fstO_of (Nat.zero_le _) (by omega) (decide_eq_true rfl) (fun j _ h2 => decide_eq_false (fun q => ?_))
  obtain ⟨a1, a2⟩ := l3 j (by omega)
  obtain ⟨a3, a4⟩ := l3 k hk
  rw [a1, a3] at q
  have := l4 j k (by omega) hk (nI_inj (by omega) (by omega) q)
  omega
theorem wmB_at {s : Row} (hI : Inv s) {h k : Nat} (hh : h < nh s) (hk : k < fP s h 7) : wmB s h (s (30 + 14 * h + 8 + k)) = (match plO s h (hd s h) with | none => true | some k' => decide (k < k')) := by
  unfold wmB
  rw [plO_at hI hh hk]
  cases plO s h (hd s h) <;> rfl
theorem k_pointsTo_l {M : Mem} {st : Nat} {s : Row} (R : RS M st s) (hI : Inv s) {h : Nat} (hh : h < nh s) : ∀ (d i n : Nat), i + d = fP s h 7 → d < n → l_X6_pointsTo_14 st (st + 16 + 2 * h) n (nI i) M = some (oI (match fstO (ptP s h) i d with | none => none | some j => hoO s (s (30 + 14 * h + 8 + j))), M) := by
  have b1 := hI.h1l
  have b0 := hI.h0l
  obtain ⟨⟨l1, l2⟩, l3, -⟩ := hI.ls hh
  intro d
  induction d with
  | zero =>
    intro i n hi hn
    obtain ⟨n, rfl⟩ : ∃ z, n = z + 1 := ⟨n - 1, by omega⟩
    rw [l_X6_pointsTo_14_s, R.wc hh, l1, if_pos ((nIle (by omega) (by omega)).mpr (by omega))]
    rfl
  | succ d ih =>
    intro i n hi hn
    obtain ⟨n, rfl⟩ : ∃ z, n = z + 1 := ⟨n - 1, by omega⟩
    obtain ⟨l4, l5⟩ := l3 i (by omega)
    have hP : ptP s h i = ((hoO s (s (30 + 14 * h + 8 + i))).isSome && (elB s h (li s h i) && wmB s h (s (30 + 14 * h + 8 + i)))) := rfl
    rw [l_X6_pointsTo_14_s, R.wc hh, l1, if_neg (fun q => absurd ((nIle (by omega) (by omega)).mp q) (by omega)), ck_t (inbN (by omega) (by omega)), nN (by omega), R.wi hh (by omega), k_wishesMore R hI hh, bd_s, show (nI i : Int32) + 1 = nI (i + 1) from nI_1 i]
    cases c : wmB s h (s (30 + 14 * h + 8 + i)) with
    | false =>
      rw [if_pos bI_f]
      have hn2 : fstO (ptP s h) i (d + 1) = none := by
        refine fstO_none.mpr (fun j h1 h2 => ?_)
        have hj : wmB s h (s (30 + 14 * h + 8 + j)) = false := by
          rw [wmB_at hI hh (by omega)] at c ⊢
          cases hq : plO s h (hd s h) with
          | none => rw [hq] at c; cases c
          | some k' =>
            rw [hq] at c
            have := of_decide_eq_false c
            exact decide_eq_false (by omega)
        unfold ptP
        rw [hj, Bool.and_false, Bool.and_false]
      rw [hn2]
      rfl
    | true =>
      rw [if_neg bIne, k_holderOf R hI, bd_s]
      unfold fstO
      cases ho : hoO s (s (30 + 14 * h + 8 + i)) with
      | none =>
        rw [if_pos (show oI none = -5 from rfl), if_neg (by rw [hP, ho]; exact Bool.false_ne_true)]
        exact ih (i + 1) n (by omega) (by omega)
      | some o =>
        have hol := (hoO_lt ho).1
        rw [if_neg (show ¬ oI (some o) = -5 from nIne5 (by omega)), l4, k_isEligible R hI hh l5, bd_s]
        cases c2 : elB s h (li s h i) with
        | false =>
          rw [if_pos bI_f, if_neg (by rw [hP, ho, c2]; exact Bool.false_ne_true)]
          exact ih (i + 1) n (by omega) (by omega)
        | true =>
          rw [if_neg bIne, if_pos (by rw [hP, ho, c2, c]; rfl)]
          show some (oI (some o), M) = some (oI (hoO s (s (30 + 14 * h + 8 + i))), M)
          rw [ho]
theorem k_pointsTo {M : Mem} {st : Nat} {s : Row} (R : RS M st s) (hI : Inv s) {h : Nat} (hh : h < nh s) : f_X6_pointsTo st (st + 16 + 2 * h) M = some (oI (ptO s h), M) := by
  obtain ⟨⟨l1, l2⟩, -⟩ := hI.ls hh
  unfold f_X6_pointsTo ptO
  rw [R.hd hh]
  by_cases c : hd s h = -5
  · rw [if_pos c, if_pos c]
    rfl
  · rw [if_neg c, if_neg c]
    exact k_pointsTo_l R hI hh (fP s h 7) 0 LF (by omega) (by unfold LF; omega)
def wsI (s : Row) (x : Int32) : Int32 := orI (fun h => if oI (plO s h x) = -5 then 0 else (1 : Int32) <<< (nI h &&& 31)) 0 (nh s) 0
def esI (s : Row) (f : Nat) : Int32 := orI (fun h => if bI (elB s h f) = 0 then 0 else (1 : Int32) <<< (nI h &&& 31)) 0 (nh s) 0
theorem k_wishersOf_l {M : Mem} {st : Nat} {s : Row} (R : RS M st s) (hI : Inv s) (x : Int32) : ∀ (d i n : Nat) (a : Int32), i + d = nh s → d < n → l_X6_wishersOf_4 st x n a (nI i) M = some (orI (fun h => if oI (plO s h x) = -5 then 0 else (1 : Int32) <<< (nI h &&& 31)) i d a, M) := by
  have b1 := hI.h1l
  intro d
  induction d with
  | zero =>
    intro i n a hi hn
    obtain ⟨n, rfl⟩ : ∃ z, n = z + 1 := ⟨n - 1, by omega⟩
    rw [l_X6_wishersOf_4_s, R.n1, hI.h1, if_pos ((nIle (by omega) (by omega)).mpr (by omega))]
    rfl
  | succ d ih =>
    intro i n a hi hn
    obtain ⟨n, rfl⟩ : ∃ z, n = z + 1 := ⟨n - 1, by omega⟩
    rw [l_X6_wishersOf_4_s, R.n1, hI.h1, if_neg (fun q => absurd ((nIle (by omega) (by omega)).mp q) (by omega)), ck_t (inbN (by omega) (by omega)), nN (by omega), k_placeOf R hI (by omega), bd_s, show (nI i : Int32) + 1 = nI (i + 1) from nI_1 i]
    unfold orI
    by_cases c : oI (plO s i x) = -5
    · rw [if_pos c, if_pos c, Int32_or_zero]
      exact ih (i + 1) n _ (by omega) (by omega)
    · rw [if_neg c, if_neg c]
      exact ih (i + 1) n _ (by omega) (by omega)
theorem k_wishersOf {M : Mem} {st : Nat} {s : Row} (R : RS M st s) (hI : Inv s) (x : Int32) : f_X6_wishersOf st x M = some (wsI s x, M) := by
  have b1 := hI.h1l
  unfold f_X6_wishersOf wsI
  exact k_wishersOf_l R hI x (nh s) 0 LF 0 (by omega) (by unfold LF; omega)
theorem k_eligibleFor_l {M : Mem} {st : Nat} {s : Row} (R : RS M st s) (hI : Inv s) {f : Nat} (hf : f < nf s) : ∀ (d i n : Nat) (a : Int32), i + d = nh s → d < n → l_X6_eligibleFor_4 st (nI f) n a (nI i) M = some (orI (fun h => if bI (elB s h f) = 0 then 0 else (1 : Int32) <<< (nI h &&& 31)) i d a, M) := by
  have b1 := hI.h1l
  intro d
  induction d with
  | zero =>
    intro i n a hi hn
    obtain ⟨n, rfl⟩ : ∃ z, n = z + 1 := ⟨n - 1, by omega⟩
    rw [l_X6_eligibleFor_4_s, R.n1, hI.h1, if_pos ((nIle (by omega) (by omega)).mpr (by omega))]
    rfl
  | succ d ih =>
    intro i n a hi hn
    obtain ⟨n, rfl⟩ : ∃ z, n = z + 1 := ⟨n - 1, by omega⟩
    rw [l_X6_eligibleFor_4_s, R.n1, hI.h1, if_neg (fun q => absurd ((nIle (by omega) (by omega)).mp q) (by omega)), ck_t (inbN (by omega) (by omega)), nN (by omega), k_isEligible R hI (by omega) hf, bd_s, show (nI i : Int32) + 1 = nI (i + 1) from nI_1 i]
    unfold orI
    by_cases c : bI (elB s i f) = 0
    · rw [if_pos c, if_pos c, Int32_or_zero]
      exact ih (i + 1) n _ (by omega) (by omega)
    · rw [if_neg c, if_neg c]
      exact ih (i + 1) n _ (by omega) (by omega)
theorem k_eligibleFor {M : Mem} {st : Nat} {s : Row} (R : RS M st s) (hI : Inv s) {f : Nat} (hf : f < nf s) : f_X6_eligibleFor st (nI f) M = some (esI s f, M) := by
  have b1 := hI.h1l
  unfold f_X6_eligibleFor esI
  exact k_eligibleFor_l R hI hf (nh s) 0 LF 0 (by omega) (by unfold LF; omega)
/-! envy counted: by rows, and in one go -/
theorem prN_add {s : Row} {least : Int32} : ∀ {a b k : Nat}, prN s least k (a + b) = prN s least k a + prN s least (k + a) b := by
  intro a
  induction a with
  | zero =>
    intro b k
    rw [Nat.zero_add, Nat.add_zero]
    exact (Nat.zero_add _).symm
  | succ a ih =>
    intro b k
    rw [show a + 1 + b = a + b + 1 by omega]
    show (if evI s (k / nh s) (k % nh s) < least then 0 else 1) + prN s least (k + 1) (a + b) = (if evI s (k / nh s) (k % nh s) < least then 0 else 1) + prN s least (k + 1) a + prN s least (k + (a + 1)) b
    rw [ih, show k + 1 + a = k + (a + 1) by omega, Nat.add_assoc]
theorem k_countEnvy_i {M : Mem} {st : Nat} {s : Row} (R : RS M st s) (hI : Inv s) (least : Int32) {h : Nat} (hh : h < nh s) (k : Int32 → Mem → Option (Int32 × Mem)) : ∀ (d i n a : Nat), i + d = nh s → d < n → l_X6_countEnvy_15 st least (nI h) k n (nI a) (nI i) M = k (nI (a + prN s least (nh s * h + i) d)) M := by
  have b1 := hI.h1l
  intro d
  induction d with
  | zero =>
    intro i n a hi hn
    obtain ⟨n, rfl⟩ : ∃ z, n = z + 1 := ⟨n - 1, by omega⟩
    rw [l_X6_countEnvy_15_s, R.n1, hI.h1, if_pos ((nIle (by omega) (by omega)).mpr (by omega))]
    rfl
  | succ d ih =>
    intro i n a hi hn
    obtain ⟨n, rfl⟩ : ∃ z, n = z + 1 := ⟨n - 1, by omega⟩
    have e1 : (nh s * h + i) / nh s = h := by
      rw [Nat.mul_add_div (by omega), Nat.div_eq_of_lt (by omega), Nat.add_zero]
    have e2 : (nh s * h + i) % nh s = i := by
      rw [Nat.mul_add_mod, Nat.mod_eq_of_lt (by omega)]
    rw [l_X6_countEnvy_15_s, R.n1, hI.h1, if_neg (fun q => absurd ((nIle (by omega) (by omega)).mp q) (by omega)), ck_t (inbN (by omega) (by omega)), ck_t (inbN (by omega) (by omega)), nN (by omega), nN (by omega), k_envyOf R hI hh (by omega), bd_s, show (nI i : Int32) + 1 = nI (i + 1) from nI_1 i, show (nI a : Int32) + 1 = nI (a + 1) from nI_1 a]
    unfold prN
    rw [e1, e2]
    by_cases c : evI s h i < least
    · rw [if_pos c, if_pos c, ih (i + 1) n a (by omega) (by omega), Nat.zero_add, Nat.add_assoc]
    · rw [if_neg c, if_neg c, ih (i + 1) n (a + 1) (by omega) (by omega), Nat.add_assoc, Nat.add_assoc]
theorem k_countEnvy_l {M : Mem} {st : Nat} {s : Row} (R : RS M st s) (hI : Inv s) (least : Int32) : ∀ (d i n a : Nat), i + d = nh s → d < n → l_X6_countEnvy_4 st least n (nI a) (nI i) M = some (nI (a + prN s least (nh s * i) (nh s * d)), M) := by
  have b1 := hI.h1l
  intro d
  induction d with
  | zero =>
    intro i n a hi hn
    obtain ⟨n, rfl⟩ : ∃ z, n = z + 1 := ⟨n - 1, by omega⟩
    rw [l_X6_countEnvy_4_s, R.n1, hI.h1, if_pos ((nIle (by omega) (by omega)).mpr (by omega))]
    rfl
  | succ d ih =>
    intro i n a hi hn
    obtain ⟨n, rfl⟩ : ∃ z, n = z + 1 := ⟨n - 1, by omega⟩
    rw [l_X6_countEnvy_4_s, R.n1, hI.h1, if_neg (fun q => absurd ((nIle (by omega) (by omega)).mp q) (by omega)), show (0 : Int32) = nI 0 from rfl, k_countEnvy_i R hI least (h := i) (by omega) _ (nh s) 0 LF a (by omega) (by unfold LF; omega), show (nI i : Int32) + 1 = nI (i + 1) from nI_1 i, ih (i + 1) n _ (by omega) (by omega), Nat.add_zero, Nat.mul_succ (nh s) d, Nat.add_comm (nh s * d) (nh s), prN_add, Nat.mul_succ, Nat.add_assoc]
theorem k_countEnvy {M : Mem} {st : Nat} {s : Row} (R : RS M st s) (hI : Inv s) (least : Int32) : f_X6_countEnvy st least M = some (nI (prN s least 0 (nh s * nh s)), M) := by
  have b1 := hI.h1l
  unfold f_X6_countEnvy
  have := k_countEnvy_l R hI least (nh s) 0 LF 0 (by omega) (by unfold LF; omega)
  rwa [Nat.zero_add, Nat.mul_zero] at this
theorem k_isWronged_l {M : Mem} {st : Nat} {s : Row} (R : RS M st s) (hI : Inv s) {h : Nat} (hh : h < nh s) : ∀ (d i n : Nat), i + d = nh s → d < n → l_X6_isWronged_2 st (st + 16 + 2 * h) n (nI i) M = some (bI (anyB (fun o => enB s h o && ahB s h o) i d), M) := by
  have b1 := hI.h1l
  intro d
  induction d with
  | zero =>
    intro i n hi hn
    obtain ⟨n, rfl⟩ : ∃ z, n = z + 1 := ⟨n - 1, by omega⟩
    rw [l_X6_isWronged_2_s, R.n1, hI.h1, if_pos ((nIle (by omega) (by omega)).mpr (by omega))]
    rfl
  | succ d ih =>
    intro i n hi hn
    obtain ⟨n, rfl⟩ : ∃ z, n = z + 1 := ⟨n - 1, by omega⟩
    rw [l_X6_isWronged_2_s, R.n1, hI.h1, if_neg (fun q => absurd ((nIle (by omega) (by omega)).mp q) (by omega)), ck_t (inbN (by omega) (by omega)), nN (by omega), k_envyOf R hI hh (by omega), bd_s, show (nI i : Int32) + 1 = nI (i + 1) from nI_1 i]
    unfold anyB evI
    cases enB s h i with
    | false =>
      rw [if_neg Bool.false_ne_true, if_neg (show ¬ (0 : Int32) = 2 by decide), Bool.false_and, Bool.false_or]
      exact ih (i + 1) n (by omega) (by omega)
    | true =>
      rw [if_pos rfl, Bool.true_and]
      cases ahB s h i with
      | false =>
        rw [if_neg Bool.false_ne_true, if_neg (show ¬ (1 : Int32) = 2 by decide), Bool.false_or]
        exact ih (i + 1) n (by omega) (by omega)
      | true =>
        rw [if_pos rfl, if_pos rfl]
        rfl
theorem k_isWronged {M : Mem} {st : Nat} {s : Row} (R : RS M st s) (hI : Inv s) {h : Nat} (hh : h < nh s) : f_X6_isWronged st (st + 16 + 2 * h) M = some (bI (wrB s h), M) := by
  have b1 := hI.h1l
  unfold f_X6_isWronged wrB
  exact k_isWronged_l R hI hh (nh s) 0 LF (by omega) (by unfold LF; omega)
theorem k_reasonHolds {M : Mem} {st : Nat} {s : Row} (R : RS M st s) (hI : Inv s) {h r : Nat} (hh : h < nh s) (hr : r < 3) : f_X6_reasonHolds st (st + 16 + 2 * h) (nI r) M = some (bI (rsB s h r), M) := by
  obtain ⟨⟨m1, m2, m3⟩, -⟩ := hI.nu hh
  obtain ⟨-, e2, -, -, -, -, -, e8, -⟩ := R.hr hh
  unfold f_X6_reasonHolds rsB
  rcases (show r = 0 ∨ r = 1 ∨ r = 2 by omega) with rfl | rfl | rfl
  · rw [if_pos (show nI 0 = (0 : Int32) from rfl), if_pos rfl]
    unfold f_X6_isPassedOver
    rw [R.no hh, R.hd hh, e8]
    cases c : drB s h with
    | false =>
      rw [if_pos ((noI_iff hI hh).mpr c)]
      rfl
    | true =>
      rw [if_neg (fun q => by rw [(noI_iff hI hh).mp q] at c; cases c), Bool.true_and]
      by_cases c : hd s h = -5
      · rw [if_pos c, decide_eq_true c, Bool.true_and]
        by_cases c2 : s (30 + 14 * h + 6) ≤ 0
        · rw [if_pos c2, decide_eq_false (Int32.not_lt.mpr c2)]
          rfl
        · rw [if_neg c2, decide_eq_true (Int32.not_le.mp c2)]
          rfl
      · rw [if_neg c, decide_eq_false c]
        rfl
  · rw [if_neg (show ¬ nI 1 = (0 : Int32) by decide), if_pos (show nI 1 = (1 : Int32) from rfl), if_neg (show ¬ (1 : Nat) = 0 by decide), if_pos rfl]
    unfold f_X6_isCrowded
    rw [R.hd hh, k_hasFlat R hI, bd_s, R.hd hh, e2]
    rcases hd_cases hI hh with c | ⟨f, c1, c2, c3, c4⟩
    · rw [c, show inb (-5) (nf s) = false from decide_eq_false (fun q => absurd q.1 (by decide)), decide_eq_false (fun q => q rfl)]
      rfl
    · have b0 := hI.h0l
      obtain ⟨⟨r1, r2, r3⟩, -⟩ := hI.fl c1
      rw [decide_eq_true c4, Bool.true_and, c3, c2, inbN c1 (by omega), if_neg bIne, ck_t (inbN (by omega) (by omega)), (R.fl c1).1, r1, m1, show nI (rm s f) + (1 : Int32) = nI (rm s f + 1) from nI_1 _]
      by_cases c5 : rm s f + 1 < fP s h 0
      · rw [if_neg (fun q => absurd ((nIle (by omega) (by omega)).mp q) (by omega)), decide_eq_true c5]
        rfl
      · rw [if_pos ((nIle (by omega) (by omega)).mpr (by omega)), decide_eq_false c5]
        rfl
  · rw [if_neg (show ¬ nI 2 = (0 : Int32) by decide), if_neg (show ¬ nI 2 = (1 : Int32) by decide), if_neg (show ¬ (2 : Nat) = 0 by decide), if_neg (show ¬ (2 : Nat) = 1 by decide), k_isWronged R hI hh, bd_s]
    exact ck_t (isb_bI _)
theorem k_countAppeals_l {M : Mem} {st : Nat} {s : Row} (R : RS M st s) (hI : Inv s) : ∀ (d i n : Nat), i + d = nh s → d < n → l_X6_countAppeals_4 st n (nI (sumN (fun h => fP s h 5) i)) (nI i) M = some (nI (sumN (fun h => fP s h 5) (nh s)), M) := by
  have b1 := hI.h1l
  intro d
  induction d with
  | zero =>
    intro i n hi hn
    obtain ⟨n, rfl⟩ : ∃ z, n = z + 1 := ⟨n - 1, by omega⟩
    rw [l_X6_countAppeals_4_s, R.n1, hI.h1, if_pos ((nIle (by omega) (by omega)).mpr (by omega)), show i = nh s by omega]
  | succ d ih =>
    intro i n hi hn
    obtain ⟨n, rfl⟩ : ∃ z, n = z + 1 := ⟨n - 1, by omega⟩
    obtain ⟨-, -, -, -, a1, -⟩ := hI.nu (show i < nh s by omega)
    obtain ⟨-, -, -, -, -, -, e7, -⟩ := R.hr (show i < nh s by omega)
    rw [l_X6_countAppeals_4_s, R.n1, hI.h1, if_neg (fun q => absurd ((nIle (by omega) (by omega)).mp q) (by omega)), ck_t (inbN (by omega) (by omega)), nN (by omega), e7, a1, nI_add, show (nI i : Int32) + 1 = nI (i + 1) from nI_1 i]
    exact ih (i + 1) n (by omega) (by omega)
theorem k_countAppeals {M : Mem} {st : Nat} {s : Row} (R : RS M st s) (hI : Inv s) : f_X6_countAppeals st M = some (s 3, M) := by
  have b1 := hI.h1l
  unfold f_X6_countAppeals
  have := k_countAppeals_l R hI (nh s) 0 LF (by omega) (by unfold LF; omega)
  rw [hI.2.2.2]
  exact this
def owO (s : Row) (a : Int32) : Option Nat := fstO (fun h => decide (noI s h = a)) 0 (nh s)
theorem k_ownerOf_l {M : Mem} {st : Nat} {s : Row} (R : RS M st s) (hI : Inv s) (x : Int32) : ∀ (d i n : Nat), i + d = nh s → d < n → l_X6_ownerOfNumber_2 st x n (nI i) M = some (oI (fstO (fun h => decide (noI s h = x)) i d), M) := by
  have b1 := hI.h1l
  intro d
  induction d with
  | zero =>
    intro i n hi hn
    obtain ⟨n, rfl⟩ : ∃ z, n = z + 1 := ⟨n - 1, by omega⟩
    rw [l_X6_ownerOfNumber_2_s, R.n1, hI.h1, if_pos ((nIle (by omega) (by omega)).mpr (by omega))]
    rfl
  | succ d ih =>
    intro i n hi hn
    obtain ⟨n, rfl⟩ : ∃ z, n = z + 1 := ⟨n - 1, by omega⟩
    rw [l_X6_ownerOfNumber_2_s, R.n1, hI.h1, if_neg (fun q => absurd ((nIle (by omega) (by omega)).mp q) (by omega)), ck_t (inbN (by omega) (by omega)), nN (by omega), R.no (by omega)]
    unfold fstO
    by_cases c : noI s i = x
    · rw [if_pos c, if_pos (decide_eq_true c)]
      rfl
    · rw [if_neg c, if_neg (fun q => c (of_decide_eq_true q)), show (nI i : Int32) + 1 = nI (i + 1) from nI_1 i]
      exact ih (i + 1) n (by omega) (by omega)
theorem k_ownerOf {M : Mem} {st : Nat} {s : Row} (R : RS M st s) (hI : Inv s) (x : Int32) : f_X6_ownerOfNumber st x M = some (oI (owO s x), M) := by
  have b1 := hI.h1l
  unfold f_X6_ownerOfNumber
  exact k_ownerOf_l R hI x (nh s) 0 LF (by omega) (by unfold LF; omega)
