/-! the reference reads -/
def TM (M : Mem) (n : Nat) (x : Nat → Int32) (p : Nat) : Prop := M 255 6 = nI n ∧ (∀ i, i < n → M 259 i = x i) ∧ M 255 9 = nI p
theorem TM.go {M : Mem} {n : Nat} {x : Nat → Int32} {p : Nat} (t : TM M n x p) (q : Nat) : TM (up M 255 9 (nI q)) n x q := ⟨by rw [up_other (by omega)]; exact t.1, fun i hi => by rw [up_ne (by omega)]; exact t.2.1 i hi, up_same⟩
theorem sees_n {M : Mem} {n : Nat} {x : Nat → Int32} {p : Nat} (hn : n ≤ 60) (hp : p ≤ n) (t : TM M n x p) (a b : Int32) : f_X8_sees a b M = some (bI (decide (p < n) && decide (a ≤ x p ∧ x p ≤ b)), M) := by
  obtain ⟨t1, t2, t3⟩ := t
  unfold f_X8_sees
  rw [t1, t3]
  by_cases c : p < n
  · rw [if_neg (fun q => absurd ((nIle (by omega) (by omega)).mp q) (by omega)), ck_t (inbN (by omega) (by omega)), nN (by omega), t2 p c, in_n, bd_s, decide_eq_true c, Bool.true_and]
    cases decide (a ≤ x p ∧ x p ≤ b) <;> rfl
  · rw [if_pos ((nIle (by omega) (by omega)).mpr (by omega)), decide_eq_false c]
    rfl
theorem seesD_n {M : Mem} {n : Nat} {x : Nat → Int32} {p : Nat} (hn : n ≤ 60) (hp : p ≤ n) (t : TM M n x p) : f_X8_sees 48 57 M = some (bI (dgO n x p).isSome, M) := by
  rw [sees_n hn hp t]
  unfold dgO chr
  by_cases c : p < n
  · rw [decide_eq_true c, Bool.true_and, if_pos c]
    by_cases c2 : (48 : Int32) ≤ x p ∧ x p ≤ 57
    · rw [if_pos c2, decide_eq_true c2]
      rfl
    · rw [if_neg c2, decide_eq_false c2]
      rfl
  · rw [decide_eq_false c, Bool.false_and, if_neg c, if_neg (show ¬ ((48 : Int32) ≤ -1 ∧ (-1 : Int32) ≤ 57) by decide)]
    rfl
theorem takes_n {M : Mem} {n : Nat} {x : Nat → Int32} {p : Nat} (hn : n ≤ 60) (hp : p ≤ n) (t : TM M n x p) {c : Int32} (hc : ¬ c = -1) : f_X8_takes c M = some (bI (decide (chr n x p = c)), if chr n x p = c then up M 255 9 (nI (p + 1)) else M) := by
  unfold f_X8_takes
  rw [sees_n hn hp t, bd_s]
  have hb : (decide (p < n) && decide (c ≤ x p ∧ x p ≤ c)) = decide (chr n x p = c) := by
    unfold chr
    by_cases c1 : p < n
    · rw [decide_eq_true c1, Bool.true_and, if_pos c1]
      exact decide_eq_decide.mpr ⟨fun q => Int32.le_antisymm q.2 q.1, fun q => by rw [q]; exact ⟨Int32.le_refl _, Int32.le_refl _⟩⟩
    · rw [decide_eq_false c1, Bool.false_and, if_neg c1]
      exact (decide_eq_false (fun q => hc q.symm)).symm
  rw [hb]
  by_cases c2 : chr n x p = c
  · rw [if_pos c2, decide_eq_true c2, if_neg bIne, lt_e, t.2.2, ck_t (isb_bI _), show (nI p : Int32) + 1 = nI (p + 1) from nI_1 p]
  · rw [if_neg c2, decide_eq_false c2, if_pos bI_f, lt_e, ck_t (isb_bI _), up_id0]
theorem number_n {M : Mem} {n : Nat} {x : Nat → Int32} {p : Nat} (hn : n ≤ 60) (hp : p ≤ n) (t : TM M n x p) : f_X8_number M = match numS n x p with | none => some (-5, M) | some (v, q) => some (nI v, up M 255 9 (nI q)) := by
  unfold f_X8_number numS
  rw [seesD_n hn hp t, bd_s]
  cases c : dgO n x p with
  | none => rfl
  | some v =>
    obtain ⟨p1, p2, p3, -⟩ := dgO_some c
    rw [if_neg (show ¬ bI (some v).isSome = 0 from bIne), t.2.2, ck_t (inbN (by omega) (by omega)), nN (by omega), lt_e, t.2.1 p p1, p3, show (nI p : Int32) + 1 = nI (p + 1) from nI_1 p]
    have T1 := t.go (p + 1)
    show _ = (match (if v = 1 then _ else some (v, p + 1) : Option (Nat × Nat)) with | none => some (-5, M) | some (v, q) => some (nI v, up M 255 9 (nI q)))
    by_cases c2 : v = 1
    · rw [if_pos ((n1eq (by omega)).mpr c2), if_pos c2, sees_n hn (by omega) T1, bd_s]
      cases c3 : dgO n x (p + 1) with
      | none =>
        have hb : (decide (p + 1 < n) && decide ((48 : Int32) ≤ x (p + 1) ∧ x (p + 1) ≤ 49)) = false := by
          by_cases d1 : p + 1 < n
          · rw [decide_eq_true d1, Bool.true_and]
            refine decide_eq_false (fun q => ?_)
            unfold dgO chr at c3
            rw [if_pos d1, if_pos ⟨q.1, Int32.le_trans q.2 (by decide)⟩] at c3
            cases c3
          · rw [decide_eq_false d1, Bool.false_and]
        rw [hb, if_pos bI_f, c2]
      | some w =>
        obtain ⟨q1, q2, q3, q4, q5⟩ := dgO_some c3
        have hx : x (p + 1) = nI (48 + w) := by
          have : x (p + 1) = x (p + 1) - 48 + 48 := (Int32.sub_add_cancel _ _).symm
          rw [this, q3, show (48 : Int32) = nI 48 from rfl, nI_add, Nat.add_comm]
        have hb : (decide (p + 1 < n) && decide ((48 : Int32) ≤ x (p + 1) ∧ x (p + 1) ≤ 49)) = decide (w ≤ 1) := by
          rw [decide_eq_true q1, Bool.true_and]
          refine decide_eq_decide.mpr ?_
          rw [hx]
          constructor
          · intro h
            have := (nIle (a := 48 + w) (b := 49) (by omega) (by omega)).mp h.2
            omega
          · intro h
            rw [hx] at q4
            exact ⟨q4, (nIle (a := 48 + w) (b := 49) (by omega) (by omega)).mpr (by omega)⟩
        rw [hb]
        show _ = (match (if w ≤ 1 then _ else _ : Option (Nat × Nat)) with | none => some (-5, M) | some (v, q) => some (nI v, up M 255 9 (nI q)))
        by_cases c4 : w ≤ 1
        · rw [decide_eq_true c4, if_neg bIne, if_pos c4, up_same, ck_t (inbN (by omega) (by omega)), nN (by omega), lt_e, up_ne (show 259 ≠ 255 by omega), t.2.1 (p + 1) q1, up_up, hx, show (nI (p + 1) : Int32) + 1 = nI (p + 2) from nI_1 (p + 1), show (10 : Int32) = nI 10 from rfl, nI_add, show (48 : Int32) = nI 48 from rfl, pk_sub (by omega), show 10 + (48 + w) - 48 = 10 + w by omega]
        · rw [decide_eq_false c4, if_pos bI_f, if_neg c4, c2]
    · rw [if_neg (fun q => c2 ((n1eq (by omega)).mp q)), if_neg c2]
def FY (M M' : Mem) (L : Nat) : Prop := (∀ q, q ≠ 255 → q ≠ 262 → M' q = M q) ∧ (∀ k, k ≠ 9 → M' 255 k = M 255 k) ∧ ∀ j, j < 8 * L → M' 262 j = M 262 j
theorem FY.rf {M : Mem} {L : Nat} : FY M M L := ⟨fun _ _ _ => rfl, fun _ _ => rfl, fun _ _ => rfl⟩
theorem FY.tr {M M' M'' : Mem} {L : Nat} (h : FY M M' L) (g : FY M' M'' L) : FY M M'' L := ⟨fun q a b => (g.1 q a b).trans (h.1 q a b), fun k a => (g.2.1 k a).trans (h.2.1 k a), fun j a => (g.2.2 j a).trans (h.2.2 j a)⟩
theorem FY.at9 {M : Mem} {L : Nat} {v : Int32} : FY M (up M 255 9 v) L := ⟨fun q a _ => up_ne a, fun k a => up_other (fun q => a q.2), fun j _ => by rw [up_ne (by omega)]⟩
theorem readsList_l {n : Nat} {x : Nat → Int32} {L : Nat} (hn : n ≤ 60) (hL : L < 16) : ∀ (d f p : Nat) (M : Mem) (acc : List Nat), acc.length + d = 6 → 1 ≤ d → d + 1 < f → p ≤ n → TM M n x p → M 262 (8 * L + 1) = nI acc.length → (∀ k v, acc[k]? = some v → M 262 (8 * L + 2 + k) = nI v) → ∃ M', l_X8_readsList_51 (nI (8 * L)) f 1 M = some (bI (flS n x d p acc).1, M') ∧ TM M' n x (flS n x d p acc).2.1 ∧ FY M M' L ∧ M' 262 (8 * L) = M 262 (8 * L) ∧ ((flS n x d p acc).1 = true → M' 262 (8 * L + 1) = nI (flS n x d p acc).2.2.length ∧ ∀ k v, (flS n x d p acc).2.2[k]? = some v → M' 262 (8 * L + 2 + k) = nI v) := by
  intro d
  induction d with
  | zero => intro f p M acc h1 h2; omega
  | succ d ih =>
    intro f p M acc ha h1 hf hp t hc hacc
    obtain ⟨f, rfl⟩ : ∃ z, f = z + 1 := ⟨f - 1, by omega⟩
    rw [l_X8_readsList_51_s, if_neg (show ¬ (1 : Int32) = 0 by decide), number_n hn hp t]
    cases hq : numS n x p with
    | none =>
      rw [flS_none hq]
      exact ⟨M, rfl, t, FY.rf, rfl, fun h => (by cases h)⟩
    | some vq =>
      obtain ⟨v, q⟩ := vq
      obtain ⟨n1, n2, n3⟩ := numS_some hq
      have T1 := t.go q
      show ∃ M', bd (some (nI v, up M 255 9 (nI q))) _ = _ ∧ _
      rw [bd_s, if_neg (nIne5 (by omega)), show (nI (8 * L) : Int32) + 1 = nI (8 * L + 1) from nI_1 _, show (nI (8 * L) : Int32) + 2 = nI (8 * L + 2) from nI_add (8 * L) 2, ck_t (inbN (by omega) (by omega)), nN (show 8 * L + 1 < 2147483648 by omega), up_ne (show 262 ≠ 255 by omega), hc, nI_add, ck_t (inbN (by omega) (by omega)), lt_e, nN (show 8 * L + 2 + acc.length < 2147483648 by omega), ck_t (inbN (by omega) (by omega)), ck_t (inbN (by omega) (by omega)), lt_e, ck_t (inbN (by omega) (by omega)), up_same, up_other (show ¬ (262 = 262 ∧ 8 * L + 1 = 8 * L + 2 + acc.length) by omega), up_ne (show 262 ≠ 255 by omega), hc, show (nI acc.length : Int32) + 1 = nI (acc.length + 1) from nI_1 _]
      have T2 : TM (up (up (up M 255 9 (nI q)) 262 (8 * L + 2 + acc.length) (nI v)) 262 (8 * L + 1) (nI (acc.length + 1))) n x q := by
        refine ⟨?_, fun i hi => ?_, ?_⟩
        · rw [up_ne (by omega), up_ne (by omega)]; exact T1.1
        · rw [up_ne (by omega), up_ne (by omega)]; exact T1.2.1 i hi
        · rw [up_ne (by omega), up_ne (by omega)]; exact T1.2.2
      have F2 : FY M (up (up (up M 255 9 (nI q)) 262 (8 * L + 2 + acc.length) (nI v)) 262 (8 * L + 1) (nI (acc.length + 1))) L := by
        refine ⟨fun j a b => ?_, fun k a => ?_, fun j a => ?_⟩
        · rw [up_ne b, up_ne b, up_ne a]
        · rw [up_ne (by omega), up_ne (by omega), up_other (fun q => a q.2)]
        · rw [up_other (by omega), up_other (by omega), up_ne (by omega)]
      have A2 : ∀ k w, (acc ++ [v])[k]? = some w → up (up (up M 255 9 (nI q)) 262 (8 * L + 2 + acc.length) (nI v)) 262 (8 * L + 1) (nI (acc.length + 1)) 262 (8 * L + 2 + k) = nI w := by
        intro k w hk
        rw [up_other (by omega)]
        rcases app_at hk with g | ⟨g1, g2⟩
        · have := at_lt g
          rw [up_other (by omega), up_ne (by omega)]
          exact hacc k w g
        · subst g1 g2
          rw [up_same]
      have E2 : up (up (up M 255 9 (nI q)) 262 (8 * L + 2 + acc.length) (nI v)) 262 (8 * L + 1) (nI (acc.length + 1)) 262 (8 * L) = M 262 (8 * L) := by
        rw [up_other (by omega), up_other (by omega), up_ne (by omega)]
      have S2 : up (up (up M 255 9 (nI q)) 262 (8 * L + 2 + acc.length) (nI v)) 262 (8 * L + 1) (nI (acc.length + 1)) 262 (8 * L + 1) = nI (acc ++ [v]).length := by
        rw [up_same, List.length_append, List.length_singleton]
      rw [flS_some hq]
      generalize up (up (up M 255 9 (nI q)) 262 (8 * L + 2 + acc.length) (nI v)) 262 (8 * L + 1) (nI (acc.length + 1)) = N at T2 F2 A2 E2 S2 ⊢
      obtain ⟨f, rfl⟩ : ∃ z, f = z + 1 := ⟨f - 1, by omega⟩
      by_cases c0 : d = 0
      · rw [if_pos (show (6 : Int32) ≤ nI (acc.length + 1) by rw [show acc.length + 1 = 6 by omega]; decide), if_neg (fun h => h.1 c0), l_X8_readsList_51_s, if_pos rfl]
        exact ⟨N, rfl, T2, F2, E2, fun _ => ⟨S2, A2⟩⟩
      · rw [if_neg (n6 (by omega)), takes_n hn n3 T2 (by decide), bd_s]
        by_cases c1 : chr n x q = 44
        · have hl2 : q < n := chr_lt (by rw [c1]; decide)
          rw [decide_eq_true c1, if_neg bIne, if_pos c1, if_pos (show d ≠ 0 ∧ chr n x q = 44 from ⟨c0, c1⟩)]
          obtain ⟨M', e1, e2, e3, e4, e5⟩ := ih (f + 1) (q + 1) (up N 255 9 (nI (q + 1))) (acc ++ [v]) (by rw [List.length_append, List.length_singleton]; omega) (by omega) (by omega) (by omega) (T2.go (q + 1)) (by rw [up_ne (by omega)]; exact S2) (fun k w hk => by rw [up_ne (by omega)]; exact A2 k w hk)
          exact ⟨M', e1, e2, (F2.tr FY.at9).tr e3, by rw [e4, up_ne (by omega)]; exact E2, e5⟩
        · rw [decide_eq_false c1, if_pos bI_f, if_neg c1, if_neg (show ¬ (d ≠ 0 ∧ chr n x q = 44) from fun h => c1 h.2), l_X8_readsList_51_s, if_pos rfl]
          exact ⟨N, rfl, T2, F2, E2, fun _ => ⟨S2, A2⟩⟩
theorem readsList_n {n : Nat} {x : Nat → Int32} {L p : Nat} {M : Mem} (hn : n ≤ 60) (hL : L < 16) (hp : p ≤ n) (t : TM M n x p) (hc : M 255 11 = nI L) : ∃ M', f_X8_readsList M = some (bI (liS n x p).1, M') ∧ TM M' n x (liS n x p).2.1 ∧ FY M M' L ∧ ((liS n x p).1 = true → M' 262 (8 * L) = nI (liS n x p).2.2.1 ∧ M' 262 (8 * L + 1) = nI (liS n x p).2.2.2.length ∧ ∀ k v, (liS n x p).2.2.2[k]? = some v → M' 262 (8 * L + 2 + k) = nI v) := by
  unfold f_X8_readsList
  rw [number_n hn hp t]
  cases hq : numS n x p with
  | none =>
    rw [liS_none hq]
    show ∃ M', bd (some (-5, M)) _ = _ ∧ _
    rw [bd_s, hc, show (8 : Int32) = nI 8 from rfl, pk_mul, ck_t (inbN (by omega) (by omega)), nN (show 8 * L < 2147483648 by omega), lt_e, show (nI (8 * L) : Int32) + 1 = nI (8 * L + 1) from nI_1 _, ck_t (inbN (by omega) (by omega)), nN (show 8 * L + 1 < 2147483648 by omega), lt_e, ck_t (inbN (by omega) (by omega)), up_other (by omega), up_same, if_pos rfl]
    refine ⟨_, rfl, ⟨?_, fun i hi => ?_, ?_⟩, ⟨fun j a b => ?_, fun k a => ?_, fun j a => ?_⟩, fun h => (by cases h)⟩
    · rw [up_ne (by omega), up_ne (by omega)]; exact t.1
    · rw [up_ne (by omega), up_ne (by omega)]; exact t.2.1 i hi
    · rw [up_ne (by omega), up_ne (by omega)]; exact t.2.2
    · rw [up_ne b, up_ne b]
    · rw [up_ne (by omega), up_ne (by omega)]
    · rw [up_other (by omega), up_other (by omega)]
  | some vq =>
    obtain ⟨v, q⟩ := vq
    obtain ⟨n1, n2, n3⟩ := numS_some hq
    have T1 := t.go q
    have hc1 : up M 255 9 (nI q) 255 11 = nI L := by
      rw [up_other (by omega)]
      exact hc
    rw [liS_some hq]
    show ∃ M', bd (some (nI v, up M 255 9 (nI q))) _ = _ ∧ _
    have F0 : FY M (up M 255 9 (nI q)) L := FY.at9
    generalize up M 255 9 (nI q) = M1 at T1 hc1 F0 ⊢
    rw [bd_s, hc, show (8 : Int32) = nI 8 from rfl, pk_mul, ck_t (inbN (by omega) (by omega)), nN (show 8 * L < 2147483648 by omega), lt_e, show (nI (8 * L) : Int32) + 1 = nI (8 * L + 1) from nI_1 _, ck_t (inbN (by omega) (by omega)), nN (show 8 * L + 1 < 2147483648 by omega), lt_e, ck_t (inbN (by omega) (by omega)), up_other (by omega), up_same, if_neg (nIne5 (by omega))]
    have T2 : TM (up (up M1 262 (8 * L) (nI v)) 262 (8 * L + 1) 0) n x q := by
      refine ⟨?_, fun i hi => ?_, ?_⟩
      · rw [up_ne (by omega), up_ne (by omega)]; exact T1.1
      · rw [up_ne (by omega), up_ne (by omega)]; exact T1.2.1 i hi
      · rw [up_ne (by omega), up_ne (by omega)]; exact T1.2.2
    have F2 : FY M1 (up (up M1 262 (8 * L) (nI v)) 262 (8 * L + 1) 0) L := by
      refine ⟨fun j a b => ?_, fun k a => ?_, fun j a => ?_⟩
      · rw [up_ne b, up_ne b]
      · rw [up_ne (by omega), up_ne (by omega)]
      · rw [up_other (by omega), up_other (by omega)]
    have E2 : up (up M1 262 (8 * L) (nI v)) 262 (8 * L + 1) 0 262 (8 * L) = nI v := by
      rw [up_other (by omega), up_same]
    have S2 : up (up M1 262 (8 * L) (nI v)) 262 (8 * L + 1) 0 262 (8 * L + 1) = nI 0 := up_same
    have C2 : up (up M1 262 (8 * L) (nI v)) 262 (8 * L + 1) 0 255 11 = nI L := by
      rw [up_ne (by omega), up_ne (by omega)]
      exact hc1
    generalize up (up M1 262 (8 * L) (nI v)) 262 (8 * L + 1) 0 = N at T2 F2 E2 S2 C2 ⊢
    rw [takes_n hn n3 T2 (by decide), bd_s]
    by_cases c : chr n x q = 58
    · have hl2 : q < n := chr_lt (by rw [c]; decide)
      rw [decide_eq_true c, if_neg bIne, if_pos c, if_pos c]
      obtain ⟨M', e1, e2, e3, e4, e5⟩ := readsList_l (n := n) (x := x) hn hL 6 LF (q + 1) (up N 255 9 (nI (q + 1))) [] rfl (by omega) (by unfold LF; omega) (by omega) (T2.go (q + 1)) (by rw [up_ne (by omega)]; exact S2) (fun k w hk => by cases hk)
      refine ⟨M', e1, e2, ((F0.tr F2).tr FY.at9).tr e3, fun h => ?_⟩
      obtain ⟨g1, g2⟩ := e5 h
      exact ⟨by rw [e4, up_ne (by omega)]; exact E2, g1, g2⟩
    · rw [decide_eq_false c, if_pos bI_f, if_neg c, if_neg c]
      exact ⟨N, rfl, T2, F0.tr F2, fun h => (by cases h)⟩
def ShM (M : Mem) (ls : List (Nat × List Nat)) : Prop := ∀ j e, ls[j]? = some e → M 262 (8 * j) = nI e.1 ∧ M 262 (8 * j + 1) = nI e.2.length ∧ ∀ k v, e.2[k]? = some v → M 262 (8 * j + 2 + k) = nI v
theorem ShM.fy {M M' : Mem} {ls : List (Nat × List Nat)} (h : ShM M ls) (hl : ∀ e, e ∈ ls → LiOk e) (f : ∀ j, j < 8 * ls.length → M' 262 j = M 262 j) : ShM M' ls := by
  intro j e he
  have hj := at_lt he
  obtain ⟨h1, h2, h3⟩ := h j e he
  refine ⟨by rw [f _ (by omega)]; exact h1, by rw [f _ (by omega)]; exact h2, fun k v hk => ?_⟩
  have hk2 := at_lt hk
  have := (hl e (List.mem_of_getElem? he)).2.1
  rw [f _ (by omega)]
  exact h3 k v hk
theorem isText_l {n : Nat} {x : Nat → Int32} (hn : n ≤ 60) (hx : ∀ i, i < n → x i ≠ -1) : ∀ (d f p : Nat) (M : Mem) (acc : List (Nat × List Nat)), acc.length + d = 16 → d + 1 < f → 4 * acc.length ≤ p → p ≤ n → TM M n x p → M 255 11 = nI acc.length → (∀ e, e ∈ acc → LiOk e) → ShM M acc → ∃ M', l_X8_isText_12 f 1 M = some (bI (txS n x d p acc).1.isNone, M') ∧ (∀ q, q ≠ 255 → q ≠ 262 → M' q = M q) ∧ (∀ k, k ≠ 9 → k ≠ 11 → M' 255 k = M 255 k) ∧ (∀ q, (txS n x d p acc).1 = some q → M' 255 9 = nI q) ∧ ((txS n x d p acc).1 = none → M' 255 11 = nI (txS n x d p acc).2.length ∧ ShM M' (txS n x d p acc).2) := by
  intro d
  induction d with
  | zero => intro f p M acc h1 _ h2 h3; omega
  | succ d ih =>
    intro f p M acc ha hf h4 hp t hc hok hs
    obtain ⟨f, rfl⟩ : ∃ z, f = z + 1 := ⟨f - 1, by omega⟩
    obtain ⟨f, rfl⟩ : ∃ z, f = z + 1 := ⟨f - 1, by omega⟩
    obtain ⟨M1, e1, e2, e3, e4⟩ := readsList_n (L := acc.length) hn (by omega) hp t hc
    obtain ⟨p1, p2⟩ := liS_pos (n := n) (x := x) hp
    rw [l_X8_isText_12_s, if_neg (show ¬ (1 : Int32) = 0 by decide), e1, bd_s]
    unfold txS
    cases c : (liS n x p).1 with
    | false =>
      rw [if_pos bI_f, if_neg Bool.false_ne_true]
      exact ⟨M1, rfl, e3.1, fun k h _ => e3.2.1 k h, fun q hq => (by cases hq; exact e2.2.2), fun h => (by cases h)⟩
    | true =>
      obtain ⟨g1, g2, g3⟩ := e4 c
      obtain ⟨p3, p4⟩ := p2 c
      have hok2 : ∀ e, e ∈ acc ++ [(liS n x p).2.2] → LiOk e := by
        intro e he
        rcases List.mem_append.mp he with g | g
        · exact hok e g
        · rw [List.mem_singleton.mp g]
          exact p4
      have hlen : (acc ++ [(liS n x p).2.2]).length = acc.length + 1 := by rw [List.length_append, List.length_singleton]
      have T2 : TM (up M1 255 11 (nI (acc.length + 1))) n x (liS n x p).2.1 := ⟨by rw [up_other (by omega)]; exact e2.1, fun i hi => by rw [up_ne (by omega)]; exact e2.2.1 i hi, by rw [up_other (by omega)]; exact e2.2.2⟩
      have sh1 : ShM M1 acc := hs.fy hok e3.2.2
      have sh2 : ShM (up M1 255 11 (nI (acc.length + 1))) (acc ++ [(liS n x p).2.2]) := by
        intro j e he
        rw [up_ne (show 262 ≠ 255 by omega)]
        rcases app_at he with g | ⟨g4, g5⟩
        · exact sh1 j e g
        · subst g4 g5
          exact ⟨g1, g2, g3⟩
      have C2 : M1 255 11 = nI acc.length := by
        rw [e3.2.1 11 (by omega)]
        exact hc
      rw [if_neg bIne, if_pos rfl, lt_e, C2, show (nI acc.length : Int32) + 1 = nI (acc.length + 1) from nI_1 _, takes_n hn (by omega) T2 (by decide), bd_s]
      by_cases c3 : chr n x (liS n x p).2.1 = 59
      · have hl2 : (liS n x p).2.1 < n := chr_lt (by rw [c3]; decide)
        rw [decide_eq_true c3, if_pos c3, if_neg (show ¬ chr n x (liS n x p).2.1 = -1 by rw [c3]; decide), if_pos c3]
        obtain ⟨M', f1, f2, f3, f4, f5⟩ := ih (f + 1) ((liS n x p).2.1 + 1) (up (up M1 255 11 (nI (acc.length + 1))) 255 9 (nI ((liS n x p).2.1 + 1))) (acc ++ [(liS n x p).2.2]) (by omega) (by omega) (by omega) (by omega) (T2.go _) (by rw [up_other (by omega), up_same, hlen]) hok2 (fun j e he => by
          rw [up_ne (show 262 ≠ 255 by omega)]
          exact sh2 j e he)
        refine ⟨M', f1, fun q a b => ?_, fun k a b => ?_, f4, f5⟩
        · rw [f2 q a b, up_ne a, up_ne a]
          exact e3.1 q a b
        · rw [f3 k a b, up_other (fun q => a q.2), up_other (fun q => b q.2)]
          exact e3.2.1 k a
      · rw [decide_eq_false c3, if_neg c3, if_neg c3, bI_f, l_X8_isText_12_s, if_pos rfl, T2.2.2, T2.1]
        by_cases c2 : chr n x (liS n x p).2.1 = -1
        · have hq : ¬ (liS n x p).2.1 < n := fun hlt => hx _ hlt ((if_pos hlt).symm.trans c2)
          rw [if_pos c2, if_pos (by rw [show (liS n x p).2.1 = n by omega])]
          refine ⟨_, rfl, fun q a b => ?_, fun k a b => ?_, fun q h => (by cases h), fun _ => ⟨?_, sh2⟩⟩
          · rw [up_ne a]
            exact e3.1 q a b
          · rw [up_other (fun q => b q.2)]
            exact e3.2.1 k a
          · rw [up_same, hlen]
        · have hl2 : (liS n x p).2.1 < n := chr_lt c2
          rw [if_neg c2, if_neg (fun q => by
            have := nI_inj (by omega) (by omega) q
            omega)]
          refine ⟨_, rfl, fun q a b => ?_, fun k a b => ?_, fun q h => (by cases h; exact T2.2.2), fun h => (by cases h)⟩
          · rw [up_ne a]
            exact e3.1 q a b
          · rw [up_other (fun q => b q.2)]
            exact e3.2.1 k a
theorem isText_n {n : Nat} {x : Nat → Int32} {M : Mem} (hn : n ≤ 60) (hx : ∀ i, i < n → x i ≠ -1) (h1 : M 255 6 = nI n) (h2 : ∀ i, i < n → M 259 i = x i) : ∃ M', f_X8_isText M = some (bI (txS n x 16 0 []).1.isNone, M') ∧ (∀ q, q ≠ 255 → q ≠ 262 → M' q = M q) ∧ (∀ k, k ≠ 9 → k ≠ 11 → M' 255 k = M 255 k) ∧ (∀ q, (txS n x 16 0 []).1 = some q → M' 255 9 = nI q) ∧ ((txS n x 16 0 []).1 = none → M' 255 11 = nI (txS n x 16 0 []).2.length ∧ ShM M' (txS n x 16 0 []).2) := by
  unfold f_X8_isText
  rw [lt_e, lt_e]
  obtain ⟨M', e1, e2, e3, e4⟩ := isText_l hn hx 16 LF 0 (up (up M 255 9 0) 255 11 0) [] rfl (by unfold LF; omega) (by show 4 * 0 ≤ 0; omega) (by omega) ⟨by rw [up_other (by omega), up_other (by omega)]; exact h1, fun i hi => by rw [up_ne (by omega), up_ne (by omega)]; exact h2 i hi, by rw [up_other (by omega), up_same]; rfl⟩ up_same (fun e he => absurd he List.not_mem_nil) (fun j e he => by cases he)
  refine ⟨M', e1, fun q a b => ?_, fun k a b => ?_, e4⟩
  · rw [e2 q a b, up_ne a, up_ne a]
  · rw [e3 k a b, up_other (fun q => b q.2), up_other (fun q => a q.2)]
