/-! the lists that were read: are they known, is one twice; laying them -/
theorem inb_N {v n : Nat} (h : v < 2147483648) : inb (nI v) n = decide (v < n) := by
  unfold inb
  rw [nI_toInt h]
  exact decide_eq_decide.mpr ⟨fun q => by omega, fun q => by omega⟩
theorem drop_at {α : Type} {l : List α} {k : Nat} {v : α} (h : l[k]? = some v) : l.drop k = v :: l.drop (k + 1) := by
  obtain ⟨h1, h2⟩ := List.getElem?_eq_some_iff.mp h
  rw [List.drop_eq_getElem_cons h1, h2]
theorem at_ex {α : Type} {l : List α} {k : Nat} (h : k < l.length) : ∃ v, l[k]? = some v := ⟨l[k], List.getElem?_eq_getElem h⟩
def flB (s : Row) (l : List Nat) : Bool := l.all (fun v => decide (v < nf s))
theorem flB_cons {s : Row} {v : Nat} {l : List Nat} : flB s (v :: l) = (decide (v < nf s) && flB s l) := rfl
def knB (s : Row) (e : Nat × List Nat) : Bool := decide (e.1 < nh s) && flB s e.2
def knA (s : Row) (ls : List (Nat × List Nat)) : Bool := ls.all (knB s)
theorem knA_cons {s : Row} {e : Nat × List Nat} {ls : List (Nat × List Nat)} : knA s (e :: ls) = (knB s e && knA s ls) := rfl
theorem k_names_i {st : Nat} {s : Row} {M : Mem} (R : RS M st s) (hI : Inv s) {ls : List (Nat × List Nat)} (hs : ShC M ls) (hlen : ls.length ≤ 16) (hok : ∀ e, e ∈ ls → LiOk e) {j : Nat} {e : Nat × List Nat} (he : ls[j]? = some e) (k : Mem → Option (Int32 × Mem)) : ∀ (d i f : Nat), i + d = e.2.length → d < f → l_X3_namesOnlyKnown_27 st (nI j) k f (nI i) M = if flB s (e.2.drop i) = true then k M else some (0, M) := by
  have hj := at_lt he
  obtain ⟨g1, g2, g3⟩ := hs j e he
  obtain ⟨o1, o2, o3⟩ := hok e (List.mem_of_getElem? he)
  intro d
  induction d with
  | zero =>
    intro i f hi hf
    obtain ⟨f, rfl⟩ : ∃ z, f = z + 1 := ⟨f - 1, by omega⟩
    rw [l_X3_namesOnlyKnown_27_s, ck_t (inbN (by omega) (by omega)), nN (by omega), g2, if_pos ((nIle (by omega) (by omega)).mpr (by omega)), List.drop_eq_nil_of_le (by omega)]
    exact (if_pos rfl).symm
  | succ d ih =>
    intro i f hi hf
    obtain ⟨f, rfl⟩ : ∃ z, f = z + 1 := ⟨f - 1, by omega⟩
    obtain ⟨v, hv⟩ := at_ex (show i < e.2.length by omega)
    have hv12 := o3 v (List.mem_of_getElem? hv)
    rw [l_X3_namesOnlyKnown_27_s, ck_t (inbN (by omega) (by omega)), nN (show j < 2147483648 by omega), g2, if_neg (fun q => absurd ((nIle (by omega) (by omega)).mp q) (by omega)), show (6 : Int32) = nI 6 from rfl, pk_mul, nI_add, ck_t (inbN (by omega) (by omega)), nN (by omega), g3 i v hv, k_hasFlat R hI, bd_s, inb_N (by omega), drop_at hv, flB_cons, show (nI i : Int32) + 1 = nI (i + 1) from nI_1 i]
    by_cases c : v < nf s
    · rw [decide_eq_true c, if_neg bIne, Bool.true_and]
      exact ih (i + 1) f (by omega) (by omega)
    · rw [decide_eq_false c, if_pos bI_f, Bool.false_and, if_neg Bool.false_ne_true]
theorem k_names_l {st : Nat} {s : Row} {M : Mem} (R : RS M st s) (hI : Inv s) {ls : List (Nat × List Nat)} (hs : ShC M ls) (hlen : ls.length ≤ 16) (hok : ∀ e, e ∈ ls → LiOk e) (hc : M 243 2 = nI ls.length) : ∀ (d j f : Nat), j + d = ls.length → d < f → l_X3_namesOnlyKnown_2 st f (nI j) M = some (bI (knA s (ls.drop j)), M) := by
  intro d
  induction d with
  | zero =>
    intro j f hj hf
    obtain ⟨f, rfl⟩ : ∃ z, f = z + 1 := ⟨f - 1, by omega⟩
    rw [l_X3_namesOnlyKnown_2_s, hc, if_pos ((nIle (by omega) (by omega)).mpr (by omega)), List.drop_eq_nil_of_le (by omega)]
    rfl
  | succ d ih =>
    intro j f hj hf
    obtain ⟨f, rfl⟩ : ∃ z, f = z + 1 := ⟨f - 1, by omega⟩
    obtain ⟨e, he⟩ := at_ex (show j < ls.length by omega)
    obtain ⟨g1, g2, g3⟩ := hs j e he
    obtain ⟨o1, o2, o3⟩ := hok e (List.mem_of_getElem? he)
    rw [l_X3_namesOnlyKnown_2_s, hc, if_neg (fun q => absurd ((nIle (by omega) (by omega)).mp q) (by omega)), ck_t (inbN (by omega) (by omega)), nN (show j < 2147483648 by omega), g1, k_hasHousehold R hI, bd_s, inb_N (by omega), drop_at he, knA_cons]
    unfold knB
    by_cases c : e.1 < nh s
    · rw [decide_eq_true c, if_neg bIne, Bool.true_and, show (0 : Int32) = nI 0 from rfl, k_names_i R hI hs hlen hok he _ e.2.length 0 LF (by omega) (by unfold LF; omega), List.drop_zero, show (nI j : Int32) + 1 = nI (j + 1) from nI_1 j]
      cases flB s e.2 with
      | true =>
        rw [if_pos rfl, Bool.true_and]
        exact ih (j + 1) f (by omega) (by omega)
      | false => rfl
    · rw [decide_eq_false c, if_pos bI_f]
      rfl
theorem k_names {st : Nat} {s : Row} {M : Mem} (R : RS M st s) (hI : Inv s) {ls : List (Nat × List Nat)} (hs : ShC M ls) (hlen : ls.length ≤ 16) (hok : ∀ e, e ∈ ls → LiOk e) (hc : M 243 2 = nI ls.length) : f_X3_namesOnlyKnown st M = some (bI (knA s ls), M) := by
  unfold f_X3_namesOnlyKnown
  have := k_names_l R hI hs hlen hok hc ls.length 0 LF (by omega) (by unfold LF; omega)
  rwa [List.drop_zero] at this
def twL : Int32 → List Nat → Bool
  | _, [] => false
  | m, v :: l => bt m v || twL (m ||| ((1 : Int32) <<< (nI v &&& 31))) l
def twA (ls : List (Nat × List Nat)) : Bool := ls.any (fun e => twL 0 e.2)
theorem twA_cons {e : Nat × List Nat} {ls : List (Nat × List Nat)} : twA (e :: ls) = (twL 0 e.2 || twA ls) := rfl
theorem k_twice_i {M : Mem} {ls : List (Nat × List Nat)} (hs : ShC M ls) (hlen : ls.length ≤ 16) (hok : ∀ e, e ∈ ls → LiOk e) {j : Nat} {e : Nat × List Nat} (he : ls[j]? = some e) (k : Mem → Option (Int32 × Mem)) : ∀ (d i f : Nat) (m : Int32), i + d = e.2.length → d < f → l_X3_hasFlatTwiceInList_14 (nI j) k f m (nI i) M = if twL m (e.2.drop i) = true then some (1, M) else k M := by
  have hj := at_lt he
  obtain ⟨g1, g2, g3⟩ := hs j e he
  obtain ⟨o1, o2, o3⟩ := hok e (List.mem_of_getElem? he)
  intro d
  induction d with
  | zero =>
    intro i f m hi hf
    obtain ⟨f, rfl⟩ : ∃ z, f = z + 1 := ⟨f - 1, by omega⟩
    rw [l_X3_hasFlatTwiceInList_14_s, ck_t (inbN (by omega) (by omega)), nN (by omega), g2, if_pos ((nIle (by omega) (by omega)).mpr (by omega)), List.drop_eq_nil_of_le (by omega)]
    exact (if_neg Bool.false_ne_true).symm
  | succ d ih =>
    intro i f m hi hf
    obtain ⟨f, rfl⟩ : ∃ z, f = z + 1 := ⟨f - 1, by omega⟩
    obtain ⟨v, hv⟩ := at_ex (show i < e.2.length by omega)
    have hv12 := o3 v (List.mem_of_getElem? hv)
    rw [l_X3_hasFlatTwiceInList_14_s, ck_t (inbN (by omega) (by omega)), nN (show j < 2147483648 by omega), g2, if_neg (fun q => absurd ((nIle (by omega) (by omega)).mp q) (by omega)), show (6 : Int32) = nI 6 from rfl, pk_mul, nI_add, ck_t (inbN (by omega) (by omega)), nN (by omega), g3 i v hv, drop_at hv, show (nI i : Int32) + 1 = nI (i + 1) from nI_1 i]
    unfold twL
    cases c : bt m v with
    | false =>
      rw [if_pos ((bt_m hv12).mpr c), Bool.false_or]
      exact ih (i + 1) f _ (by omega) (by omega)
    | true =>
      rw [if_neg (fun q => by rw [(bt_m hv12).mp q] at c; cases c), Bool.true_or, if_pos rfl]
theorem k_twice_l {M : Mem} {ls : List (Nat × List Nat)} (hs : ShC M ls) (hlen : ls.length ≤ 16) (hok : ∀ e, e ∈ ls → LiOk e) (hc : M 243 2 = nI ls.length) : ∀ (d j f : Nat), j + d = ls.length → d < f → l_X3_hasFlatTwiceInList_2 f (nI j) M = some (bI (twA (ls.drop j)), M) := by
  intro d
  induction d with
  | zero =>
    intro j f hj hf
    obtain ⟨f, rfl⟩ : ∃ z, f = z + 1 := ⟨f - 1, by omega⟩
    rw [l_X3_hasFlatTwiceInList_2_s, hc, if_pos ((nIle (by omega) (by omega)).mpr (by omega)), List.drop_eq_nil_of_le (by omega)]
    rfl
  | succ d ih =>
    intro j f hj hf
    obtain ⟨f, rfl⟩ : ∃ z, f = z + 1 := ⟨f - 1, by omega⟩
    obtain ⟨e, he⟩ := at_ex (show j < ls.length by omega)
    obtain ⟨o1, o2, o3⟩ := hok e (List.mem_of_getElem? he)
    have hi := k_twice_i hs hlen hok he (fun (M6 : Mem) => l_X3_hasFlatTwiceInList_2 f (nI j + 1) M6) e.2.length 0 LF 0 (by omega) (by unfold LF; omega)
    rw [l_X3_hasFlatTwiceInList_2_s, hc, if_neg (fun q => absurd ((nIle (by omega) (by omega)).mp q) (by omega)), drop_at he, twA_cons]
    refine hi.trans ?_
    rw [List.drop_zero, show (nI j : Int32) + 1 = nI (j + 1) from nI_1 j]
    cases twL 0 e.2 with
    | true => rfl
    | false =>
      rw [if_neg Bool.false_ne_true, Bool.false_or]
      exact ih (j + 1) f (by omega) (by omega)
theorem k_twice {M : Mem} {ls : List (Nat × List Nat)} (hs : ShC M ls) (hlen : ls.length ≤ 16) (hok : ∀ e, e ∈ ls → LiOk e) (hc : M 243 2 = nI ls.length) : f_X3_hasFlatTwiceInList M = some (bI (twA ls), M) := by
  unfold f_X3_hasFlatTwiceInList
  have := k_twice_l hs hlen hok hc ls.length 0 LF (by omega) (by unfold LF; omega)
  rwa [List.drop_zero] at this
/-! the same in the reference -/
