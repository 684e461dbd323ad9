/-! THE TEXT -/
def chr (n : Nat) (x : Nat → Int32) (p : Nat) : Int32 := if p < n then x p else -1
def dgO (n : Nat) (x : Nat → Int32) (p : Nat) : Option Nat := if (48 : Int32) ≤ chr n x p ∧ chr n x p ≤ 57 then some ((chr n x p - 48).toNatClampNeg) else none
theorem dg_v {c : Int32} (h1 : (48 : Int32) ≤ c) (h2 : c ≤ 57) : c - 48 = nI ((c - 48).toNatClampNeg) ∧ (c - 48).toNatClampNeg < 10 := by
  obtain ⟨j, j1, rfl⟩ := inb_ex (a := c) (n := 58) (by
    unfold inb
    rw [Int32.le_iff_toInt_le] at h1 h2
    have e1 : (48 : Int32).toInt = 48 := by decide
    have e2 : (57 : Int32).toInt = 57 := by decide
    exact decide_eq_true (by omega)) (by omega)
  have h3 : 48 ≤ j := (nIle (a := 48) (b := j) (by omega) (by omega)).mp h1
  rw [show (48 : Int32) = nI 48 from rfl, pk_sub h3, nN (by omega)]
  exact ⟨rfl, by omega⟩
theorem dgO_some {n : Nat} {x : Nat → Int32} {p v : Nat} (h : dgO n x p = some v) : p < n ∧ v < 10 ∧ x p - 48 = nI v ∧ (48 : Int32) ≤ x p ∧ x p ≤ 57 := by
  unfold dgO at h
  by_cases c : (48 : Int32) ≤ chr n x p ∧ chr n x p ≤ 57
  · rw [if_pos c] at h
    cases h
    have hp : p < n := by
      by_cases hp : p < n
      · exact hp
      · unfold chr at c
        rw [if_neg hp] at c
        exact absurd c.1 (by decide)
    have hc : chr n x p = x p := if_pos hp
    rw [hc] at c ⊢
    obtain ⟨d1, d2⟩ := dg_v c.1 c.2
    exact ⟨hp, d2, d1, c.1, c.2⟩
  · rw [if_neg c] at h
    cases h
def numS (n : Nat) (x : Nat → Int32) (p : Nat) : Option (Nat × Nat) := match dgO n x p with
  | none => none
  | some v => if v = 1 then (match dgO n x (p + 1) with
    | none => some (1, p + 1)
    | some w => if w ≤ 1 then some (10 + w, p + 2) else some (1, p + 1)) else some (v, p + 1)
theorem numS_some {n : Nat} {x : Nat → Int32} {p v q : Nat} (h : numS n x p = some (v, q)) : v < 12 ∧ p < q ∧ q ≤ n := by
  unfold numS at h
  cases c : dgO n x p with
  | none => rw [c] at h; cases h
  | some a =>
    rw [c] at h
    obtain ⟨p1, p2, -⟩ := dgO_some c
    by_cases c2 : a = 1
    · have h2 : (match dgO n x (p + 1) with
        | none => some (1, p + 1)
        | some w => if w ≤ 1 then some (10 + w, p + 2) else some (1, p + 1)) = some (v, q) := by
        have h3 : (if a = 1 then _ else _) = some (v, q) := h
        rw [if_pos c2] at h3
        exact h3
      cases c3 : dgO n x (p + 1) with
      | none => rw [c3] at h2; cases h2; omega
      | some w =>
        rw [c3] at h2
        obtain ⟨p3, -⟩ := dgO_some c3
        have h4 : (if w ≤ 1 then some (10 + w, p + 2) else some (1, p + 1)) = some (v, q) := h2
        by_cases c4 : w ≤ 1
        · rw [if_pos c4] at h4; cases h4; omega
        · rw [if_neg c4] at h4; cases h4; omega
    · have h3 : (if a = 1 then _ else some (a, p + 1)) = some (v, q) := h
      rw [if_neg c2] at h3
      cases h3
      omega
def flS (n : Nat) (x : Nat → Int32) : Nat → Nat → List Nat → Bool × Nat × List Nat
  | 0, p, acc => (true, p, acc)
  | d + 1, p, acc => match numS n x p with
    | none => (false, p, acc)
    | some (v, q) => if d ≠ 0 ∧ chr n x q = 44 then flS n x d (q + 1) (acc ++ [v]) else (true, q, acc ++ [v])
theorem flS_none {n : Nat} {x : Nat → Int32} {d p : Nat} {acc : List Nat} (h : numS n x p = none) : flS n x (d + 1) p acc = (false, p, acc) := by
  show (match numS n x p with | none => (false, p, acc) | some (v, q) => _) = _
  rw [h]
theorem flS_some {n : Nat} {x : Nat → Int32} {d p v q : Nat} {acc : List Nat} (h : numS n x p = some (v, q)) : flS n x (d + 1) p acc = if d ≠ 0 ∧ chr n x q = 44 then flS n x d (q + 1) (acc ++ [v]) else (true, q, acc ++ [v]) := by
  show (match numS n x p with | none => (false, p, acc) | some (v, q) => _) = _
  rw [h]
theorem chr_lt {n : Nat} {x : Nat → Int32} {p : Nat} (h : chr n x p ≠ -1) : p < n := by
  by_cases hp : p < n
  · exact hp
  · exact absurd (if_neg hp) h
theorem flS_pos {n : Nat} {x : Nat → Int32} : ∀ {d p : Nat} {acc : List Nat}, p ≤ n → (flS n x d p acc).2.1 ≤ n ∧ ((flS n x d p acc).1 = true → 1 ≤ d → p < (flS n x d p acc).2.1) ∧ ((flS n x d p acc).1 = true → (flS n x d p acc).2.2.length ≤ acc.length + d) ∧ ((∀ v, v ∈ acc → v < 12) → ∀ v, v ∈ (flS n x d p acc).2.2 → v < 12) := by
  intro d
  induction d with
  | zero => intro p acc hp; exact ⟨hp, fun _ h => by omega, fun _ => Nat.le_refl _, fun h => h⟩
  | succ d ih =>
    intro p acc hp
    cases hq : numS n x p with
    | none =>
      rw [flS_none hq]
      exact ⟨hp, fun h => (by cases h), fun h => (by cases h), fun h => h⟩
    | some vq =>
      obtain ⟨v, q⟩ := vq
      obtain ⟨n1, n2, n3⟩ := numS_some hq
      rw [flS_some hq]
      have hm : (∀ v, v ∈ acc → v < 12) → ∀ w, w ∈ acc ++ [v] → w < 12 := by
        intro h w hw
        rcases List.mem_append.mp hw with g | g
        · exact h w g
        · rw [List.mem_singleton.mp g]
          exact n1
      by_cases c : d ≠ 0 ∧ chr n x q = 44
      · rw [if_pos c]
        have hl : q < n := chr_lt (by rw [c.2]; decide)
        obtain ⟨i1, i2, i3, i4⟩ := ih (p := q + 1) (acc := acc ++ [v]) (by omega)
        refine ⟨i1, fun h _ => by have := i2 h (by omega); omega, fun h => ?_, fun h => i4 (hm h)⟩
        have := i3 h
        rw [List.length_append, List.length_singleton] at this
        omega
      · rw [if_neg c]
        refine ⟨n3, fun _ _ => n2, fun _ => ?_, hm⟩
        show (acc ++ [v]).length ≤ _
        rw [List.length_append, List.length_singleton]
        omega
def liS (n : Nat) (x : Nat → Int32) (p : Nat) : Bool × Nat × Nat × List Nat := match numS n x p with
  | none => (false, p, 0, [])
  | some (h, q) => if chr n x q = 58 then ((flS n x 6 (q + 1) []).1, (flS n x 6 (q + 1) []).2.1, h, (flS n x 6 (q + 1) []).2.2) else (false, q, 0, [])
theorem liS_none {n : Nat} {x : Nat → Int32} {p : Nat} (h : numS n x p = none) : liS n x p = (false, p, 0, []) := by
  unfold liS
  rw [h]
theorem liS_some {n : Nat} {x : Nat → Int32} {p h q : Nat} (hn : numS n x p = some (h, q)) : liS n x p = if chr n x q = 58 then ((flS n x 6 (q + 1) []).1, (flS n x 6 (q + 1) []).2.1, h, (flS n x 6 (q + 1) []).2.2) else (false, q, 0, []) := by
  unfold liS
  rw [hn]
/-- a list of the text: what can be said of it -/
def LiOk (e : Nat × List Nat) : Prop := e.1 < 12 ∧ e.2.length ≤ 6 ∧ ∀ v, v ∈ e.2 → v < 12
theorem liS_pos {n : Nat} {x : Nat → Int32} {p : Nat} (hp : p ≤ n) : (liS n x p).2.1 ≤ n ∧ ((liS n x p).1 = true → p + 3 ≤ (liS n x p).2.1 ∧ LiOk (liS n x p).2.2) := by
  cases hq : numS n x p with
  | none => rw [liS_none hq]; exact ⟨hp, fun h => (by cases h)⟩
  | some vq =>
    obtain ⟨v, q⟩ := vq
    obtain ⟨n1, n2, n3⟩ := numS_some hq
    rw [liS_some hq]
    by_cases c : chr n x q = 58
    · rw [if_pos c]
      have hl : q < n := chr_lt (by rw [c]; decide)
      obtain ⟨i1, i2, i3, i4⟩ := flS_pos (n := n) (x := x) (d := 6) (p := q + 1) (acc := []) (by omega)
      refine ⟨i1, fun h => ⟨?_, n1, ?_, ?_⟩⟩
      · have := i2 h (by omega)
        show p + 3 ≤ (flS n x 6 (q + 1) []).2.1
        omega
      · have := i3 h
        rw [List.length_nil, Nat.zero_add] at this
        exact this
      · exact i4 (fun v hv => absurd hv List.not_mem_nil)
    · rw [if_neg c]
      exact ⟨n3, fun h => (by cases h)⟩
def txS (n : Nat) (x : Nat → Int32) : Nat → Nat → List (Nat × List Nat) → Option Nat × List (Nat × List Nat)
  | 0, p, acc => (some p, acc)
  | d + 1, p, acc => if (liS n x p).1 = true then (if chr n x (liS n x p).2.1 = -1 then (none, acc ++ [(liS n x p).2.2]) else if chr n x (liS n x p).2.1 = 59 then txS n x d ((liS n x p).2.1 + 1) (acc ++ [(liS n x p).2.2]) else (some (liS n x p).2.1, acc ++ [(liS n x p).2.2])) else (some (liS n x p).2.1, acc)
/-! the class reads -/
def TX (M : Mem) (n : Nat) (x : Nat → Int32) (p : Nat) : Prop := M 243 1 = nI n ∧ (∀ i, i < n → M 244 i = x i) ∧ M 243 6 = nI p
theorem TX.go {M : Mem} {n : Nat} {x : Nat → Int32} {p : Nat} (t : TX M n x p) (q : Nat) : TX (up M 243 6 (nI q)) n x q := ⟨by rw [up_other (by omega)]; exact t.1, fun i hi => by rw [up_ne (by omega)]; exact t.2.1 i hi, up_same⟩
theorem k_atHand {M : Mem} {n : Nat} {x : Nat → Int32} {p : Nat} (hn : n ≤ 60) (hp : p ≤ n + 1) (t : TX M n x p) : f_X3_atHand M = some (chr n x p, M) := by
  obtain ⟨t1, t2, t3⟩ := t
  unfold f_X3_atHand chr
  rw [t1, t3, if_neg (nI_pos (by omega))]
  by_cases c : p < n
  · rw [if_neg (fun q => absurd ((nIle (by omega) (by omega)).mp q) (by omega)), ck_t (inbN (by omega) (by omega)), nN (by omega), t2 p c, if_pos c]
  · rw [if_pos ((nIle (by omega) (by omega)).mpr (by omega)), if_neg c]
theorem k_digit {M : Mem} {n : Nat} {x : Nat → Int32} {p : Nat} (hn : n ≤ 60) (hp : p ≤ n + 1) (t : TX M n x p) : f_X3_digitAtHand M = some (oI (dgO n x p), M) := by
  unfold f_X3_digitAtHand dgO
  rw [k_atHand hn hp t, bd_s]
  by_cases c1 : chr n x p < 48
  · rw [if_pos c1, if_neg (fun q => absurd c1 (Int32.not_lt.mpr q.1))]
    rfl
  · rw [if_neg c1]
    by_cases c2 : 57 < chr n x p
    · rw [if_pos c2, if_neg (fun q => absurd c2 (Int32.not_lt.mpr q.2))]
      rfl
    · have d1 := Int32.not_lt.mp c1
      have d2 := Int32.not_lt.mp c2
      rw [if_neg c2, if_pos ⟨d1, d2⟩]
      show some (chr n x p - 48, M) = some (nI ((chr n x p - 48).toNatClampNeg), M)
      rw [← (dg_v d1 d2).1]
theorem n6 {k : Nat} (h : k < 6) : ¬ (6 : Int32) ≤ nI k := fun q => absurd ((nIle (a := 6) (b := k) (by omega) (by omega)).mp q) (by omega)
theorem n16 {k : Nat} (h : k < 16) : ¬ (16 : Int32) ≤ nI k := fun q => absurd ((nIle (a := 16) (b := k) (by omega) (by omega)).mp q) (by omega)
theorem n1le {w : Nat} (h : w < 100) : nI w ≤ (1 : Int32) ↔ w ≤ 1 := nIle (b := 1) (by omega) (by omega)
theorem n1eq {w : Nat} (h : w < 100) : nI w = (1 : Int32) ↔ w = 1 := nIeq (b := 1) (by omega) (by omega)
theorem k_number {M : Mem} {n : Nat} {x : Nat → Int32} {p : Nat} (hn : n ≤ 60) (hp : p ≤ n) (t : TX M n x p) : f_X3_readNumber M = match numS n x p with | none => some (-5, M) | some (v, q) => some (nI v, up M 243 6 (nI q)) := by
  unfold f_X3_readNumber numS
  rw [k_digit hn (by omega) t, bd_s]
  cases c : dgO n x p with
  | none => rfl
  | some v =>
    obtain ⟨p1, p2, -⟩ := dgO_some c
    rw [if_neg (show ¬ oI (some v) = -5 from nIne5 (by omega)), lt_e, t.2.2, show (nI p : Int32) + 1 = nI (p + 1) from nI_1 p, k_digit hn (by omega) (t.go (p + 1)), bd_s, show oI (some v) = nI v from rfl]
    by_cases c2 : v = 1
    · subst c2
      rw [if_pos (show nI 1 = (1 : Int32) from rfl)]
      show _ = (match (if 1 = 1 then _ else _ : Option (Nat × Nat)) with | none => some (-5, M) | some (v, q) => some (nI v, up M 243 6 (nI q)))
      rw [if_pos rfl]
      cases c3 : dgO n x (p + 1) with
      | none => rfl
      | some w =>
        obtain ⟨p3, p4, -⟩ := dgO_some c3
        rw [if_neg (show ¬ oI (some w) = -5 from nIne5 (by omega)), show oI (some w) = nI w from rfl]
        show _ = (match (if w ≤ 1 then _ else _ : Option (Nat × Nat)) with | none => some (-5, M) | some (v, q) => some (nI v, up M 243 6 (nI q)))
        by_cases c4 : w ≤ 1
        · rw [if_pos ((n1le (by omega)).mpr c4), if_pos c4, lt_e, up_same, up_up, show (nI (p + 1) : Int32) + 1 = nI (p + 2) from nI_1 (p + 1), show (10 : Int32) + nI w = nI (10 + w) from nI_add 10 w]
        · rw [if_neg (fun q => c4 ((n1le (by omega)).mp q)), if_neg c4]
    · rw [if_neg (fun q => c2 ((n1eq (by omega)).mp q))]
      show _ = (match (if v = 1 then _ else _ : Option (Nat × Nat)) with | none => some (-5, M) | some (v, q) => some (nI v, up M 243 6 (nI q)))
      rw [if_neg c2]
theorem app_at {α : Type} {l : List α} {e y : α} {k : Nat} (h : (l ++ [e])[k]? = some y) : l[k]? = some y ∨ (k = l.length ∧ y = e) := by
  rcases Nat.lt_trichotomy k l.length with z | z | z
  · rw [List.getElem?_append_left z] at h
    exact Or.inl h
  · subst z
    rw [List.getElem?_append_right (Nat.le_refl _), Nat.sub_self] at h
    cases h
    exact Or.inr ⟨rfl, rfl⟩
  · rw [List.getElem?_append_right (by omega), List.getElem?_eq_none (by rw [List.length_singleton]; omega)] at h
    cases h
theorem at_lt {α : Type} {l : List α} {y : α} {k : Nat} (h : l[k]? = some y) : k < l.length := (List.getElem?_eq_some_iff.mp h).1
/-- what reading leaves alone, from the list L on -/
def FX (M M' : Mem) (L : Nat) : Prop := (∀ q, q ≠ 243 → q ≠ 245 → q ≠ 246 → q ≠ 247 → M' q = M q) ∧ (∀ k, k ≠ 6 → M' 243 k = M 243 k) ∧ (∀ j, j < L → M' 245 j = M 245 j ∧ M' 246 j = M 246 j) ∧ ∀ j, j < L * 6 → M' 247 j = M 247 j
theorem FX.rf {M : Mem} {L : Nat} : FX M M L := ⟨fun _ _ _ _ _ => rfl, fun _ _ => rfl, fun _ _ => ⟨rfl, rfl⟩, fun _ _ => rfl⟩
theorem FX.tr {M M' M'' : Mem} {L : Nat} (h : FX M M' L) (g : FX M' M'' L) : FX M M'' L := ⟨fun q a b c d => (g.1 q a b c d).trans (h.1 q a b c d), fun k a => (g.2.1 k a).trans (h.2.1 k a), fun j a => ⟨(g.2.2.1 j a).1.trans (h.2.2.1 j a).1, (g.2.2.1 j a).2.trans (h.2.2.1 j a).2⟩, fun j a => (g.2.2.2 j a).trans (h.2.2.2 j a)⟩
theorem FX.at6 {M : Mem} {L : Nat} {v : Int32} : FX M (up M 243 6 v) L := ⟨fun q a _ _ _ => up_ne a, fun k a => up_other (fun q => a q.2), fun j _ => ⟨by rw [up_ne (by omega)], by rw [up_ne (by omega)]⟩, fun j _ => by rw [up_ne (by omega)]⟩
theorem k_readList_l {n : Nat} {x : Nat → Int32} {L : Nat} (hn : n ≤ 60) (hL : L < 16) : ∀ (d a2 f p : Nat) (M : Mem) (acc : List Nat), a2 + d = 6 → 1 ≤ d → d < f → acc.length = a2 → p ≤ n → TX M n x p → M 243 2 = nI L → (∀ k v, acc[k]? = some v → M 247 (L * 6 + k) = nI v) → ∃ M', l_X3_readList_44 f (nI a2) M = some (bI (flS n x d p acc).1, M') ∧ TX M' n x (flS n x d p acc).2.1 ∧ FX M M' L ∧ M' 245 L = M 245 L ∧ ((flS n x d p acc).1 = true → M' 246 L = nI (flS n x d p acc).2.2.length ∧ ∀ k v, (flS n x d p acc).2.2[k]? = some v → M' 247 (L * 6 + k) = nI v) := by
  intro d
  induction d with
  | zero => intro a2 f p M acc h1 h2; omega
  | succ d ih =>
    intro a2 f p M acc ha h1 hf hl hp t hc hacc
    obtain ⟨f, rfl⟩ : ∃ z, f = z + 1 := ⟨f - 1, by omega⟩
    rw [l_X3_readList_44_s, if_neg (n6 (by omega)), k_number hn hp t]
    cases hq : numS n x p with
    | none =>
      rw [flS_none hq]
      exact ⟨M, rfl, t, FX.rf, rfl, fun h => (by cases h)⟩
    | some vq =>
      obtain ⟨v, q⟩ := vq
      obtain ⟨n1, n2, n3⟩ := numS_some hq
      have T1 := t.go q
      show ∃ M', bd (some (nI v, up M 243 6 (nI q))) _ = _ ∧ _
      rw [bd_s, if_neg (nIne5 (by omega)), up_other (show ¬ (243 = 243 ∧ 2 = 6) by omega), hc, show (6 : Int32) = nI 6 from rfl, pk_mul, nI_add, ck_t (inbN (by omega) (by omega)), nN (by omega), lt_e, up_ne (show 243 ≠ 247 by omega), up_other (show ¬ (243 = 243 ∧ 2 = 6) by omega), hc, ck_t (inbN (by omega) (by omega)), nN (by omega), lt_e, show (nI a2 : Int32) + 1 = nI (a2 + 1) from nI_1 a2]
      have T2 : TX (up (up (up M 243 6 (nI q)) 247 (L * 6 + a2) (nI v)) 246 L (nI (a2 + 1))) n x q := by
        refine ⟨?_, fun i hi => ?_, ?_⟩
        · rw [up_ne (by omega), up_ne (by omega)]; exact T1.1
        · rw [up_ne (by omega), up_ne (by omega)]; exact T1.2.1 i hi
        · rw [up_ne (by omega), up_ne (by omega)]; exact T1.2.2
      have F2 : FX M (up (up (up M 243 6 (nI q)) 247 (L * 6 + a2) (nI v)) 246 L (nI (a2 + 1))) L := by
        refine ⟨fun j a b c e => ?_, fun k a => ?_, fun j a => ⟨?_, ?_⟩, fun j a => ?_⟩
        · rw [up_ne c, up_ne e, up_ne a]
        · rw [up_ne (by omega), up_ne (by omega), up_other (fun q => a q.2)]
        · rw [up_ne (by omega), up_ne (by omega), up_ne (by omega)]
        · rw [up_other (by omega), up_ne (by omega), up_ne (by omega)]
        · rw [up_ne (by omega), up_other (by omega), up_ne (by omega)]
      have A2 : ∀ k w, (acc ++ [v])[k]? = some w → up (up (up M 243 6 (nI q)) 247 (L * 6 + a2) (nI v)) 246 L (nI (a2 + 1)) 247 (L * 6 + k) = nI w := by
        intro k w hk
        rw [up_ne (by omega)]
        rcases app_at hk with g | ⟨g1, g2⟩
        · have := at_lt g
          rw [up_other (by omega), up_ne (by omega)]
          exact hacc k w g
        · subst g2
          rw [show k = a2 by omega, up_same]
      have E2 : up (up (up M 243 6 (nI q)) 247 (L * 6 + a2) (nI v)) 246 L (nI (a2 + 1)) 245 L = M 245 L := by
        rw [up_ne (by omega), up_ne (by omega), up_ne (by omega)]
      have S2 : up (up (up M 243 6 (nI q)) 247 (L * 6 + a2) (nI v)) 246 L (nI (a2 + 1)) 246 L = nI (acc ++ [v]).length := by
        rw [up_same, List.length_append, List.length_singleton, hl]
      have C2 : up (up (up M 243 6 (nI q)) 247 (L * 6 + a2) (nI v)) 246 L (nI (a2 + 1)) 243 2 = nI L := by
        rw [up_ne (by omega), up_ne (by omega), up_other (by omega)]
        exact hc
      rw [flS_some hq]
      generalize up (up (up M 243 6 (nI q)) 247 (L * 6 + a2) (nI v)) 246 L (nI (a2 + 1)) = N at T2 F2 A2 E2 S2 C2 ⊢
      rw [k_atHand hn (by omega) T2, bd_s]
      by_cases c1 : chr n x q = 44
      · have hl2 : q < n := chr_lt (by rw [c1]; decide)
        rw [if_pos c1]
        by_cases c2 : d = 0
        · rw [if_pos (show nI a2 = (5 : Int32) by rw [show a2 = 5 by omega]; rfl), if_neg (fun h => h.1 c2)]
          exact ⟨N, rfl, T2, F2, E2, fun _ => ⟨S2, A2⟩⟩
        · rw [if_neg (fun h => by
            have := nI_inj (a := a2) (b := 5) (by omega) (by omega) h
            omega), if_pos ⟨c2, c1⟩, lt_e, T2.2.2, show (nI q : Int32) + 1 = nI (q + 1) from nI_1 q]
          obtain ⟨M', e1, e2, e3, e4, e5⟩ := ih (a2 + 1) f (q + 1) (up N 243 6 (nI (q + 1))) (acc ++ [v]) (by omega) (by omega) (by omega) (by rw [List.length_append, List.length_singleton]; omega) (by omega) (T2.go (q + 1)) (by rw [up_other (by omega)]; exact C2) (fun k w hk => by rw [up_ne (by omega)]; exact A2 k w hk)
          exact ⟨M', e1, e2, (F2.tr FX.at6).tr e3, by rw [e4, up_ne (by omega)]; exact E2, e5⟩
      · rw [if_neg c1, if_neg (fun h => c1 h.2)]
        exact ⟨N, rfl, T2, F2, E2, fun _ => ⟨S2, A2⟩⟩
theorem k_readList {n : Nat} {x : Nat → Int32} {L p : Nat} {M : Mem} (hn : n ≤ 60) (hL : L < 16) (hp : p ≤ n) (t : TX M n x p) (hc : M 243 2 = nI L) : ∃ M', f_X3_readList M = some (bI (liS n x p).1, M') ∧ TX M' n x (liS n x p).2.1 ∧ FX M M' L ∧ ((liS n x p).1 = true → M' 245 L = nI (liS n x p).2.2.1 ∧ M' 246 L = nI (liS n x p).2.2.2.length ∧ ∀ k v, (liS n x p).2.2.2[k]? = some v → M' 247 (L * 6 + k) = nI v) := by
  unfold f_X3_readList
  rw [k_number hn hp t]
  cases hq : numS n x p with
  | none =>
    rw [liS_none hq]
    exact ⟨M, rfl, t, FX.rf, fun h => (by cases h)⟩
  | some vq =>
    obtain ⟨v, q⟩ := vq
    obtain ⟨n1, n2, n3⟩ := numS_some hq
    have T1 := t.go q
    rw [liS_some hq]
    show ∃ M', bd (some (nI v, up M 243 6 (nI q))) _ = _ ∧ _
    rw [bd_s, if_neg (nIne5 (by omega)), k_atHand hn (by omega) T1, bd_s]
    by_cases c : chr n x q = 58
    · have hl2 : q < n := chr_lt (by rw [c]; decide)
      rw [if_pos c, if_pos c, lt_e, up_same, up_up, show (nI q : Int32) + 1 = nI (q + 1) from nI_1 q, up_other (show ¬ (243 = 243 ∧ 2 = 6) by omega), hc, ck_t (inbN (by omega) (by omega)), nN (by omega), lt_e]
      have T2 : TX (up (up M 243 6 (nI (q + 1))) 245 L (nI v)) n x (q + 1) := by
        have T3 := t.go (q + 1)
        refine ⟨?_, fun i hi => ?_, ?_⟩
        · rw [up_ne (by omega)]; exact T3.1
        · rw [up_ne (by omega)]; exact T3.2.1 i hi
        · rw [up_ne (by omega)]; exact T3.2.2
      have F2 : FX M (up (up M 243 6 (nI (q + 1))) 245 L (nI v)) L := by
        refine ⟨fun j a b c e => ?_, fun k a => ?_, fun j a => ⟨?_, ?_⟩, fun j a => ?_⟩
        · rw [up_ne b, up_ne a]
        · rw [up_ne (by omega), up_other (fun q => a q.2)]
        · rw [up_other (by omega), up_ne (by omega)]
        · rw [up_ne (by omega), up_ne (by omega)]
        · rw [up_ne (by omega), up_ne (by omega)]
      obtain ⟨M', e1, e2, e3, e4, e5⟩ := k_readList_l (n := n) (x := x) hn hL 6 0 LF (q + 1) (up (up M 243 6 (nI (q + 1))) 245 L (nI v)) [] (by omega) (by omega) (by unfold LF; omega) rfl (by omega) T2 (by rw [up_ne (by omega), up_other (by omega)]; exact hc) (fun k w hk => by cases hk)
      refine ⟨M', e1, e2, F2.tr e3, fun h => ?_⟩
      obtain ⟨g1, g2⟩ := e5 h
      exact ⟨by rw [e4, up_same], g1, g2⟩
    · rw [if_neg c, if_neg c]
      exact ⟨_, rfl, T1, FX.at6, fun h => (by cases h)⟩
/-- the lists that were read, in the class -/
def ShC (M : Mem) (ls : List (Nat × List Nat)) : Prop := ∀ j e, ls[j]? = some e → M 245 j = nI e.1 ∧ M 246 j = nI e.2.length ∧ ∀ k v, e.2[k]? = some v → M 247 (j * 6 + k) = nI v
theorem ShC.fx {M M' : Mem} {ls : List (Nat × List Nat)} (h : ShC M ls) (hl : ∀ e, e ∈ ls → LiOk e) (f : FX M M' ls.length) : ShC M' ls := by
  intro j e he
  have hj := at_lt he
  obtain ⟨h1, h2, h3⟩ := h j e he
  obtain ⟨g1, g2⟩ := f.2.2.1 j hj
  refine ⟨by rw [g1]; exact h1, by rw [g2]; exact h2, fun k v hk => ?_⟩
  have hk2 := at_lt hk
  have := (hl e (List.mem_of_getElem? he)).2.1
  rw [f.2.2.2 (j * 6 + k) (by omega)]
  exact h3 k v hk
theorem k_fault_l {n : Nat} {x : Nat → Int32} (hn : n ≤ 60) (hx : ∀ i, i < n → x i ≠ -1) : ∀ (d f p : Nat) (M : Mem) (acc : List (Nat × List Nat)), acc.length + d = 16 → d < f → 4 * acc.length ≤ p → p ≤ n → TX M n x p → M 243 2 = nI acc.length → (∀ e, e ∈ acc → LiOk e) → ShC M acc → ∃ M', l_X3_findFault_10 f M = some (match (txS n x d p acc).1 with | none => -5 | some q => nI q, M') ∧ (∀ q, q ≠ 243 → q ≠ 245 → q ≠ 246 → q ≠ 247 → M' q = M q) ∧ (∀ k, k ≠ 2 → k ≠ 6 → M' 243 k = M 243 k) ∧ ((txS n x d p acc).1 = none → M' 243 2 = nI (txS n x d p acc).2.length ∧ (txS n x d p acc).2.length ≤ 16 ∧ (∀ e, e ∈ (txS n x d p acc).2 → LiOk e) ∧ ShC M' (txS n x d p acc).2) := by
  intro d
  induction d with
  | zero => intro f p M acc h1 _ h2 h3; omega
  | succ d ih =>
    intro f p M acc ha hf h4 hp t hc hok hs
    obtain ⟨f, rfl⟩ : ∃ z, f = z + 1 := ⟨f - 1, by omega⟩
    obtain ⟨M1, e1, e2, e3, e4⟩ := k_readList (L := acc.length) hn (by omega) hp t hc
    obtain ⟨p1, p2⟩ := liS_pos (n := n) (x := x) hp
    rw [l_X3_findFault_10_s, hc, if_neg (n16 (by omega)), e1, bd_s]
    unfold txS
    cases c : (liS n x p).1 with
    | false =>
      rw [if_pos bI_f, if_neg Bool.false_ne_true, e2.2.2]
      exact ⟨M1, rfl, e3.1, fun k _ h => e3.2.1 k h, fun h => (by cases h)⟩
    | true =>
      obtain ⟨g1, g2, g3⟩ := e4 c
      obtain ⟨p3, p4⟩ := p2 c
      have hok2 : ∀ e, e ∈ acc ++ [(liS n x p).2.2] → LiOk e := by
        intro e he
        rcases List.mem_append.mp he with g | g
        · exact hok e g
        · rw [List.mem_singleton.mp g]
          exact p4
      have hlen : (acc ++ [(liS n x p).2.2]).length = acc.length + 1 := by rw [List.length_append, List.length_singleton]
      have T2 : TX (up M1 243 2 (nI (acc.length + 1))) n x (liS n x p).2.1 := ⟨by rw [up_other (by omega)]; exact e2.1, fun i hi => by rw [up_ne (by omega)]; exact e2.2.1 i hi, by rw [up_other (by omega)]; exact e2.2.2⟩
      have sh1 : ShC M1 acc := hs.fx hok e3
      have sh2 : ShC (up M1 243 2 (nI (acc.length + 1))) (acc ++ [(liS n x p).2.2]) := by
        intro j e he
        rw [up_ne (show 245 ≠ 243 by omega), up_ne (show 246 ≠ 243 by omega), up_ne (show 247 ≠ 243 by omega)]
        rcases app_at he with g | ⟨g4, g5⟩
        · exact sh1 j e g
        · subst g4 g5
          exact ⟨g1, g2, g3⟩
      have C2 : M1 243 2 = nI acc.length := by
        rw [e3.2.1 2 (by omega)]
        exact hc
      rw [if_neg bIne, if_pos rfl, lt_e, C2, show (nI acc.length : Int32) + 1 = nI (acc.length + 1) from nI_1 _, k_atHand hn (by omega) T2, bd_s]
      by_cases c2 : chr n x (liS n x p).2.1 = -1
      · rw [if_pos c2, if_pos c2]
        refine ⟨_, rfl, fun q a b c e => ?_, fun k a b => ?_, fun _ => ⟨?_, ?_, hok2, sh2⟩⟩
        · rw [up_ne a]
          exact e3.1 q a b c e
        · rw [up_other (fun q => a q.2)]
          exact e3.2.1 k b
        · rw [up_same, hlen]
        · show (acc ++ [(liS n x p).2.2]).length ≤ 16
          omega
      · have hl2 : (liS n x p).2.1 < n := chr_lt c2
        rw [if_neg c2, if_neg c2, k_atHand hn (by omega) T2, bd_s]
        by_cases c3 : chr n x (liS n x p).2.1 = 59
        · rw [if_pos c3, if_pos c3, lt_e, T2.2.2, show (nI (liS n x p).2.1 : Int32) + 1 = nI ((liS n x p).2.1 + 1) from nI_1 _]
          obtain ⟨M', f1, f2, f3, f4⟩ := ih f ((liS n x p).2.1 + 1) (up (up M1 243 2 (nI (acc.length + 1))) 243 6 (nI ((liS n x p).2.1 + 1))) (acc ++ [(liS n x p).2.2]) (by omega) (by omega) (by omega) (by omega) (T2.go _) (by rw [up_other (by omega), up_same, hlen]) hok2 (fun j e he => by
            rw [up_ne (show 245 ≠ 243 by omega), up_ne (show 246 ≠ 243 by omega), up_ne (show 247 ≠ 243 by omega)]
            exact sh2 j e he)
          refine ⟨M', f1, fun q a b c e => ?_, fun k a b => ?_, f4⟩
          · rw [f2 q a b c e, up_ne a, up_ne a]
            exact e3.1 q a b c e
          · rw [f3 k a b, up_other (fun q => b q.2), up_other (fun q => a q.2)]
            exact e3.2.1 k b
        · rw [if_neg c3, if_neg c3, T2.2.2]
          refine ⟨_, rfl, fun q a b c e => ?_, fun k a b => ?_, fun h => (by cases h)⟩
          · rw [up_ne a]
            exact e3.1 q a b c e
          · rw [up_other (fun q => a q.2)]
            exact e3.2.1 k b
theorem k_fault {n : Nat} {x : Nat → Int32} {M : Mem} (hn : n ≤ 60) (hx : ∀ i, i < n → x i ≠ -1) (h1 : M 243 1 = nI n) (h2 : ∀ i, i < n → M 244 i = x i) : ∃ M', f_X3_findFault M = some (match (txS n x 16 0 []).1 with | none => -5 | some q => nI q, M') ∧ (∀ q, q ≠ 243 → q ≠ 245 → q ≠ 246 → q ≠ 247 → M' q = M q) ∧ (∀ k, k ≠ 2 → k ≠ 6 → M' 243 k = M 243 k) ∧ ((txS n x 16 0 []).1 = none → M' 243 2 = nI (txS n x 16 0 []).2.length ∧ (txS n x 16 0 []).2.length ≤ 16 ∧ (∀ e, e ∈ (txS n x 16 0 []).2 → LiOk e) ∧ ShC M' (txS n x 16 0 []).2) := by
  unfold f_X3_findFault
  rw [lt_e, lt_e]
  obtain ⟨M', e1, e2, e3, e4⟩ := k_fault_l hn hx 16 LF 0 (up (up M 243 6 0) 243 2 0) [] rfl (by unfold LF; omega) (by show 4 * 0 ≤ 0; omega) (by omega) ⟨by rw [up_other (by omega), up_other (by omega)]; exact h1, fun i hi => by rw [up_ne (by omega), up_ne (by omega)]; exact h2 i hi, by rw [up_other (by omega), up_same]; rfl⟩ up_same (fun e he => absurd he List.not_mem_nil) (fun j e he => by cases he)
  refine ⟨M', e1, fun q a b c d => ?_, fun k a b => ?_, e4⟩
  · rw [e2 q a b c d, up_ne a, up_ne a]
  · rw [e3 k a b, up_other (fun q => a q.2), up_other (fun q => b q.2)]
