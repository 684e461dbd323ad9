theorem in_r {big ws : List Cond} (ps : List Nat) (hp : ws = ps.filterMap (fun i => big[i]?)) : ∀ w ∈ ws, w ∈ big := by
  intro w hw
  rw [hp] at hw
  obtain ⟨i, -, hi⟩ := List.mem_filterMap.mp hw
  exact List.mem_of_getElem? hi
/-! THE MEMORY of the system behind its constructors: 255 cells, each a number; a cell's fields (or elements) that are ints are a row of ints; references are fixed by the layout -/
abbrev Mem : Type := Nat → Nat → Int32
def up (M : Mem) (i k : Nat) (v : Int32) : Mem := fun a b => if a = i ∧ b = k then v else M a b
theorem up_ne {M : Mem} {i k j : Nat} {v : Int32} (h : j ≠ i) : up M i k v j = M j := by
  funext b
  simp [up, h]
theorem up_eq {M : Mem} {i k : Nat} {v : Int32} : up M i k v i = fun b => if b = k then v else M i b := by
  funext b
  simp [up]
theorem up_at {M : Mem} {i k a b : Nat} {v : Int32} : up M i k v a b = if a = i ∧ b = k then v else M a b := rfl
theorem up_same {M : Mem} {i k : Nat} {v : Int32} : up M i k v i k = v := by simp [up]
theorem up_other {M : Mem} {i k a b : Nat} {v : Int32} (h : ¬ (a = i ∧ b = k)) : up M i k v a b = M a b := by simp only [up, if_neg h]
/-- the layout: kind and length of each cell -/
def ly_st : List (Nat × Nat) := [(6, 0), (13, 12), (14, 12), (10, 12)] ++ List.replicate 12 (0, 0) ++ [(2, 0), (10, 6), (2, 0), (10, 6), (2, 0), (10, 6), (2, 0), (10, 6), (2, 0), (10, 6), (2, 0), (10, 6), (2, 0), (10, 6), (2, 0), (10, 6), (2, 0), (10, 6), (2, 0), (10, 6), (2, 0), (10, 6), (2, 0), (10, 6)]
def ly_all : List (Nat × Nat) := [(7, 0)] ++ ly_st ++ ly_st ++ [(1, 0), (15, 4)] ++ ly_st ++ ly_st ++ ly_st ++ ly_st ++ [(3, 0), (11, 60), (10, 16), (10, 16), (10, 96)] ++ [(5, 0), (10, 12)] ++ [(4, 0), (10, 12), (10, 12), (10, 12), (10, 12)]
def tg (i : Nat) : Nat := (ly_all.getD i (99, 0)).1
def ln (i : Nat) : Nat := (ly_all.getD i (99, 0)).2
theorem ly_len : ly_all.length = 255 := by decide +kernel
theorem tg_lt {i t : Nat} (h : tg i = t) (ht : t < 99) : i < 255 := by
  rcases Nat.lt_or_ge i 255 with h1 | h1
  · exact h1
  · have h2 : tg i = 99 := by
      unfold tg
      rw [List.getD_eq_getElem?_getD, List.getElem?_eq_none (by rw [ly_len]; exact h1)]
      rfl
    omega
/-- the fields of a class: none: an int; some d: a reference to the cell d behind this one -/
def fld : Nat → List (Option Nat)
  | 0 => [none, none]
  | 1 => [some 1, none]
  | 2 => [some 1, none, none, none, none, none, none, none, none]
  | 3 => [some 1, none, none, some 2, some 3, some 4, none]
  | 4 => [some 1, some 2, some 3, some 4]
  | 5 => [some 1, none]
  | 6 => [some 1, some 2, none, none, none, none, none, some 3]
  | 7 => [some 1, some 41, none, some 81, some 243, some 248, some 250]
  | _ => []
def fl1 (ad : Nat → Nat) (i : Nat) (row : Nat → Int32) (o : Option Nat) (k : Nat) : Value := match o with
  | none => .int (row k)
  | some d => .ref (ad (i + d))
def fls (ad : Nat → Nat) (i : Nat) (row : Nat → Int32) (t : Nat) : List Value := (fld t).zipIdx.map (fun q => fl1 ad i row q.1 q.2)
theorem fls_at {ad : Nat → Nat} {i : Nat} {row : Nat → Int32} {t k : Nat} {o : Option Nat} (h : (fld t)[k]? = some o) : (fls ad i row t)[k]? = some (fl1 ad i row o k) := by
  simp [fls, h]
theorem fls_len {ad : Nat → Nat} {i : Nat} {row : Nat → Int32} {t : Nat} : (fls ad i row t).length = (fld t).length := by simp [fls]
theorem fls_set {ad : Nat → Nat} {i : Nat} {row row' : Nat → Int32} {t k : Nat} {v : Int32} (h : (fld t)[k]? = some none) (hr : row' = fun b => if b = k then v else row b) : (fls ad i row t).set k (.int v) = fls ad i row' t := by
  subst hr
  refine List.ext_getElem? fun j => ?_
  have hk : k < (fld t).length := (List.getElem?_eq_some_iff.mp h).1
  by_cases hj : j = k
  · subst hj
    rw [List.getElem?_set_self (by rw [fls_len]; exact hk), fls_at h]
    simp [fl1]
  · rw [List.getElem?_set_ne (Ne.symm hj)]
    simp only [fls, List.getElem?_map, List.getElem?_zipIdx]
    cases hq : (fld t)[j]? with
    | none => simp
    | some o =>
      cases o with
      | none => simp [fl1, hj]
      | some d => simp [fl1]
/-- the elements of an array of references, by its kind -/
def rfo (i t : Nat) (row : Nat → Int32) (j : Nat) : Nat := if t = 13 then i + 3 + j else if t = 14 then i + 14 + 2 * j else i + 1 + 40 * (row j).toNatClampNeg
def cel (cs : Nat → ClassId) (ad : Nat → Nat) (i : Nat) (row : Nat → Int32) : va_E :=
  if tg i < 9 then .inr (tg i, fls ad i row (tg i))
  else if tg i < 13 then .inl (cs (tg i - 10), ln i, .inl row)
  else .inl (cs (tg i - 10), ln i, .inr (.inr (.inr (.inr (fun j => some (ad (rfo i (tg i) row j)))))))
def tys (cs : Nat → ClassId) : List (ClassId × FieldType) := [(cs 0, .int), (cs 1, .char), (cs 2, .long), (cs 3, .object "FlatLottery$Flat"), (cs 4, .object "FlatLottery$Household"), (cs 5, .object "FlatLottery$State")]
def wd (cs : Nat → ClassId) (ad : Nat → Nat) (M : Mem) : va_W := (List.range 255).map (fun i => (ad i, cel cs ad i (M i)))
theorem wd_len {cs : Nat → ClassId} {ad : Nat → Nat} {M : Mem} : (wd cs ad M).length = 255 := by simp [wd]
theorem wd_at {cs : Nat → ClassId} {ad : Nat → Nat} {M : Mem} {i : Nat} (h : i < 255) : (wd cs ad M)[i]? = some (ad i, cel cs ad i (M i)) := by
  simp [wd, h]
theorem wd_obj {cs : Nat → ClassId} {ad : Nat → Nat} {M : Mem} {i t : Nat} (h : tg i = t) (ht : t < 9) : (wd cs ad M)[i]? = some (ad i, .inr (t, fls ad i (M i) t)) := by
  rw [wd_at (tg_lt h (by omega)), cel, if_pos (by rw [h]; exact ht), h]
theorem wd_arr {cs : Nat → ClassId} {ad : Nat → Nat} {M : Mem} {i t : Nat} (h : tg i = 10 + t) (ht : t < 3) : (wd cs ad M)[i]? = some (ad i, .inl (cs t, ln i, .inl (M i))) := by
  rw [wd_at (tg_lt h (by omega)), cel, if_neg (by omega), if_pos (by omega), h, Nat.add_sub_cancel_left]
theorem wd_ref {cs : Nat → ClassId} {ad : Nat → Nat} {M : Mem} {i t : Nat} (h : tg i = 13 + t) (ht : t < 3) : (wd cs ad M)[i]? = some (ad i, .inl (cs (3 + t), ln i, .inr (.inr (.inr (.inr (fun j => some (ad (rfo i (13 + t) (M i) j)))))))) := by
  rw [wd_at (tg_lt h (by omega)), cel, if_neg (by omega), if_neg (by omega), h, show 13 + t - 10 = 3 + t by omega]
theorem wd_set {cs : Nat → ClassId} {ad : Nat → Nat} {M M' : Mem} {i : Nat} {e : va_E} (h : i < 255) (he : e = cel cs ad i (M' i)) (hM : ∀ j, j ≠ i → M' j = M j) : (wd cs ad M).set i (ad i, e) = wd cs ad M' := by
  refine List.ext_getElem? fun j => ?_
  by_cases hj : j = i
  · subst hj
    rw [List.getElem?_set_self (by rw [wd_len]; exact h), wd_at h, he]
  · rw [List.getElem?_set_ne (Ne.symm hj)]
    rcases Nat.lt_or_ge j 255 with h1 | h1
    · rw [wd_at h1, wd_at h1, hM j hj]
    · rw [List.getElem?_eq_none (by rw [wd_len]; exact h1), List.getElem?_eq_none (by rw [wd_len]; exact h1)]
def AD (ad : Nat → Nat) : Nat → Prop := fun q => ∃ i, i < 255 ∧ q = ad i
def Inj (ad : Nat → Nat) : Prop := ∀ i j, i < 255 → j < 255 → ad i = ad j → i = j
theorem wd_D {cs : Nat → ClassId} {ad : Nat → Nat} {M : Mem} (h : Inj ad) : va_D (AD ad) (wd cs ad M) := by
  have key : ∀ (k : Nat) (q : Nat × va_E), (wd cs ad M)[k]? = some q → k < 255 ∧ q.1 = ad k := by
    intro k q hk
    have h1 : k < 255 := by
      have := (List.getElem?_eq_some_iff.mp hk).1
      rwa [wd_len] at this
    rw [wd_at h1] at hk
    cases hk
    exact ⟨h1, rfl⟩
  refine ⟨fun i j p q hi hj hpq => ?_, fun k q hk => ?_⟩
  · obtain ⟨a1, a2⟩ := key i p hi
    obtain ⟨b1, b2⟩ := key j q hj
    exact h i j a1 b1 (by rw [← a2, ← b2]; exact hpq)
  · obtain ⟨a1, a2⟩ := key k q hk
    exact ⟨k, a1, a2⟩
/-- the locals, by place: some: held; none: nothing is said -/
def lvp (ls : Array Slot) (nL : Nat) (lv : List (Option Value)) : Prop := ls.size = nL ∧ lv_wf ls ∧ ∀ (i : Nat) (v : Value), lv[i]? = some (some v) → ls[i]? = some (.val v) ∧ v.category = 1
def prs (lv : List (Option Value)) : List (Nat × Value) := (List.range lv.length).filterMap (fun i => (lv[i]?.getD none).map (fun v => (i, v)))
theorem prs_mem {lv : List (Option Value)} {i : Nat} {v : Value} : (i, v) ∈ prs lv ↔ lv[i]? = some (some v) := by
  unfold prs
  rw [List.mem_filterMap]
  constructor
  · rintro ⟨a, h1, h2⟩
    cases hq : lv[a]? with
    | none => rw [hq] at h2; cases h2
    | some o =>
      rw [hq] at h2
      cases o with
      | none => cases h2
      | some w =>
        cases h2
        exact hq
  · intro h
    refine ⟨i, List.mem_range.mpr (List.getElem?_eq_some_iff.mp h).1, ?_⟩
    rw [h]
    rfl
theorem lvp_has {ls : Array Slot} {nL : Nat} {lv : List (Option Value)} (h : lvp ls nL lv) : lv_has ls nL (prs lv) := ⟨h.1, h.2.1, fun q hq => (h.2.2 q.1 q.2 (prs_mem.mp hq)).1⟩
theorem lvp_set {ls ls' : Array Slot} {nL i : Nat} {lv lv' : List (Option Value)} {v : Value} (h : lvp ls nL lv) (hv : v.category = 1) (hl : lv.set i (some v) = lv') (h' : lv_has ls' nL ((i, v) :: (prs lv).filter (fun q => !(q.1 == i) && !(q.1 + 1 == i && q.2.category == 2)))) : lvp ls' nL lv' := by
  subst hl
  refine ⟨h'.1, h'.2.1, fun j w hj => ?_⟩
  by_cases e : j = i
  · subst e
    have hlt : j < lv.length := by
      have := (List.getElem?_eq_some_iff.mp hj).1
      rwa [List.length_set] at this
    rw [List.getElem?_set_self hlt] at hj
    cases hj
    exact ⟨h'.2.2 (j, v) List.mem_cons_self, hv⟩
  · rw [List.getElem?_set_ne (Ne.symm e)] at hj
    have hc := (h.2.2 j w hj).2
    refine ⟨h'.2.2 (j, w) (List.mem_cons_of_mem _ (List.mem_filter.mpr ⟨prs_mem.mpr hj, ?_⟩)), hc⟩
    simp [e, hc]
theorem lvp_sub {ls : Array Slot} {nL : Nat} {lv lv' : List (Option Value)} (h : lvp ls nL lv) (hs : ∀ (i : Nat) (v : Value), lv'[i]? = some (some v) → lv[i]? = some (some v)) : lvp ls nL lv' := ⟨h.1, h.2.1, fun i v hv => h.2.2 i v (hs i v hv)⟩
/-- the entry: the arguments first -/
theorem lvp_entry {vs : List Value} {n : Nat} (hn : vs.length ≤ n) (hc : ∀ v ∈ vs, v.category = 1) {lv : List (Option Value)} (hlv : lv = vs.map some ++ List.replicate (n - vs.length) none) : lvp (lg_sl vs ++ List.replicate (n - (lg_sl vs).length) Slot.unset).toArray n lv := by
  have hsl : lg_sl vs = vs.map Slot.val := by
    clear hn hlv
    induction vs with
    | nil => rfl
    | cons v vs ih =>
      have h1 := hc v List.mem_cons_self
      have h2 := ih (fun w hw => hc w (List.mem_cons_of_mem _ hw))
      unfold lg_sl at h2 ⊢
      rw [List.flatMap_cons, h2]
      simp [h1]
  have hlen : (lg_sl vs).length = vs.length := by rw [hsl, List.length_map]
  have h0 := lv_entry vs (n := n) (by rw [hlen]; exact hn)
  refine ⟨h0.1, h0.2.1, fun i v hv => ?_⟩
  subst hlv
  rcases Nat.lt_or_ge i vs.length with h1 | h1
  · rw [List.getElem?_append_left (by rw [List.length_map]; exact h1), List.getElem?_map] at hv
    have hv2 : vs[i]? = some v := by
      cases hq : vs[i]? with
      | none => rw [hq] at hv; cases hv
      | some w => rw [hq] at hv; cases hv; rfl
    refine ⟨?_, hc v (List.mem_of_getElem? hv2)⟩
    rw [hsl, List.getElem?_toArray, List.getElem?_append_left (by rw [List.length_map]; exact h1), List.getElem?_map, hv2]
    rfl
  · rw [List.getElem?_append_right (by rw [List.length_map]; exact h1)] at hv
    have := List.eq_of_mem_replicate (List.mem_of_getElem? hv)
    cases this
/-- an index within -/
def inb (x : Int32) (n : Nat) : Bool := decide (0 ≤ x.toInt ∧ x.toInt < n)
theorem inb_in {x : Int32} {n : Nat} (h : inb x n = true) : vp_in x n := vp_in_iff.mpr (of_decide_eq_true h)
theorem inb_lt {x : Int32} {n : Nat} (h : inb x n = true) : x.toNatClampNeg < n := by
  have := inb_in h
  exact Nat.not_le.mp fun q => this (Or.inr q)
theorem inb_nI {j n : Nat} (h : j < n) (hn : n < 2 ^ 31) : inb (nI j) n = true := decide_eq_true (vp_in_iff.mp (vp_in_nI h hn))
/-! the partial answers that the printed functions are made of -/
def ck {α : Type} (b : Bool) (o : Option α) : Option α := if b = true then o else none
def bd {α : Type} (o : Option (Int32 × Mem)) (k : Int32 → Mem → Option α) : Option α := match o with
  | some q => k q.1 q.2
  | none => none
theorem ck_of {α : Type} {b : Bool} {o : Option α} {a : α} (h : ck b o = some a) : b = true ∧ o = some a := by
  unfold ck at h
  by_cases hb : b = true
  · rw [if_pos hb] at h
    exact ⟨hb, h⟩
  · rw [if_neg hb] at h
    cases h
theorem ck_t {α : Type} {b : Bool} {o : Option α} (h : b = true) : ck b o = o := if_pos h
theorem bd_of {α : Type} {o : Option (Int32 × Mem)} {k : Int32 → Mem → Option α} {a : α} (h : bd o k = some a) : ∃ r M, o = some (r, M) ∧ k r M = some a := by
  cases o with
  | none => cases h
  | some q => exact ⟨q.1, q.2, rfl, h⟩
theorem bd_s {α : Type} {k : Int32 → Mem → Option α} {r : Int32} {M : Mem} : bd (some (r, M)) k = k r M := rfl
theorem bd_e {α : Type} {o : Option (Int32 × Mem)} {k : Int32 → Mem → Option α} {r : Int32} {M : Mem} (h : o = some (r, M)) : bd o k = k r M := by rw [h]; rfl
theorem ift {α : Type} {c : Prop} [Decidable c] {a b x : α} (hc : c) (h : (if c then a else b) = x) : a = x := by rwa [if_pos hc] at h
theorem iff_ {α : Type} {c : Prop} [Decidable c] {a b x : α} (hc : ¬ c) (h : (if c then a else b) = x) : b = x := by rwa [if_neg hc] at h
def lt_ {α : Type} (M : Mem) (k : Mem → Option α) : Option α := k M
def isb (x : Int32) : Bool := decide (x = 0 ∨ x = 1)
theorem isb_nar {x : Int32} (h : isb x = true) : narrow .boolean (.int x) = .int x := by
  rcases of_decide_eq_true h with rfl | rfl <;> rfl
theorem ly_all_i {P : Nat → Prop} (h : ∀ i, i < 255 → P i) {i : Nat} (hi : i < 255) : P i := h i hi
theorem rfo13 {i j : Nat} {row : Nat → Int32} : rfo i 13 row j = i + 3 + j := rfl
theorem rfo14 {i j : Nat} {row : Nat → Int32} : rfo i 14 row j = i + 14 + 2 * j := rfl
theorem rfo15 {i j : Nat} {row : Nat → Int32} : rfo i 15 row j = i + 1 + 40 * (row j).toNatClampNeg := rfl
theorem te_F0 : ∀ i, i < 255 → tg i = 13 → ∀ j, j < 12 → tg (i + 3 + j) = 0 := by decide +kernel
theorem te_H0 : ∀ i, i < 255 → tg i = 14 → ∀ j, j < 12 → tg (i + 14 + 2 * j) = 2 := by decide +kernel
theorem te_S0 : ∀ i, i < 255 → tg i = 15 → ∀ j, j < 4 → tg (i + 1 + 40 * j) = 6 := by decide +kernel
theorem te_F {i i' : Nat} {x : Int32} (h : tg i = 13) (hx : inb x 12 = true) (e : i + 3 + x.toNatClampNeg = i') : tg i' = 0 := by
  rw [← e]; exact te_F0 i (tg_lt h (by decide)) h _ (inb_lt hx)
theorem te_H {i i' : Nat} {x : Int32} (h : tg i = 14) (hx : inb x 12 = true) (e : i + 14 + 2 * x.toNatClampNeg = i') : tg i' = 2 := by
  rw [← e]; exact te_H0 i (tg_lt h (by decide)) h _ (inb_lt hx)
theorem te_S {i i' : Nat} {x : Int32} (h : tg i = 15) (hx : inb x 4 = true) (e : i + 1 + 40 * x.toNatClampNeg = i') : tg i' = 6 := by
  rw [← e]; exact te_S0 i (tg_lt h (by decide)) h _ (inb_lt hx)
def lkeep (ks : List Nat) (lv : List (Option Value)) : List (Option Value) := lv.zipIdx.map (fun q => if ks.contains q.2 then q.1 else none)
theorem lkeep_at {ks : List Nat} {lv lv' : List (Option Value)} (h : lkeep ks lv = lv') (i : Nat) (v : Value) (hv : lv'[i]? = some (some v)) : lv[i]? = some (some v) := by
  subst h
  simp only [lkeep, List.getElem?_map, List.getElem?_zipIdx] at hv
  cases hq : lv[i]? with
  | none => rw [hq] at hv; cases hv
  | some o =>
    rw [hq] at hv
    simp only [Option.map_some, Option.some.injEq] at hv
    split at hv
    · rw [hv]
    · cases hv
abbrev rmk (n : Nat) : Room := { frames := n, cells := 0, slots := 0, locals := 36 * n }
