/-! laying the lists -/
def layP (s : Row) (e : Nat × List Nat) (i : Nat) : Row := fun q => if q = 30 + 14 * e.1 + 7 then nI e.2.length else if 30 + 14 * e.1 + 8 ≤ q ∧ q < 30 + 14 * e.1 + 8 + i then nI (e.2.getD (q - (30 + 14 * e.1 + 8)) 0) else s q
def layS (s : Row) (e : Nat × List Nat) : Row := layP s e e.2.length
def layA (s : Row) (ls : List (Nat × List Nat)) : Row := ls.foldl layS s
theorem layA_cons {s : Row} {e : Nat × List Nat} {ls : List (Nat × List Nat)} : layA s (e :: ls) = layA (layS s e) ls := rfl
theorem layP_0 {s : Row} {e : Nat × List Nat} : layP s e 0 = ur s (30 + 14 * e.1 + 7) (nI e.2.length) := by
  funext q
  unfold layP ur
  by_cases c : q = 30 + 14 * e.1 + 7
  · rw [if_pos c, if_pos c]
  · rw [if_neg c, if_neg c, if_neg (by omega)]
theorem layP_s {s : Row} {e : Nat × List Nat} {i v : Nat} (hv : e.2[i]? = some v) : ur (layP s e i) (30 + 14 * e.1 + 8 + i) (nI v) = layP s e (i + 1) := by
  funext q
  show (if q = 30 + 14 * e.1 + 8 + i then nI v else layP s e i q) = layP s e (i + 1) q
  unfold layP
  by_cases c : q = 30 + 14 * e.1 + 8 + i
  · rw [if_pos c, if_neg (by omega), if_pos (by omega), show q - (30 + 14 * e.1 + 8) = i by omega, List.getD_eq_getElem?_getD, hv]
    rfl
  · rw [if_neg c]
    by_cases c2 : q = 30 + 14 * e.1 + 7
    · rw [if_pos c2, if_pos c2]
    · rw [if_neg c2, if_neg c2]
      by_cases c3 : 30 + 14 * e.1 + 8 ≤ q ∧ q < 30 + 14 * e.1 + 8 + i
      · rw [if_pos c3, if_pos (by omega)]
      · rw [if_neg c3, if_neg (by omega)]
theorem layP_ne {s : Row} {e : Nat × List Nat} {i q : Nat} (h : q < 30 + 14 * e.1 + 7 ∨ 30 + 14 * e.1 + 8 + i ≤ q) : layP s e i q = s q := by
  unfold layP
  rw [if_neg (by omega), if_neg (by omega)]
theorem layP_7 {s : Row} {e : Nat × List Nat} {i : Nat} : layP s e i (30 + 14 * e.1 + 7) = nI e.2.length := if_pos rfl
theorem layP_at {s : Row} {e : Nat × List Nat} {i k v : Nat} (hk : k < i) (hv : e.2[k]? = some v) : layP s e i (30 + 14 * e.1 + 8 + k) = nI v := by
  unfold layP
  rw [if_neg (by omega), if_pos (by omega), show 30 + 14 * e.1 + 8 + k - (30 + 14 * e.1 + 8) = k by omega, List.getD_eq_getElem?_getD, hv]
  rfl
theorem layS_agr {s : Row} {e : Nat × List Nat} (hl : e.2.length ≤ 6) : Agr s (layS s e) e.1 := fun i _ _ _ _ h => layP_ne (by omega)
theorem layS_Zr {s : Row} {e : Nat × List Nat} (ho : LiOk e) (hZ : Zr s) : Zr (layS s e) := fun i hi => by
  obtain ⟨o1, o2, -⟩ := ho
  unfold layS
  rw [layP_ne (by omega)]
  exact hZ i hi
theorem twL_ok : ∀ {l : List Nat} {m : Int32}, (∀ v, v ∈ l → v < 12) → twL m l = false → (∀ v, v ∈ l → bt m v = false) ∧ ∀ (k k' v : Nat), l[k]? = some v → l[k']? = some v → k = k' := by
  intro l
  induction l with
  | nil => intro m _ _; exact ⟨fun v hv => absurd hv List.not_mem_nil, fun k k' v h => by cases h⟩
  | cons a l ih =>
    intro m h12 h
    unfold twL at h
    rw [Bool.or_eq_false_iff] at h
    have ha := h12 a List.mem_cons_self
    obtain ⟨i1, i2⟩ := ih (fun v hv => h12 v (List.mem_cons_of_mem _ hv)) h.2
    have hne : ∀ v, v ∈ l → bt m v = false ∧ v ≠ a := by
      intro v hv
      have h3 := i1 v hv
      have hv12 := h12 v (List.mem_cons_of_mem _ hv)
      rw [bt_or, bt_shl a ha v (by omega), Bool.or_eq_false_iff] at h3
      exact ⟨h3.1, of_decide_eq_false h3.2⟩
    refine ⟨fun v hv => ?_, fun k k' v hk hk' => ?_⟩
    · rcases List.mem_cons.mp hv with g | g
      · rw [g]
        exact h.1
      · exact (hne v g).1
    · cases k with
      | zero =>
        cases k' with
        | zero => rfl
        | succ k' =>
          have e1 : a = v := Option.some.inj hk
          exact absurd e1.symm (hne v (List.mem_of_getElem? (i := k') hk')).2
      | succ k =>
        cases k' with
        | zero =>
          have e1 : a = v := Option.some.inj hk'
          exact absurd e1.symm (hne v (List.mem_of_getElem? (i := k) hk)).2
        | succ k' => rw [i2 k k' v hk hk']
theorem flB_at {s : Row} {l : List Nat} (h : flB s l = true) {v : Nat} (hv : v ∈ l) : v < nf s := of_decide_eq_true (List.all_eq_true.mp h v hv)
theorem layS_inv {s : Row} (hI : Inv s) {e : Nat × List Nat} (ho : LiOk e) (hk : knB s e = true) (ht : twL 0 e.2 = false) : Inv (layS s e) := by
  obtain ⟨o1, o2, o3⟩ := ho
  unfold knB at hk
  rw [Bool.and_eq_true] at hk
  have hh := of_decide_eq_true hk.1
  have g := layS_agr (s := s) o2
  have fs : ∀ k, k < 7 → layS s e (30 + 14 * e.1 + k) = s (30 + 14 * e.1 + k) := fun k hk => layP_ne (by omega)
  refine hI.hh g hh ((hI.nu hh).co2 (fun k hk _ => fs k (by omega))) ?_ ((hI.hdk hh).co g.xnf (fs 4 (by omega))) ?_ ?_ ?_
  · have e7 : fP (layS s e) e.1 7 = e.2.length := by
      unfold fP layS
      rw [layP_7, nN (by omega)]
    have ek : ∀ k v, e.2[k]? = some v → layS s e (30 + 14 * e.1 + 8 + k) = nI v ∧ li (layS s e) e.1 k = v := fun k v hv => by
      have h1 : layS s e (30 + 14 * e.1 + 8 + k) = nI v := layP_at (at_lt hv) hv
      have h2 := o3 v (List.mem_of_getElem? hv)
      refine ⟨h1, ?_⟩
      unfold li
      rw [h1, nN (by omega)]
    unfold LsOk
    rw [e7, g.xnf]
    refine ⟨⟨layP_7, o2⟩, fun k hk2 => ?_, fun k k' hk2 hk3 hq => ?_⟩
    · obtain ⟨v, hv⟩ := at_ex hk2
      obtain ⟨h1, h2⟩ := ek k v hv
      rw [h1, h2]
      exact ⟨rfl, flB_at hk.2 (List.mem_of_getElem? hv)⟩
    · obtain ⟨v, hv⟩ := at_ex hk2
      obtain ⟨v', hv'⟩ := at_ex hk3
      rw [(ek k v hv).2, (ek k' v' hv').2] at hq
      subst hq
      exact (twL_ok o3 ht).2 k k' v hv hv'
  · unfold hd
    rw [fs 4 (by omega)]
    exact fun h1 o ho he hq => he (hI.uh o e.1 ho hh hq (by rw [show hd s o = hd s e.1 from hq]; exact h1))
  · unfold fP
    rw [fs 2 (by omega)]
    exact fun h1 o ho he hq => he (hI.un o e.1 ho hh hq (by rw [show fP s o 2 = fP s e.1 2 from hq]; exact h1))
  · rw [show layS s e 3 = s 3 from layP_ne (by omega), hI.2.2.2]
    congr 1
    refine sumN_congr (fun i _ => ?_)
    by_cases c : i = e.1
    · subst c
      unfold fP
      rw [fs 5 (by omega)]
    · exact (g.xfP c (by omega)).symm
theorem knB_co {s s' : Row} (h1 : nh s' = nh s) (h2 : nf s' = nf s) : knB s' = knB s := by
  funext e
  unfold knB flB
  rw [h1, h2]
theorem knA_co {s s' : Row} (h1 : nh s' = nh s) (h2 : nf s' = nf s) {ls : List (Nat × List Nat)} : knA s' ls = knA s ls := by
  unfold knA
  rw [knB_co h1 h2]
theorem layA_inv : ∀ {ls : List (Nat × List Nat)} {s : Row}, Inv s → Zr s → (∀ e, e ∈ ls → LiOk e) → knA s ls = true → twA ls = false → Inv (layA s ls) ∧ Zr (layA s ls) := by
  intro ls
  induction ls with
  | nil => intro s hI hZ _ _ _; exact ⟨hI, hZ⟩
  | cons e ls ih =>
    intro s hI hZ ho hk ht
    rw [knA_cons, Bool.and_eq_true] at hk
    rw [twA_cons, Bool.or_eq_false_iff] at ht
    have o := ho e List.mem_cons_self
    have g := layS_agr (s := s) o.2.1
    exact ih (layS_inv hI o hk.1 ht.1) (layS_Zr o hZ) (fun e' he' => ho e' (List.mem_cons_of_mem _ he')) (by rw [knA_co g.xnh g.xnf]; exact hk.2) ht.2
/-! the class lays -/
theorem k_lay_i {ls : List (Nat × List Nat)} (hlen : ls.length ≤ 16) (hok : ∀ e, e ∈ ls → LiOk e) {j : Nat} {e : Nat × List Nat} (he : ls[j]? = some e) {g : Nat} (hg : g + 1 < 243) (k : Mem → Option (Int32 × Mem)) : ∀ (d i f : Nat) (M : Mem), ShC M ls → M g 1 = nI i → (∀ k v, k < i → e.2[k]? = some v → M (g + 1) k = nI v) → i + d = e.2.length → d < f → ∃ M', l_X3_layLists_45 (nI j) g k f (nI i) M = k M' ∧ M' g 1 = nI e.2.length ∧ (∀ k v, e.2[k]? = some v → M' (g + 1) k = nI v) ∧ (∀ k, k ≠ 1 → M' g k = M g k) ∧ ∀ q, q ≠ g → q ≠ g + 1 → M' q = M q := by
  have hj := at_lt he
  obtain ⟨o1, o2, o3⟩ := hok e (List.mem_of_getElem? he)
  intro d
  induction d with
  | zero =>
    intro i f M hs hc hw hi hf
    obtain ⟨f, rfl⟩ : ∃ z, f = z + 1 := ⟨f - 1, by omega⟩
    obtain ⟨g1, g2, g3⟩ := hs j e he
    refine ⟨M, ?_, ?_, fun k v hv => hw k v (by have := at_lt hv; omega) hv, fun _ _ => rfl, fun _ _ _ => rfl⟩
    · rw [l_X3_layLists_45_s, ck_t (inbN (by omega) (by omega)), nN (by omega), g2, if_pos ((nIle (by omega) (by omega)).mpr (by omega))]
    · rw [hc, show i = e.2.length by omega]
  | succ d ih =>
    intro i f M hs hc hw hi hf
    obtain ⟨f, rfl⟩ : ∃ z, f = z + 1 := ⟨f - 1, by omega⟩
    obtain ⟨g1, g2, g3⟩ := hs j e he
    obtain ⟨v, hv⟩ := at_ex (show i < e.2.length by omega)
    rw [l_X3_layLists_45_s, ck_t (inbN (by omega) (by omega)), nN (show j < 2147483648 by omega), g2, if_neg (fun q => absurd ((nIle (by omega) (by omega)).mp q) (by omega)), show (6 : Int32) = nI 6 from rfl, pk_mul, nI_add, ck_t (inbN (by omega) (by omega)), nN (by omega), g3 i v hv]
    unfold f_X2_addWish
    rw [hc, if_neg (n6 (by omega)), ck_t (inbN (by omega) (by omega)), nN (by omega), lt_e, up_ne (show g ≠ g + 1 by omega), hc, lt_e, bd_s, show (nI i : Int32) + 1 = nI (i + 1) from nI_1 i]
    obtain ⟨M', e1, e2, e3, e4, e5⟩ := ih (i + 1) f (up (up M (g + 1) i (nI v)) g 1 (nI (i + 1))) (fun j' e' he' => by
      rw [up_ne (show 245 ≠ g by omega), up_ne (show 246 ≠ g by omega), up_ne (show 247 ≠ g by omega), up_ne (show 245 ≠ g + 1 by omega), up_ne (show 246 ≠ g + 1 by omega), up_ne (show 247 ≠ g + 1 by omega)]
      exact hs j' e' he') up_same (fun k w hk hkw => by
      rw [up_ne (by omega)]
      by_cases c : k = i
      · subst c
        rw [hv] at hkw
        cases hkw
        exact up_same
      · rw [up_other (fun q => c q.2)]
        exact hw k w (by omega) hkw) (by omega) (by omega)
    refine ⟨M', e1, e2, e3, fun k hk => ?_, fun q h1 h2 => ?_⟩
    · rw [e4 k hk, up_other (fun q => hk q.2), up_ne (by omega)]
    · rw [e5 q h1 h2, up_ne h1, up_ne h2]
theorem k_lay_l {st : Nat} (hst : st + 40 ≤ 243) {ls : List (Nat × List Nat)} (hlen : ls.length ≤ 16) (hok : ∀ e, e ∈ ls → LiOk e) : ∀ (d j f : Nat) (M : Mem) (s : Row), ShC M ls → M 243 2 = nI ls.length → RS M st s → Inv s → knA s (ls.drop j) = true → twA (ls.drop j) = false → j + d = ls.length → d < f → ∃ M', l_X3_layLists_2 st f (nI j) M = some (0, M') ∧ RS M' st (layA s (ls.drop j)) ∧ ∀ q, q < st + 16 ∨ st + 40 ≤ q → M' q = M q := by
  intro d
  induction d with
  | zero =>
    intro j f M s hs hc R hI hk ht hj hf
    obtain ⟨f, rfl⟩ : ∃ z, f = z + 1 := ⟨f - 1, by omega⟩
    refine ⟨M, ?_, ?_, fun _ _ => rfl⟩
    · rw [l_X3_layLists_2_s, hc, if_pos ((nIle (by omega) (by omega)).mpr (by omega))]
    · rw [List.drop_eq_nil_of_le (by omega)]
      exact R
  | succ d ih =>
    intro j f M s hs hc R hI hk ht hj hf
    obtain ⟨f, rfl⟩ : ∃ z, f = z + 1 := ⟨f - 1, by omega⟩
    obtain ⟨e, he⟩ := at_ex (show j < ls.length by omega)
    obtain ⟨g1, g2, g3⟩ := hs j e he
    have o := hok e (List.mem_of_getElem? he)
    obtain ⟨o1, o2, o3⟩ := o
    have b1 := hI.h1l
    rw [drop_at he] at hk ht ⊢
    rw [knA_cons, Bool.and_eq_true] at hk
    rw [twA_cons, Bool.or_eq_false_iff] at ht
    have hkn := hk.1
    unfold knB at hkn
    rw [Bool.and_eq_true] at hkn
    have hh := of_decide_eq_true hkn.1
    rw [l_X3_layLists_2_s, hc, if_neg (fun q => absurd ((nIle (by omega) (by omega)).mp q) (by omega)), ck_t (inbN (by omega) (by omega)), nN (show j < 2147483648 by omega), g1, k_hasHousehold R hI, bd_s, inbN hh (by omega), if_neg bIne, ck_t (inbN (by omega) (by omega)), nN (by omega), lt_e, show (nI j : Int32) + 1 = nI (j + 1) from nI_1 j, layA_cons]
    obtain ⟨M1, f1, f2, f3, f4, f5⟩ := k_lay_i hlen hok he (g := st + 16 + 2 * e.1) (by omega) (fun (M17 : Mem) => l_X3_layLists_2 st f (nI (j + 1)) M17) e.2.length 0 LF (up M (st + 16 + 2 * e.1) 1 0) (fun j' e' he' => by
      rw [up_ne (show 245 ≠ st + 16 + 2 * e.1 by omega), up_ne (show 246 ≠ st + 16 + 2 * e.1 by omega), up_ne (show 247 ≠ st + 16 + 2 * e.1 by omega)]
      exact hs j' e' he') up_same (fun k v hk => absurd hk (Nat.not_lt_zero _)) (by omega) (by unfold LF; omega)
    have g := layS_agr (s := s) o2
    have hfr : ∀ q, q ≠ st + 16 + 2 * e.1 → q ≠ st + 16 + 2 * e.1 + 1 → M1 q = M q := fun q h1 h2 => by rw [f5 q h1 h2, up_ne h1]
    have hf1 : ∀ k, k ≠ 1 → M1 (st + 16 + 2 * e.1) k = M (st + 16 + 2 * e.1) k := fun k hk => by rw [f4 k hk, up_other (fun q => hk q.2)]
    have R1 : RS M1 st (layS s e) := by
      have fs : ∀ k, k < 7 → layS s e (30 + 14 * e.1 + k) = s (30 + 14 * e.1 + k) := fun k hk => layP_ne (by omega)
      obtain ⟨c1, c2, c3, c4, c5⟩ := R.1
      obtain ⟨a1, a2, a3, a4, a5, a6, a7, a8, a9⟩ := R.hr hh
      refine R.hh hI (h := e.1) g (fun q _ _ h1 h2 => hfr q h1 h2) ?_ (fun _ => ?_)
      · rw [hfr st (by omega) (by omega), show layS s e 2 = s 2 from layP_ne (by omega), show layS s e 4 = s 4 from layP_ne (by omega), show layS s e 5 = s 5 from layP_ne (by omega)]
        exact ⟨rfl, rfl, c3, c4, c5⟩
      · have e7 : fP (layS s e) e.1 7 = e.2.length := by
          unfold fP layS
          rw [layP_7, nN (by omega)]
        have en : noI (layS s e) e.1 = noI s e.1 := by
          unfold noI drB fP
          rw [fs 2 (by omega)]
        have eh : hd (layS s e) e.1 = hd s e.1 := fs 4 (by omega)
        unfold HR
        rw [eh, e7, en, hf1 2 (by omega), hf1 3 (by omega), hf1 4 (by omega), hf1 5 (by omega), hf1 6 (by omega), hf1 7 (by omega), hf1 8 (by omega), fs 0 (by omega), fs 1 (by omega), fs 3 (by omega), fs 5 (by omega), fs 6 (by omega)]
        refine ⟨?_, a2, a3, a4, a5, a6, a7, a8, fun k hk => ?_⟩
        · rw [f2]
          exact layP_7.symm
        · obtain ⟨v, hv⟩ := at_ex hk
          rw [f3 k v hv]
          exact (layP_at hk hv).symm
    obtain ⟨M', h1, h2, h3⟩ := ih (j + 1) f M1 (layS s e) (fun j' e' he' => by
      rw [hfr 245 (by omega) (by omega), hfr 246 (by omega) (by omega), hfr 247 (by omega) (by omega)]
      exact hs j' e' he') (by rw [hfr 243 (by omega) (by omega)]; exact hc) R1 (layS_inv hI ⟨o1, o2, o3⟩ hk.1 ht.1) (by rw [knA_co g.xnh g.xnf]; exact hk.2) ht.2 (by omega) (by omega)
    refine ⟨M', f1.trans h1, h2, fun q hq => ?_⟩
    rw [h3 q hq, hfr q (by omega) (by omega)]
