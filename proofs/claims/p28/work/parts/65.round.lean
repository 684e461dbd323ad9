/-! A ROUND -/
theorem ord_co {s s' : Row} (h1 : nh s' = nh s) (h2 : ∀ o, fP s' o 2 = fP s o 2) (h3 : ∀ o, fP s' o 3 = fP s o 3) : drB s' = drB s ∧ ahB s' = ahB s ∧ atO s' = atO s ∧ drN s' = drN s := by
  have e1 : drB s' = drB s := by
    funext o
    unfold drB
    rw [h2]
  have e2 : ahB s' = ahB s := by
    funext o p
    unfold ahB
    rw [e1, h2, h2, h3, h3]
  refine ⟨e1, e2, ?_, ?_⟩
  · funext r
    unfold atO poN
    rw [e1, e2, h1]
  · unfold drN
    rw [e1, h1]
theorem elB_co {s s' : Row} {o f : Nat} (h0 : s' (30 + 14 * o + 0) = s (30 + 14 * o + 0)) (h1 : s' (30 + 14 * o + 1) = s (30 + 14 * o + 1)) (hf : s' (6 + 2 * f) = s (6 + 2 * f)) (hf2 : s' (6 + 2 * f + 1) = s (6 + 2 * f + 1)) : elB s' o f = elB s o f := by
  unfold elB fP rm rt
  rw [h0, h1, hf, hf2]
theorem foI_co {s s' : Row} (hI : Inv s) {o : Nat} (ho : o < nh s) (hb : ∀ k, k < 14 → k ≠ 4 → k ≠ 6 → s' (30 + 14 * o + k) = s (30 + 14 * o + k)) (hf : ∀ i, 6 ≤ i → i < 30 → s' i = s i) (tk : Int32) : foI s' o tk = foI s o tk := by
  have b0 := hI.h0l
  obtain ⟨⟨l1, l2⟩, l3, -⟩ := hI.ls ho
  have e7 : fP s' o 7 = fP s o 7 := by
    unfold fP
    rw [hb 7 (by omega) (by omega) (by omega)]
  have ew : ∀ k, k < 6 → s' (30 + 14 * o + 8 + k) = s (30 + 14 * o + 8 + k) := fun k hk => by
    have := hb (8 + k) (by omega) (by omega) (by omega)
    rwa [show 30 + 14 * o + (8 + k) = 30 + 14 * o + 8 + k by omega] at this
  have ek : foK s' o tk = foK s o tk := by
    unfold foK
    rw [e7]
    refine fstO_congr (fun j _ h2 => ?_)
    obtain ⟨-, l5⟩ := l3 j (by omega)
    have el : li s' o j = li s o j := by
      unfold li
      rw [ew j (by omega)]
    rw [ew j (by omega), el, elB_co (hb 0 (by omega) (by omega) (by omega)) (hb 1 (by omega) (by omega) (by omega)) (hf _ (by omega) (by omega)) (hf _ (by omega) (by omega))]
  unfold foI
  rw [ek]
  cases hq : foK s o tk with
  | none => rfl
  | some k =>
    have := (fstO_some hq).2.1
    exact ew k (by omega)
theorem foI_some {s : Row} (hI : Inv s) {h : Nat} (hh : h < nh s) {tk : Int32} (hn : ¬ foI s h tk = -5) : ∃ f, f < nf s ∧ foI s h tk = nI f ∧ bt tk f = false := by
  have b0 := hI.h0l
  obtain ⟨⟨l1, l2⟩, l3, -⟩ := hI.ls hh
  unfold foI at hn ⊢
  cases hq : foK s h tk with
  | none => rw [hq] at hn; exact absurd rfl hn
  | some k =>
    obtain ⟨-, q2, q3, -⟩ := fstO_some hq
    obtain ⟨l4, l5⟩ := l3 k (by omega)
    rw [Bool.and_eq_true] at q3
    have q4 := of_decide_eq_true q3.1
    rw [l4] at q4
    exact ⟨li s h k, l5, l4, (bt_shr (by omega)).mp q4⟩
theorem orI_or {g : Nat → Int32} {v : Int32} : ∀ {d i : Nat} {a : Int32}, orI g i d (a ||| v) = orI g i d a ||| v := by
  intro d
  induction d with
  | zero => intro i a; rfl
  | succ d ih =>
    intro i a
    unfold orI
    rw [← ih, Int32.or_assoc, Int32.or_comm v, ← Int32.or_assoc]
theorem orI_ins {g g' : Nat → Int32} {v : Int32} {h : Nat} : ∀ {d i : Nat} {a : Int32}, i ≤ h → h < i + d → g h = 0 → g' h = v → (∀ j, j ≠ h → g' j = g j) → orI g' i d a = orI g i d a ||| v := by
  intro d
  induction d with
  | zero => intro i a h1 h2; omega
  | succ d ih =>
    intro i a h1 h2 h3 h4 h5
    unfold orI
    by_cases e : i = h
    · subst e
      rw [h3, h4, Int32.or_zero, orI_congr (q := g) (fun j a b => h5 j (by omega))]
      exact orI_or
    · rw [h5 i e]
      exact ih (by omega) (by omega) h3 h4 h5
theorem hd_ur {s : Row} {h : Nat} {v : Int32} : hd (ur s (30 + 14 * h + 4) v) h = v := ur_eq
theorem hd_ur_ne {s : Row} {h o : Nat} {v : Int32} (e : o ≠ h) : hd (ur s (30 + 14 * h + 4) v) o = hd s o := ur_ne (by omega)
theorem nh_ur {s : Row} {j : Nat} {v : Int32} (h : 1 < j) : nh (ur s j v) = nh s := by
  unfold nh
  rw [ur_ne (by omega)]
theorem nf_ur {s : Row} {j : Nat} {v : Int32} (h : 1 < j) : nf (ur s j v) = nf s := by
  unfold nf
  rw [ur_ne (by omega)]
theorem hsI_give {s : Row} {h : Nat} {v : Int32} (hh : h < nh s) (h5 : hd s h = -5) (hv : ¬ v = -5) : hsI (ur s (30 + 14 * h + 4) v) = hsI s ||| ((1 : Int32) <<< (v &&& 31)) := by
  unfold hsI
  rw [nh_ur (by omega)]
  refine orI_ins (h := h) (Nat.zero_le _) (by omega) ?_ ?_ (fun j hj => ?_)
  · show (if hd s h = -5 then _ else _) = _
    rw [if_pos h5]
  · show (if hd (ur s (30 + 14 * h + 4) v) h = -5 then _ else _) = _
    rw [hd_ur, if_neg hv]
  · show (if hd (ur s (30 + 14 * h + 4) v) j = -5 then _ else _) = _
    rw [hd_ur_ne hj]
/-- field 6 says nothing -/
theorem Inv.pass {s : Row} (hI : Inv s) {h : Nat} (hh : h < nh s) (v : Int32) : Inv (ur s (30 + 14 * h + 6) v) := by
  refine hI.hh (Agr.up (by omega)) hh ((hI.nu hh).co2 (fun k hk _ => ur_ne (by omega))) ((hI.ls hh).co2 (nf_ur (by omega)) (fun k hk _ => ur_ne (by omega))) ((hI.hdk hh).co (nf_ur (by omega)) (ur_ne (by omega))) ?_ ?_ ?_
  · unfold hd
    rw [ur_ne (by omega)]
    exact fun h1 o ho he hq => he (hI.uh o h ho hh hq (by rw [show hd s o = hd s h from hq]; exact h1))
  · unfold fP
    rw [ur_ne (by omega)]
    exact fun h1 o ho he hq => he (hI.un o h ho hh hq (by rw [show fP s o 2 = fP s h 2 from hq]; exact h1))
  · rw [ur_ne (by omega), hI.2.2.2]
    congr 1
    refine sumN_congr (fun i _ => ?_)
    unfold fP
    rw [ur_ne (by omega)]
/-- what it holds changes: to nothing, or to a flat that nobody holds -/
theorem Inv.give {s : Row} (hI : Inv s) {h : Nat} (hh : h < nh s) {v : Int32} (hv : v = -5 ∨ ∃ f, f < nf s ∧ v = nI f) (hu : ¬ v = -5 → ∀ o, o < nh s → o ≠ h → hd s o ≠ v) : Inv (ur s (30 + 14 * h + 4) v) := by
  refine hI.hh (Agr.up (by omega)) hh ((hI.nu hh).co2 (fun k hk _ => ur_ne (by omega))) ((hI.ls hh).co2 (nf_ur (by omega)) (fun k hk _ => ur_ne (by omega))) ?_ ?_ ?_ ?_
  · unfold HdOk
    rw [hd_ur, nf_ur (by omega)]
    exact hv
  · rw [hd_ur]
    exact hu
  · unfold fP
    rw [ur_ne (by omega)]
    exact fun h1 o ho he hq => he (hI.un o h ho hh hq (by rw [show fP s o 2 = fP s h 2 from hq]; exact h1))
  · rw [ur_ne (by omega), hI.2.2.2]
    congr 1
    refine sumN_congr (fun i _ => ?_)
    unfold fP
    rw [ur_ne (by omega)]
theorem hsI_free {s : Row} (hI : Inv s) {f : Nat} (hf : f < 12) (hb : bt (hsI s) f = false) : ∀ o, o < nh s → hd s o ≠ nI f := by
  rw [hsI_bt hI hf] at hb
  intro o ho hq
  have : anyB (fun h => decide (hd s h = nI f)) 0 (nh s) = true := anyB_iff.mpr ⟨o, Nat.zero_le _, by omega, decide_eq_true hq⟩
  rw [hb] at this
  cases this
def rdL : Nat → Nat → Row → Nat → Row × Nat
  | 0, _, s, c => (s, c)
  | d + 1, i, s, c => match atO s (nI i) with
    | none => (s, c)
    | some h => if hd s h = -5 then (if foI s h (hsI s) = -5 then rdL d (i + 1) (ur s (30 + 14 * h + 6) (s (30 + 14 * h + 6) + 1)) c else rdL d (i + 1) (ur s (30 + 14 * h + 4) (foI s h (hsI s))) (c + 1)) else rdL d (i + 1) s c
theorem rdL_s {d i : Nat} {s : Row} {c h : Nat} (e : atO s (nI i) = some h) : rdL (d + 1) i s c = if hd s h = -5 then (if foI s h (hsI s) = -5 then rdL d (i + 1) (ur s (30 + 14 * h + 6) (s (30 + 14 * h + 6) + 1)) c else rdL d (i + 1) (ur s (30 + 14 * h + 4) (foI s h (hsI s))) (c + 1)) else rdL d (i + 1) s c := by
  show (match atO s (nI i) with | none => (s, c) | some h => _) = _
  rw [e]
theorem Inv.giveF {s : Row} (hI : Inv s) {h : Nat} (hh : h < nh s) (hn : ¬ foI s h (hsI s) = -5) : Inv (ur s (30 + 14 * h + 4) (foI s h (hsI s))) := by
  have b0 := hI.h0l
  obtain ⟨f, f1, f2, f3⟩ := foI_some hI hh hn
  refine hI.give hh (Or.inr ⟨f, f1, f2⟩) (fun _ o ho _ => ?_)
  rw [f2]
  exact hsI_free hI (by omega) f3 o ho
theorem ord_ur4 {s : Row} {h k : Nat} {v : Int32} (hk : k = 4 ∨ k = 6) : drB (ur s (30 + 14 * h + k) v) = drB s ∧ ahB (ur s (30 + 14 * h + k) v) = ahB s ∧ atO (ur s (30 + 14 * h + k) v) = atO s ∧ drN (ur s (30 + 14 * h + k) v) = drN s := ord_co (nh_ur (by omega)) (fun o => by unfold fP; rw [ur_ne (by omega)]) (fun o => by unfold fP; rw [ur_ne (by omega)])
theorem rdL_inv : ∀ {d i : Nat} {s : Row} {c : Nat}, Inv s → Zr s → i + d ≤ drN s → Inv (rdL d i s c).1 ∧ Zr (rdL d i s c).1 := by
  intro d
  induction d with
  | zero => intro i s c hI hZ _; exact ⟨hI, hZ⟩
  | succ d ih =>
    intro i s c hI hZ hi
    have b1 := hI.h1l
    obtain ⟨h, h1, -, -, h4⟩ := atO_ex hI (show i < drN s by omega)
    rw [rdL_s h4]
    split
    · split
      · exact ih (hI.pass h1 _) (hZ.up (by omega)) (by rw [(ord_ur4 (Or.inr rfl)).2.2.2]; omega)
      · rename_i q
        exact ih (hI.giveF h1 q) (hZ.up (by omega)) (by rw [(ord_ur4 (Or.inl rfl)).2.2.2]; omega)
    · exact ih hI hZ (by omega)
theorem up_id0 {M : Mem} {i k : Nat} : up M i k (M i k + 0) = M := by
  funext a b
  unfold up
  split
  · rename_i q
    rw [q.1, q.2, Int32.add_zero]
  · rfl
theorem k_give_l (D st : Nat) : ∀ (d i n c : Nat) (M : Mem) (s : Row), Inv s → RS M st s → drN s = D → i + d = D → d < n → (∀ r, r < D → ∃ h, h < nh s ∧ atO s (nI r) = some h ∧ M (st + 3) r = nI h) → ∃ M', l_X6_giveFlatsInOrder_15 st (nI D) n (nI c) (hsI s) (nI i) M = some (nI (rdL d i s c).2, M') ∧ RS M' st (rdL d i s c).1 ∧ ∀ q, q < st + 16 ∨ st + 40 ≤ q → M' q = M q := by
  intro d
  induction d with
  | zero =>
    intro i n c M s hI R hD hi hn ho
    obtain ⟨n, rfl⟩ : ∃ z, n = z + 1 := ⟨n - 1, by omega⟩
    have b1 := hI.h1l
    have b2 := drN_le (s := s)
    refine ⟨M, ?_, R, fun _ _ => rfl⟩
    rw [l_X6_giveFlatsInOrder_15_s, if_pos ((nIle (by omega) (by omega)).mpr (by omega))]
    rfl
  | succ d ih =>
    intro i n c M s hI R hD hi hn ho
    obtain ⟨n, rfl⟩ : ∃ z, n = z + 1 := ⟨n - 1, by omega⟩
    have b1 := hI.h1l
    have b2 := drN_le (s := s)
    obtain ⟨h, h1, h4, h5⟩ := ho i (by omega)
    rw [rdL_s h4, l_X6_giveFlatsInOrder_15_s, if_neg (fun q => absurd ((nIle (by omega) (by omega)).mp q) (by omega)), ck_t (inbN (by omega) (by omega)), nN (show i < 2147483648 by omega), h5, ck_t (inbN (by omega) (by omega)), nN (show h < 2147483648 by omega), R.hd h1, show (nI i : Int32) + 1 = nI (i + 1) from nI_1 i, show (nI c : Int32) + 1 = nI (c + 1) from nI_1 c]
    obtain ⟨a1, a2, a3, a4, a5, a6, a7, a8, a9⟩ := R.hr h1
    obtain ⟨c1, c2, c3, c4, c5⟩ := R.1
    by_cases c1 : hd s h = -5
    · rw [if_pos c1, if_pos c1, k_firstWish R hI h1, bd_s]
      by_cases c2 : foI s h (hsI s) = -5
      · rw [if_pos c2, if_pos c2]
        unfold lt_
        have hs : hsI (ur s (30 + 14 * h + 6) (s (30 + 14 * h + 6) + 1)) = hsI s := by
          unfold hsI
          rw [nh_ur (by omega)]
          refine orI_congr (fun j _ _ => ?_)
          unfold hd
          rw [ur_ne (by omega)]
        obtain ⟨M', e1, e2, e3⟩ := ih (i + 1) n c (up M (st + 16 + 2 * h) 8 (M (st + 16 + 2 * h) 8 + 1)) (ur s (30 + 14 * h + 6) (s (30 + 14 * h + 6) + 1)) (hI.pass h1 _) (by
          refine R.hh hI (h := h) (Agr.up (by omega)) (fun j _ _ h3 h4 => up_ne h3) ?_ (fun _ => ?_)
          · rw [up_ne (by omega), ur_ne (by omega), ur_ne (by omega), ur_ne (by omega)]
            exact ⟨rfl, rfl, c3, c4, c5⟩
          · have ef : fP (ur s (30 + 14 * h + 6) (s (30 + 14 * h + 6) + 1)) h 7 = fP s h 7 := by
              unfold fP
              rw [ur_ne (by omega)]
            have en : noI (ur s (30 + 14 * h + 6) (s (30 + 14 * h + 6) + 1)) h = noI s h := by
              unfold noI drB fP
              rw [ur_ne (by omega)]
            unfold HR hd
            rw [ef, en, up_other (by omega), up_other (by omega), up_other (by omega), up_other (by omega), up_other (by omega), up_other (by omega), up_other (by omega), up_same, ur_ne (by omega), ur_ne (by omega), ur_ne (by omega), ur_ne (by omega), ur_ne (by omega), ur_ne (by omega), ur_eq, a8]
            refine ⟨a1, a2, a3, a4, a5, a6, a7, rfl, fun k hk => ?_⟩
            rw [up_other (by omega), ur_ne (by omega)]
            exact a9 k hk) (by rw [(ord_ur4 (Or.inr rfl)).2.2.2]; exact hD) (by omega) (by omega) (fun r hr => by
              obtain ⟨h', g1, g4, g5⟩ := ho r hr
              refine ⟨h', by rw [nh_ur (by omega)]; exact g1, by rw [(ord_ur4 (Or.inr rfl)).2.2.1]; exact g4, ?_⟩
              rw [up_other (by omega)]
              exact g5)
        rw [hs] at e1
        exact ⟨M', e1, e2, fun q hq => by rw [e3 q hq, up_ne (by omega)]⟩
      · rw [if_neg c2, if_neg c2]
        unfold lt_
        obtain ⟨M', e1, e2, e3⟩ := ih (i + 1) n (c + 1) (up M (st + 16 + 2 * h) 6 (foI s h (hsI s))) (ur s (30 + 14 * h + 4) (foI s h (hsI s))) (hI.giveF h1 c2) (by
          refine R.hh hI (h := h) (Agr.up (by omega)) (fun j _ _ h3 h4 => up_ne h3) ?_ (fun _ => ?_)
          · rw [up_ne (by omega), ur_ne (by omega), ur_ne (by omega), ur_ne (by omega)]
            exact ⟨rfl, rfl, c3, c4, c5⟩
          · have ef : fP (ur s (30 + 14 * h + 4) (foI s h (hsI s))) h 7 = fP s h 7 := by
              unfold fP
              rw [ur_ne (by omega)]
            have en : noI (ur s (30 + 14 * h + 4) (foI s h (hsI s))) h = noI s h := by
              unfold noI drB fP
              rw [ur_ne (by omega)]
            unfold HR
            rw [hd_ur, ef, en, up_other (by omega), up_other (by omega), up_other (by omega), up_other (by omega), up_other (by omega), up_same, up_other (by omega), up_other (by omega), ur_ne (by omega), ur_ne (by omega), ur_ne (by omega), ur_ne (by omega), ur_ne (by omega), ur_ne (by omega)]
            refine ⟨a1, a2, a3, a4, a5, rfl, a7, a8, fun k hk => ?_⟩
            rw [up_other (by omega), ur_ne (by omega)]
            exact a9 k hk) (by rw [(ord_ur4 (Or.inl rfl)).2.2.2]; exact hD) (by omega) (by omega) (fun r hr => by
              obtain ⟨h', g1, g4, g5⟩ := ho r hr
              refine ⟨h', by rw [nh_ur (by omega)]; exact g1, by rw [(ord_ur4 (Or.inl rfl)).2.2.1]; exact g4, ?_⟩
              rw [up_other (by omega)]
              exact g5)
        rw [hsI_give h1 c1 c2] at e1
        exact ⟨M', e1, e2, fun q hq => by rw [e3 q hq, up_ne (by omega)]⟩
    · rw [if_neg c1, if_neg c1]
      exact ih (i + 1) n c M s hI R hD (by omega) (by omega) ho
theorem k_give {M : Mem} {st : Nat} {s : Row} (R : RS M st s) (hI : Inv s) : ∃ M', f_X6_giveFlatsInOrder st M = some (nI (rdL (drN s) 0 s 0).2, M') ∧ RS M' st (rdL (drN s) 0 s 0).1 ∧ ∀ q, q ≠ st + 3 → q < st + 16 ∨ st + 40 ≤ q → M' q = M q := by
  have b1 := hI.h1l
  have b2 := drN_le (s := s)
  obtain ⟨M1, e1, e2, e3⟩ := k_lineUp R hI
  obtain ⟨M', g1, g2, g3⟩ := k_give_l (drN s) st (drN s) 0 LF 0 M1 s hI (R.co hI (fun j _ _ hj => e2 j hj)) rfl (by omega) (by unfold LF; omega) (fun r hr => by
    obtain ⟨h, h1, h2, h3, h4, h5⟩ := e3 r hr
    exact ⟨h, h1, h4, h5⟩)
  refine ⟨M', ?_, g2, fun q hq h2 => by rw [g3 q h2, e2 q hq]⟩
  unfold f_X6_giveFlatsInOrder
  rw [k_heldFlats R hI, bd_s, e1, bd_s]
  exact g1
theorem rdL_ur2 {v : Int32} : ∀ {d i : Nat} {s : Row} {c : Nat}, Inv s → i + d ≤ drN s → rdL d i (ur s 2 v) c = (ur (rdL d i s c).1 2 v, (rdL d i s c).2) := by
  intro d
  induction d with
  | zero => intro i s c _ _; rfl
  | succ d ih =>
    intro i s c hI hi
    have b1 := hI.h1l
    obtain ⟨h, h1, -, -, h4⟩ := atO_ex hI (show i < drN s by omega)
    have h5 : atO (ur s 2 v) (nI i) = some h := by
      rw [(ord_co (s' := ur s 2 v) (s := s) (nh_ur (by omega)) (fun o => by unfold fP; rw [ur_ne (by omega)]) (fun o => by unfold fP; rw [ur_ne (by omega)])).2.2.1]
      exact h4
    have e1 : hd (ur s 2 v) h = hd s h := ur_ne (by omega)
    have e2 : hsI (ur s 2 v) = hsI s := by
      unfold hsI
      rw [nh_ur (by omega)]
      refine orI_congr (fun j _ _ => ?_)
      unfold hd
      rw [ur_ne (by omega)]
    have e3 : foI (ur s 2 v) h (hsI s) = foI s h (hsI s) := foI_co hI h1 (fun k _ _ _ => ur_ne (by omega)) (fun k _ _ => ur_ne (by omega)) _
    rw [rdL_s h4, rdL_s h5, e1, e2, e3]
    by_cases c1 : hd s h = -5
    · rw [if_pos c1, if_pos c1]
      by_cases c2 : foI s h (hsI s) = -5
      · rw [if_pos c2, if_pos c2, ur_ne (by omega), ur_comm (by omega)]
        exact ih (hI.pass h1 _) (by rw [(ord_ur4 (Or.inr rfl)).2.2.2]; omega)
      · rw [if_neg c2, if_neg c2, ur_comm (by omega)]
        exact ih (hI.giveF h1 c2) (by rw [(ord_ur4 (Or.inl rfl)).2.2.2]; omega)
    · rw [if_neg c1, if_neg c1]
      exact ih hI (by omega)
