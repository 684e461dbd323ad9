/-! the class swaps -/
theorem swL_fP {s : Row} {a k o j : Nat} (h4 : j < 14) (hj : j ≠ 4) : fP (swL s a k) o j = fP s o j := by
  unfold fP
  rw [swL_fld (fun p => by omega)]
theorem k_swapRing_l {st : Nat} {s : Row} (hst : st + 40 ≤ 248) (hI : Inv s) {a m : Nat} (ha : a < nh s) (r : Ring s a m) : ∀ (d i n : Nat) (M : Mem), i + d = m → 1 ≤ d → d < n → PT M s → RS M st (swL s a i) → ∃ M', l_X5_swapRingOf_16 (nI a) st (hd s a) n (nI (vA s a i)) (nI (i + 1)) M = some (nI m, M') ∧ RS M' st (swL s a m) ∧ ∀ q, q < st + 16 ∨ st + 40 ≤ q → M' q = M q := by
  have b0 := hI.h0l
  have b1 := hI.h1l
  have b2 := r.le ha
  intro d
  induction d with
  | zero => intro i n M hi h1; omega
  | succ d ih =>
    intro i n M hi h1 hn P R
    obtain ⟨n, rfl⟩ : ∃ z, n = z + 1 := ⟨n - 1, by omega⟩
    have hv := r.lt ha (k := i) (by omega)
    have hv2 := r.lt ha (k := i + 1) (by omega)
    have step := RS_held R (h := vA s a i) (v := hd s (vA s a (i + 1))) (by rw [swL_nf]; exact b0) (by rw [swL_nh]; exact b1) (fun o ho => by
      rw [swL_nh] at ho
      rw [swL_fP (by omega) (by omega)]
      exact (hI.ls ho).1.2)
    have haft : f_X5_after (nI (vA s a i)) M = some (nI (vA s a (i + 1)), M) := by
      have := k_after hI P (o := some (vA s a i)) (fun x hx => by cases hx; exact hv)
      rw [show st1 s (some (vA s a i)) = some (vA s a (i + 1)) from r.nx (by omega)] at this
      exact this
    rw [l_X5_swapRingOf_16_s, P.1, if_neg (fun q => absurd ((nIlt (by omega) (by omega)).mp q) (by omega)), haft, bd_s, if_neg (nIne5 (by omega))]
    by_cases c : i + 1 = m
    · rw [if_pos (by rw [c, r.end_]), ck_t (inbN (by omega) (by omega)), nN (by omega), lt_e]
      refine ⟨_, by rw [c], ?_, fun q hq => up_ne (by omega)⟩
      have e1 : hd s (vA s a (i + 1)) = hd s a := by rw [c, r.end_]
      rw [e1] at step
      rw [show m = i + 1 by omega]
      show RS _ st (ur (swL s a i) (30 + 14 * vA s a i + 4) (hd s (vA s a (i + 1))))
      rw [e1]
      exact step
    · have e2 : M (st + 16 + 2 * vA s a (i + 1)) 6 = hd s (vA s a (i + 1)) := by
        rw [R.hd (by rw [swL_nh]; exact hv2), swL_hd_ne (fun j hj q => by
          have := r.inj (i := i + 1) (j := j) (by omega) (by omega) q
          omega)]
      rw [if_neg (fun q => by
        have e3 := nI_inj (by omega) (by omega) q
        have := r.inj (i := i + 1) (j := 0) (by omega) (by omega) e3
        omega), ck_t (inbN (by omega) (by omega)), ck_t (inbN (by omega) (by omega)), nN (by omega), nN (by omega), e2, lt_e, show (nI (i + 1) : Int32) + 1 = nI (i + 1 + 1) from nI_1 (i + 1)]
      obtain ⟨M', g1, g2, g3⟩ := ih (i + 1) n (up M (st + 16 + 2 * vA s a i) 6 (hd s (vA s a (i + 1)))) (by omega) (by omega) (by omega) ⟨by rw [up_ne (by omega)]; exact P.1, fun j hj => by rw [up_ne (by omega)]; exact P.2 j hj⟩ step
      exact ⟨M', g1, g2, fun q hq => by rw [g3 q hq, up_ne (by omega)]⟩
theorem k_swapRing {M : Mem} {st : Nat} {s : Row} (hst : st + 40 ≤ 248) (hI : Inv s) {a m : Nat} (ha : a < nh s) (r : Ring s a m) (P : PT M s) (R : RS M st s) : ∃ M', f_X5_swapRingOf (nI a) st M = some (nI m, M') ∧ RS M' st (swL s a m) ∧ ∀ q, q < st + 16 ∨ st + 40 ≤ q → M' q = M q := by
  have b1 := hI.h1l
  have b2 := r.le ha
  unfold f_X5_swapRingOf
  rw [ck_t (inbN (by omega) (by omega)), nN (by omega), R.hd ha]
  exact k_swapRing_l hst hI ha r m 0 LF M (by omega) r.1 (by unfold LF; omega) P R
theorem n1000 {k : Nat} (h : k < 1000) : ¬ (1000 : Int32) ≤ nI k := fun q => absurd ((nIle (a := 1000) (b := k) (by omega) (by omega)).mp q) (by omega)
theorem k_swapAll_l {st : Nat} (hst : st + 40 ≤ 248) : ∀ (d n c i : Nat) (M : Mem) (s : Row), Inv s → RS M st s → pot s < d → d < n → i + d ≤ 1000 → ∃ M', l_X5_swapAll_4 st n (nI c) (nI i) M = some (nI (swA d s c).2, M') ∧ RS M' st (swA d s c).1 ∧ ∀ q, q ≠ 248 → q ≠ 249 → q < st + 16 ∨ st + 40 ≤ q → M' q = M q := by
  intro d
  induction d with
  | zero => intro n c i M s hI R hp; omega
  | succ d ih =>
    intro n c i M s hI R hp hn hi
    obtain ⟨n, rfl⟩ : ∃ z, n = z + 1 := ⟨n - 1, by omega⟩
    have b0 := hI.h0l
    have b1 := hI.h1l
    obtain ⟨M1, e1, e2, e3⟩ := k_lookAt hst R hI
    have R1 : RS M1 st s := R.co hI (fun j _ _ _ => e3 j (by omega) (by omega))
    rw [l_X5_swapAll_4_s, if_neg (n1000 (by omega)), e1, bd_s, k_lowest hI e2, bd_s, show (nI i : Int32) + 1 = nI (i + 1) from nI_1 i]
    unfold swA
    cases hq : loO s with
    | none =>
      rw [if_pos (show oI none = -5 from rfl)]
      exact ⟨M1, rfl, R1, fun q h1 h2 _ => e3 q h1 h2⟩
    | some a =>
      obtain ⟨ha, r⟩ := loO_some hq
      obtain ⟨M2, g1, g2, g3⟩ := k_swapRing hst hI ha r e2 R1
      rw [if_neg (show ¬ oI (some a) = -5 from nIne5 (by omega)), show oI (some a) = nI a from rfl, g1, bd_s, nI_add]
      obtain ⟨M', f1, f2, f3⟩ := ih n (c + peN s a) (i + 1) M2 (swL s a (peN s a)) (swL_inv hI ha r) g2 (by
        have := pot_lt hI ha r
        omega) (by omega) (by omega)
      exact ⟨M', f1, f2, fun q h1 h2 h3 => by rw [f3 q h1 h2 h3, g3 q h3, e3 q h1 h2]⟩
