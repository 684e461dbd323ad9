theorem nX1_init_1 : ∀ w ∈ u_ws RX1 TX1 2, w ∈ wsX1_init := in_r [29, 30] (by decide +kernel)
theorem nX1_init_6 : ∀ w ∈ u_ws RX6 TX6 8, w ∈ wsX1_init := in_r [31, 32, 33, 34, 35, 36, 37, 38] (by decide +kernel)
def M0 : Mem := fun i j => if i = 82 then nI j else 0
theorem M0_z {i : Nat} (h : i ≠ 82) : M0 i = fun _ => 0 := by
  funext j
  exact if_neg h
theorem sgm.row {cs : Nat → ClassId} {n : Nat} {ad : Nat → Nat} {ce : Nat → va_E} {b : Nat} {L : List (Nat × Nat)} {row row2 : Nat → Nat → Int32} (h : sgm cs n ad ce b L row) (hr : ∀ k, k < L.length → row2 (b + k) = row (b + k)) : sgm cs n ad ce b L row2 := by
  intro k x hx
  rw [hr k (List.getElem?_eq_some_iff.mp hx).1]
  exact h k x hx
def lySs (j : Nat) : List (Nat × Nat) := (List.replicate j ly_st).flatten
theorem ly_st_len : ly_st.length = 40 := by decide +kernel
theorem lySs_s (j : Nat) : lySs (j + 1) = lySs j ++ ly_st := by
  unfold lySs
  rw [List.replicate_succ', List.flatten_append]
  simp
theorem lySs_len (j : Nat) : (lySs j).length = 40 * j := by
  induction j with
  | zero => rfl
  | succ j ih => rw [lySs_s, List.length_append, ih, ly_st_len]; omega
def lyH : List (Nat × Nat) := [(1, 0)] ++ ([(15, 4)] ++ lySs 4)
theorem lyH_len : lyH.length = 162 := by decide +kernel
def XH : State → Prop := fun U => XS U ∧ va_AO RX6 U
theorem xb_XH : XB XH := ⟨fun s U hW h => ⟨xb_XS.1 s U hW h.1, va_AO.moved hW.alike h.2⟩, fun U U' q h => ⟨xb_XS.2 U U' q h.1, va_AO.moved (q ▸ Vm.Alike.refl U.vm) h.2⟩⟩

set_option maxHeartbeats 4000000 in
set_option maxRecDepth 100000 in
theorem hi_loop {p : Program} {l : Launch} {e : Env} {s : State} {m : MethodId} {args : Array Value} {below : List Frame} {meth : Method} {c : Code} {D : va_G} {cs : Nat → ClassId} {A : Nat → Prop} (C : CxC p s m args meth c RX1 cX1_init 2 wsX1_init D cs A) (hr : meth.sig.returnType = none) (hXs : XH s) {ad0 : Nat → Nat} {ce0 : Nat → va_E} : ∀ (d j n : Nat) (ad : Nat → Nat) (ce : Nat → va_E) (f : Nat → Option Nat), j + d = 4 → n = 83 + 40 * j → (∀ i, i < 82 → ad i = ad0 i) → (∀ i, i < 81 → ce i = ce0 i) → ce 81 = .inr (1, [.ref (ad 82), .int 0]) → ce 82 = .inl (cs 5, 4, .inr (.inr (.inr (.inr f)))) → (∀ i, i < j → f i = some (ad (83 + 40 * i))) → sgm cs n ad ce 83 (lySs j) M0 →
    VC p l e (rmC 3 161 996) s m args below meth c 2 D A (QC below s args D cs A 161 996 81 82 ad0 ce0 243 lyH M0) (1 + 40 * j) (4 + 248 * j) 14 [some (.ref (ad0 81)), some (.int (nI j))] [] n ad ce := by
  intro d
  induction d with
  | zero =>
    intro j n ad ce f hj hn ha hc hb hq hf hsg
    have hj4 : j = 4 := by omega
    subst hj4
    subst hn
    refine y_iload_n C dX1_init_14 rfl rfl ?_
    refine y_iconst (v := (4 : Int32)) C dX1_init_15 (by decide) ?_
    refine y_icmp_ge (tgt := 38) C dX1_init_16 (by decide) (fun _ => ?_) (fun z => absurd (by decide : (4 : Int32) ≤ nI 4) z)
    refine y_vret C hr ha (fun i hi hib => hc i (by omega)) ?_ ⟨_, hb⟩ rfl rfl dX1_init_38
    refine sgm.app (b2 := 82) (sgm.one (okc_eq fun ad2 h => ?_)) (sgm.app (b2 := 83) (sgm.one ?_) hsg rfl) rfl
    · rw [hb]
      show (.inr (1, [.ref (ad 82), .int 0]) : va_E) = .inr (1, [.ref (ad2 82), .int 0])
      rw [h 82 (by omega)]
    · rw [hq]
      refine okc_ref (t := 15) (by decide) (fun i hi => ?_)
      rw [rfo15, show (M0 82 i).toNatClampNeg = i from nI_clamp (by omega)]
      refine ⟨by omega, ?_⟩
      rw [hf i hi]
  | succ d ih =>
    intro j n ad ce f hj hn ha hc hb hq hf hsg
    refine y_iload_n C dX1_init_14 rfl rfl ?_
    refine y_iconst (v := (4 : Int32)) C dX1_init_15 (by decide) ?_
    refine y_icmp_ge (tgt := 38) C dX1_init_16 (by decide) (fun z => ?_) (fun _ => ?_)
    · exact absurd z (nI_ge (b := 4) (by omega) (by decide))
    refine y_aload_n C dX1_init_19 rfl rfl ?_
    refine y_get (Cn := RX1) (T := TX1) (N := 2) (i := 81) C (by omega) (ha 81 (by omega)) hb rfl nX1_init_1 0 (by decide) (v := .ref (ad 82)) rfl (List.mem_of_getElem? (i := 5) rfl) rfl dX1_init_20 ?_
    refine y_iload_n C dX1_init_23 rfl rfl ?_
    refine y_new (t := 6) (fs := [.null, .null, .int 0, .int 0, .int 0, .int 0, .int 0, .null]) C rfl nX1_init_6 tyX6 tyX6_ok (List.mem_of_getElem? (i := 4) rfl) (List.mem_of_getElem? (i := 6) rfl) (List.mem_of_getElem? (i := 7) rfl) (fun k hk => by rcases (show k = 0 ∨ k = 1 ∨ k = 2 ∨ k = 3 ∨ k = 4 ∨ k = 5 ∨ k = 6 ∨ k = 7 by omega) with rfl | rfl | rfl | rfl | rfl | rfl | rfl | rfl <;> rfl) (by show 1 + 40 * j + 1 ≤ 161; omega) (by show 4 + 248 * j + 8 ≤ 996; omega) dX1_init_24 (fun q => ?_)
    refine y_dup C dX1_init_27 rfl ?_
    refine y_callI (maxL := 2) (b := n) C (cc_X6_init (b := n) fset_eq) gX1_init_X6_init rfl (List.mem_of_getElem? (i := 7) rfl) (List.mem_of_getElem? (i := 8) rfl) (List.mem_of_getElem? (i := 9) rfl) rfl (by decide +kernel) ⟨Nat.le_of_ble_eq_true rfl, Nat.le_of_ble_eq_true rfl⟩ xb_XS hXs.1 fset_eq (Nat.le_of_ble_eq_true rfl) dX1_init_28 ⟨by show 1 + 40 * j + 1 + 39 ≤ 161; omega, by show 4 + 248 * j + 8 + 240 ≤ 996; omega⟩ (fun ad2 ce2 e1 e2 e3 e4 => ?_)
    obtain ⟨vs, e4⟩ := e4
    have aE : ∀ i, i < n → ad2 i = ad i := fun i hi => (e1 i (by omega)).trans (fset_ne (by omega))
    have cE : ∀ i, i < n → ce2 i = ce i := fun i hi => (e2 i (by omega) (by omega)).trans (fset_ne (by omega))
    have aN : ad2 n = q := (e1 n (by omega)).trans fset_eq
    refine y_astq (i := 82) (v := n) (t := 5) (r := (RX6, TX6, 8)) C (by omega) (aE 82 (by omega)) ((cE 82 (by omega)).trans hq) rfl (by omega) aN e4 rfl (vp_in_nI (by omega) (by decide)) dX1_init_31 ?_
    rw [nI_clamp (show j < 2 ^ 31 by omega)]
    refine y_iinc (d := (1 : Int32)) (v := nI (j + 1)) C dX1_init_32 rfl (by decide) (nI_1 j) (by decide) rfl ?_
    refine y_goto (tgt := 14) C dX1_init_35 (by decide) ?_
    refine y_widen (c2 := 1 + 40 * (j + 1)) (s2 := 4 + 248 * (j + 1)) (by omega) (by omega) ?_
    refine ih (j + 1) (n + 40) ad2 (fset ce2 82 (.inl (cs 5, 4, .inr (.inr (.inr (.inr (va_up f j (some q)))))))) (va_up f j (some q)) (by omega) (by omega) (fun i hi => (aE i (by omega)).trans (ha i hi)) (fun i hi => (fset_ne (by omega)).trans ((cE i (by omega)).trans (hc i hi))) ?_ fset_eq (fun i hi => ?_) ?_
    · rw [fset_ne (by omega), cE 81 (by omega), hb, aE 82 (by omega)]
    · unfold va_up
      by_cases hi2 : i = j
      · rw [if_pos hi2, hi2, ← aN, hn]
      · rw [if_neg hi2, hf i (by omega), aE _ (by omega)]
    · rw [lySs_s]
      refine sgm.app (b2 := n) (hsg.mono (by omega) aE (fun k hk => ?_)) (sgm.row (e3.mono (Nat.le_refl _) (fun _ _ => rfl) (fun k hk => ?_)) (fun k hk => ?_)) ?_
      · rw [lySs_len] at hk
        rw [fset_ne (by omega), cE _ (by omega)]
      · rw [fset_ne (by omega)]
      · exact M0_z (by omega)
      · rw [lySs_len]
        omega

set_option maxHeartbeats 4000000 in
set_option maxRecDepth 100000 in
theorem cc_X1_init {ad : Nat → Nat} {ce : Nat → va_E} (h0 : ce 81 = .inr (1, [.null, .int 0])) : CnC yX1_init wsX1_init 3 161 996 XH 81 82 ad ce 243 lyH M0 := by
  refine y_met (cc := cX1_init) (maxL := 2) RX1 rfl rfl (by decide) rfl (by decide) (fun p l e s m args below meth c D cs A C hr hXs => ?_)
  refine y_aload_n C dX1_init_0 rfl rfl ?_
  refine y_obj C (List.mem_of_getElem? (i := 1) rfl) (List.mem_of_getElem? (i := 2) rfl) (List.mem_of_getElem? (i := 3) rfl) dX1_init_1 ⟨Nat.le_of_ble_eq_true rfl, Nat.le_of_ble_eq_true rfl⟩ ?_
  refine y_aload_n C dX1_init_4 rfl rfl ?_
  refine y_iconst (v := (4 : Int32)) C dX1_init_5 (by decide) ?_
  refine y_newq (Cn := RX6) (N := 4) C 5 rfl (List.mem_of_getElem? (i := 4) rfl) hXs.2 (by decide) (by decide) (Nat.le_of_ble_eq_true rfl) (Nat.le_of_ble_eq_true rfl) (Nat.le_of_ble_eq_true rfl) dX1_init_6 (fun q1 => ?_)
  refine y_putF (i := 81) (t := 1) (fs := [.null, .int 0]) (ty := tyX1 0) C (by omega) (by rw [fset_ne (by omega)]) (he := (by rw [fset_ne (by omega), h0])) rfl nX1_init_1 tyX1 tyX1_ok nmX1 0 (by decide) (List.mem_of_getElem? (i := 5) rfl) rfl rfl rfl (tyX1_ok 0 (by decide)) rfl rfl (Nat.le_of_ble_eq_true rfl) dX1_init_9 ?_
  refine y_iconst (v := (0 : Int32)) C dX1_init_12 (by decide) ?_
  refine y_istore_n (lv' := [some (.ref (ad 81)), some (.int (nI 0))]) C dX1_init_13 rfl (by decide) rfl ?_
  refine hi_loop C hr hXs 4 0 83 _ _ (fun _ => none) rfl (by omega) (fun i hi => by rw [fset_ne (by omega)]) (fun i hi => by rw [fset_ne (by omega), fset_ne (by omega)]) ?_ ?_ (fun i hi => absurd hi (Nat.not_lt_zero _)) sgm.nil
  · rw [fset_eq, fset_eq]
    rfl
  · rw [fset_ne (by omega), fset_eq]

theorem nX7_init_7 : ∀ w ∈ u_ws RX7 TX7 7, w ∈ wsX7_init := in_r [81, 82, 83, 84, 85, 86, 87] (by decide +kernel)
theorem nX7_init_6 : ∀ w ∈ u_ws RX6 TX6 8, w ∈ wsX7_init := in_r [73, 74, 75, 76, 77, 78, 79, 80] (by decide +kernel)
theorem nX7_init_1 : ∀ w ∈ u_ws RX1 TX1 2, w ∈ wsX7_init := in_r [88, 89] (by decide +kernel)
theorem nX7_init_3 : ∀ w ∈ u_ws RX3 TX3 7, w ∈ wsX7_init := in_r [90, 91, 92, 93, 94, 95, 96] (by decide +kernel)
theorem nX7_init_5 : ∀ w ∈ u_ws RX5 TX5 2, w ∈ wsX7_init := in_r [97, 98] (by decide +kernel)
theorem nX7_init_4 : ∀ w ∈ u_ws RX4 TX4 4, w ∈ wsX7_init := in_r [99, 100, 101, 102] (by decide +kernel)
def XL : State → Prop := fun U => XH U ∧ va_Nw (.methodLinkNest RX7 32 yX3_init "FlatLottery") U ∧ va_Nw (.methodLinkNest RX7 39 yX5_init "FlatLottery") U ∧ va_Nw (.methodLinkNest RX7 46 yX4_init "FlatLottery") U
theorem xb_XL : XB XL := ⟨fun s U hW h => ⟨xb_XH.1 s U hW h.1, va_Nw.warmM hW h.2.1, va_Nw.warmM hW h.2.2.1, va_Nw.warmM hW h.2.2.2⟩, fun U U' q h => ⟨xb_XH.2 U U' q h.1, va_Nw.same rfl q h.2.1, va_Nw.same rfl q h.2.2.1, va_Nw.same rfl q h.2.2.2⟩⟩
def lyT : List (Nat × Nat) := ([(3, 0)] ++ [(11, 60)] ++ [(10, 16)] ++ [(10, 16)] ++ [(10, 96)])
def lyR : List (Nat × Nat) := ([(5, 0)] ++ [(10, 12)])
def lyM : List (Nat × Nat) := ([(4, 0)] ++ [(10, 12)] ++ [(10, 12)] ++ [(10, 12)] ++ [(10, 12)])
def ly7 : List (Nat × Nat) := [(7, 0)] ++ (((((ly_st ++ ly_st) ++ lyH) ++ lyT) ++ lyR) ++ lyM)

set_option maxHeartbeats 4000000 in
set_option maxRecDepth 100000 in
theorem cc_X7_init {ad : Nat → Nat} {ce : Nat → va_E} (h0 : ce 0 = .inr (7, [.null, .null, .int 0, .null, .null, .null, .null])) : CnC yX7_init wsX7_init 4 254 1755 XL 0 1 ad ce 255 ly7 M0 := by
  refine y_met (cc := cX7_init) (maxL := 1) RX7 rfl rfl (by decide) rfl (by decide) (fun p l e s m args below meth c D cs A C hr hXs => ?_)
  refine y_aload_n C dX7_init_0 rfl rfl ?_
  refine y_obj C (List.mem_of_getElem? (i := 1) rfl) (List.mem_of_getElem? (i := 2) rfl) (List.mem_of_getElem? (i := 3) rfl) dX7_init_1 ⟨Nat.le_of_ble_eq_true rfl, Nat.le_of_ble_eq_true rfl⟩ ?_
  have aA0 : ∀ i, i < 1 → ad i = ad i := fun _ _ => rfl
  refine y_aload_n C dX7_init_4 rfl rfl ?_
  refine y_new (t := 6) (fs := [.null, .null, .int 0, .int 0, .int 0, .int 0, .int 0, .null]) C rfl nX7_init_6 tyX6 tyX6_ok (List.mem_of_getElem? (i := 4) rfl) (List.mem_of_getElem? (i := 5) rfl) (List.mem_of_getElem? (i := 6) rfl) (fun k hk => by rcases (show k = 0 ∨ k = 1 ∨ k = 2 ∨ k = 3 ∨ k = 4 ∨ k = 5 ∨ k = 6 ∨ k = 7 by omega) with rfl | rfl | rfl | rfl | rfl | rfl | rfl | rfl <;> rfl) (Nat.le_of_ble_eq_true rfl) (Nat.le_of_ble_eq_true rfl) dX7_init_5 (fun q1 => ?_)
  refine y_dup C dX7_init_8 rfl ?_
  refine y_callI (maxL := 2) (b := 1) C (cc_X6_init (b := 1) fset_eq) gX7_init_X6_init rfl (List.mem_of_getElem? (i := 6) rfl) (List.mem_of_getElem? (i := 26) rfl) (List.mem_of_getElem? (i := 27) rfl) rfl (by decide +kernel) ⟨Nat.le_of_ble_eq_true rfl, Nat.le_of_ble_eq_true rfl⟩ xb_XS hXs.1.1 fset_eq (Nat.le_of_ble_eq_true rfl) dX7_init_9 ⟨Nat.le_of_ble_eq_true rfl, Nat.le_of_ble_eq_true rfl⟩ (fun ad1 ce1 e1 e2 e3 e4 => ?_)
  have aE : ∀ i, i < 1 → ad1 i = ad i := fun i hi => (e1 i (by omega)).trans (fset_ne (by omega))
  have cE : ∀ i, i < 1 → ce1 i = ce i := fun i hi => (e2 i (by omega) (by omega)).trans (fset_ne (by omega))
  have aN : ad1 1 = q1 := (e1 1 (by omega)).trans fset_eq
  have aA1 : ∀ i, i < 1 → ad1 i = ad i := fun i hi => (aE i (by omega)).trans (aA0 i hi)
  have h01 : ce1 0 = .inr (7, [.null, .null, .int 0, .null, .null, .null, .null]) := by
    rw [cE 0 (by omega), h0]
  refine y_putF (i := 0) (t := 7) (fs := [.null, .null, .int 0, .null, .null, .null, .null]) (ty := tyX7 0) C (by omega) (aA1 0 (by omega)) (he := h01) rfl nX7_init_7 tyX7 tyX7_ok nmX7 0 (by decide) (List.mem_of_getElem? (i := 7) rfl) rfl rfl rfl (tyX7_ok 0 (by decide)) rfl rfl (Nat.le_of_ble_eq_true rfl) dX7_init_12 ?_
  obtain ⟨cf1, hcf1⟩ : ∃ z, z = fset ce1 0 (.inr (7, ([.null, .null, .int 0, .null, .null, .null, .null] : List Value).set 0 (.ref q1))) := ⟨_, rfl⟩
  rw [← hcf1]
  have hk1 : cf1 0 = .inr (7, [.ref (ad1 1), .null, .int 0, .null, .null, .null, .null]) := by rw [hcf1, fset_eq, ← aN]; rfl
  have hg1 : sgm cs 41 ad1 cf1 1 ly_st M0 := by
    exact (sgm.row (e3.mono (Nat.le_refl _) (fun _ _ => rfl) (fun k hk => by rw [hcf1, fset_ne (by omega)])) (fun k hk => M0_z (by have hk2 : k < 40 := hk; omega)))
  clear e1 e2 e3 e4 aN
  have cA1 : ∀ i, i < 1 → i ≠ 0 → cf1 i = ce i := fun i hi h => absurd (by omega) h
  refine y_aload_n C dX7_init_15 rfl rfl ?_
  refine y_new (t := 6) (fs := [.null, .null, .int 0, .int 0, .int 0, .int 0, .int 0, .null]) C rfl nX7_init_6 tyX6 tyX6_ok (List.mem_of_getElem? (i := 4) rfl) (List.mem_of_getElem? (i := 5) rfl) (List.mem_of_getElem? (i := 6) rfl) (fun k hk => by rcases (show k = 0 ∨ k = 1 ∨ k = 2 ∨ k = 3 ∨ k = 4 ∨ k = 5 ∨ k = 6 ∨ k = 7 by omega) with rfl | rfl | rfl | rfl | rfl | rfl | rfl | rfl <;> rfl) (Nat.le_of_ble_eq_true rfl) (Nat.le_of_ble_eq_true rfl) dX7_init_16 (fun q2 => ?_)
  refine y_dup C dX7_init_19 rfl ?_
  refine y_callI (maxL := 2) (b := 41) C (cc_X6_init (b := 41) fset_eq) gX7_init_X6_init rfl (List.mem_of_getElem? (i := 6) rfl) (List.mem_of_getElem? (i := 26) rfl) (List.mem_of_getElem? (i := 27) rfl) rfl (by decide +kernel) ⟨Nat.le_of_ble_eq_true rfl, Nat.le_of_ble_eq_true rfl⟩ xb_XS hXs.1.1 fset_eq (Nat.le_of_ble_eq_true rfl) dX7_init_20 ⟨Nat.le_of_ble_eq_true rfl, Nat.le_of_ble_eq_true rfl⟩ (fun ad2 ce2 e1 e2 e3 e4 => ?_)
  have aE : ∀ i, i < 41 → ad2 i = ad1 i := fun i hi => (e1 i (by omega)).trans (fset_ne (by omega))
  have cE : ∀ i, i < 41 → ce2 i = cf1 i := fun i hi => (e2 i (by omega) (by omega)).trans (fset_ne (by omega))
  have aN : ad2 41 = q2 := (e1 41 (by omega)).trans fset_eq
  have aA2 : ∀ i, i < 1 → ad2 i = ad i := fun i hi => (aE i (by omega)).trans (aA1 i hi)
  have h02 : ce2 0 = .inr (7, [.ref (ad2 1), .null, .int 0, .null, .null, .null, .null]) := by
    rw [cE 0 (by omega), hk1]
    rw [aE 1 (by omega)]
  refine y_putF (i := 0) (t := 7) (fs := [.ref (ad2 1), .null, .int 0, .null, .null, .null, .null]) (ty := tyX7 1) C (by omega) (aA2 0 (by omega)) (he := h02) rfl nX7_init_7 tyX7 tyX7_ok nmX7 1 (by decide) (List.mem_of_getElem? (i := 8) rfl) rfl rfl rfl (tyX7_ok 1 (by decide)) rfl rfl (Nat.le_of_ble_eq_true rfl) dX7_init_23 ?_
  obtain ⟨cf2, hcf2⟩ : ∃ z, z = fset ce2 0 (.inr (7, ([.ref (ad2 1), .null, .int 0, .null, .null, .null, .null] : List Value).set 1 (.ref q2))) := ⟨_, rfl⟩
  rw [← hcf2]
  have hk2 : cf2 0 = .inr (7, [.ref (ad2 1), .ref (ad2 41), .int 0, .null, .null, .null, .null]) := by rw [hcf2, fset_eq, ← aN]; rfl
  have hg2 : sgm cs 81 ad2 cf2 1 (ly_st ++ ly_st) M0 := by
    refine sgm.app (b2 := 41) (hg1.mono (by omega) aE (fun k hk => ?_)) (sgm.row (e3.mono (Nat.le_refl _) (fun _ _ => rfl) (fun k hk => by rw [hcf2, fset_ne (by omega)])) (fun k hk => M0_z (by have hk2 : k < 40 := hk; omega))) rfl
    have hk2 : k < 40 := hk
    rw [hcf2, fset_ne (by omega), cE _ (by omega)]
  clear e1 e2 e3 e4 aN
  have cA2 : ∀ i, i < 1 → i ≠ 0 → cf2 i = ce i := fun i hi h => absurd (by omega) h
  refine y_aload_n C dX7_init_26 rfl rfl ?_
  refine y_iconst (v := (0 : Int32)) C dX7_init_27 (by decide) ?_
  refine y_put (i := 0) (t := 7) (fs := [.ref (ad2 1), .ref (ad2 41), .int 0, .null, .null, .null, .null]) (ty := tyX7 2) C (by omega) (aA2 0 (by omega)) (he := hk2) rfl nX7_init_7 tyX7 tyX7_ok nmX7 2 (by decide) (List.mem_of_getElem? (i := 9) rfl) rfl rfl (tyX7_ok 2 (by decide)) rfl rfl (Nat.le_of_ble_eq_true rfl) dX7_init_28 ?_
  have hs2 : fset cf2 0 (.inr (7, ([.ref (ad2 1), .ref (ad2 41), .int 0, .null, .null, .null, .null] : List Value).set 2 (.int 0))) = cf2 := by
    funext i
    by_cases hi : i = 0
    · subst hi; rw [fset_eq, hk2]; rfl
    · rw [fset_ne hi]
  rw [hs2]
  refine y_aload_n C dX7_init_31 rfl rfl ?_
  refine y_new (t := 1) (fs := [.null, .int 0]) C rfl nX7_init_1 tyX1 tyX1_ok (List.mem_of_getElem? (i := 10) rfl) (List.mem_of_getElem? (i := 11) rfl) (List.mem_of_getElem? (i := 12) rfl) (fun k hk => by rcases (show k = 0 ∨ k = 1 by omega) with rfl | rfl <;> rfl) (Nat.le_of_ble_eq_true rfl) (Nat.le_of_ble_eq_true rfl) dX7_init_32 (fun q3 => ?_)
  refine y_dup C dX7_init_35 rfl ?_
  refine y_callI (maxL := 2) (b := 81) C (cc_X1_init fset_eq) gX7_init_X1_init rfl (List.mem_of_getElem? (i := 12) rfl) (List.mem_of_getElem? (i := 47) rfl) (List.mem_of_getElem? (i := 48) rfl) rfl (by decide +kernel) ⟨Nat.le_of_ble_eq_true rfl, Nat.le_of_ble_eq_true rfl⟩ xb_XH hXs.1 fset_eq (Nat.le_of_ble_eq_true rfl) dX7_init_36 ⟨Nat.le_of_ble_eq_true rfl, Nat.le_of_ble_eq_true rfl⟩ (fun ad3 ce3 e1 e2 e3 e4 => ?_)
  have aE : ∀ i, i < 81 → ad3 i = ad2 i := fun i hi => (e1 i (by omega)).trans (fset_ne (by omega))
  have cE : ∀ i, i < 81 → ce3 i = cf2 i := fun i hi => (e2 i (by omega) (by omega)).trans (fset_ne (by omega))
  have aN : ad3 81 = q3 := (e1 81 (by omega)).trans fset_eq
  have aA3 : ∀ i, i < 1 → ad3 i = ad i := fun i hi => (aE i (by omega)).trans (aA2 i hi)
  have h03 : ce3 0 = .inr (7, [.ref (ad3 1), .ref (ad3 41), .int 0, .null, .null, .null, .null]) := by
    rw [cE 0 (by omega), hk2]
    rw [aE 1 (by omega), aE 41 (by omega)]
  refine y_putF (i := 0) (t := 7) (fs := [.ref (ad3 1), .ref (ad3 41), .int 0, .null, .null, .null, .null]) (ty := tyX7 3) C (by omega) (aA3 0 (by omega)) (he := h03) rfl nX7_init_7 tyX7 tyX7_ok nmX7 3 (by decide) (List.mem_of_getElem? (i := 13) rfl) rfl rfl rfl (tyX7_ok 3 (by decide)) rfl rfl (Nat.le_of_ble_eq_true rfl) dX7_init_39 ?_
  obtain ⟨cf3, hcf3⟩ : ∃ z, z = fset ce3 0 (.inr (7, ([.ref (ad3 1), .ref (ad3 41), .int 0, .null, .null, .null, .null] : List Value).set 3 (.ref q3))) := ⟨_, rfl⟩
  rw [← hcf3]
  have hk3 : cf3 0 = .inr (7, [.ref (ad3 1), .ref (ad3 41), .int 0, .ref (ad3 81), .null, .null, .null]) := by rw [hcf3, fset_eq, ← aN]; rfl
  have hg3 : sgm cs 243 ad3 cf3 1 ((ly_st ++ ly_st) ++ lyH) M0 := by
    refine sgm.app (b2 := 81) (hg2.mono (by omega) aE (fun k hk => ?_)) (sgm.row (e3.mono (Nat.le_refl _) (fun _ _ => rfl) (fun k hk => by rw [hcf3, fset_ne (by omega)])) (fun k hk => rfl)) rfl
    have hk2 : k < 80 := hk
    rw [hcf3, fset_ne (by omega), cE _ (by omega)]
  clear e1 e2 e3 e4 aN
  have cA3 : ∀ i, i < 1 → i ≠ 0 → cf3 i = ce i := fun i hi h => absurd (by omega) h
  refine y_aload_n C dX7_init_42 rfl rfl ?_
  refine y_new (t := 3) (fs := [.null, .int 0, .int 0, .null, .null, .null, .int 0]) C rfl nX7_init_3 tyX3 tyX3_ok (List.mem_of_getElem? (i := 14) rfl) (List.mem_of_getElem? (i := 15) rfl) (List.mem_of_getElem? (i := 16) rfl) (fun k hk => by rcases (show k = 0 ∨ k = 1 ∨ k = 2 ∨ k = 3 ∨ k = 4 ∨ k = 5 ∨ k = 6 by omega) with rfl | rfl | rfl | rfl | rfl | rfl | rfl <;> rfl) (Nat.le_of_ble_eq_true rfl) (Nat.le_of_ble_eq_true rfl) dX7_init_43 (fun q4 => ?_)
  refine y_dup C dX7_init_46 rfl ?_
  refine y_callN (maxL := 1) (b := 243) C (cc_X3_init (b := 243) fset_eq) gX7_init_X3_init_n32 rfl (List.mem_of_getElem? (i := 16) rfl) hXs.2.1 (List.mem_of_getElem? (i := 54) rfl) rfl (by decide +kernel) ⟨Nat.le_of_ble_eq_true rfl, Nat.le_of_ble_eq_true rfl⟩ xb_true trivial fset_eq (Nat.le_of_ble_eq_true rfl) dX7_init_47 ⟨Nat.le_of_ble_eq_true rfl, Nat.le_of_ble_eq_true rfl⟩ (fun ad4 ce4 e1 e2 e3 e4 => ?_)
  have aE : ∀ i, i < 243 → ad4 i = ad3 i := fun i hi => (e1 i (by omega)).trans (fset_ne (by omega))
  have cE : ∀ i, i < 243 → ce4 i = cf3 i := fun i hi => (e2 i (by omega) (by omega)).trans (fset_ne (by omega))
  have aN : ad4 243 = q4 := (e1 243 (by omega)).trans fset_eq
  have aA4 : ∀ i, i < 1 → ad4 i = ad i := fun i hi => (aE i (by omega)).trans (aA3 i hi)
  have h04 : ce4 0 = .inr (7, [.ref (ad4 1), .ref (ad4 41), .int 0, .ref (ad4 81), .null, .null, .null]) := by
    rw [cE 0 (by omega), hk3]
    rw [aE 1 (by omega), aE 41 (by omega), aE 81 (by omega)]
  refine y_putF (i := 0) (t := 7) (fs := [.ref (ad4 1), .ref (ad4 41), .int 0, .ref (ad4 81), .null, .null, .null]) (ty := tyX7 4) C (by omega) (aA4 0 (by omega)) (he := h04) rfl nX7_init_7 tyX7 tyX7_ok nmX7 4 (by decide) (List.mem_of_getElem? (i := 17) rfl) rfl rfl rfl (tyX7_ok 4 (by decide)) rfl rfl (Nat.le_of_ble_eq_true rfl) dX7_init_50 ?_
  obtain ⟨cf4, hcf4⟩ : ∃ z, z = fset ce4 0 (.inr (7, ([.ref (ad4 1), .ref (ad4 41), .int 0, .ref (ad4 81), .null, .null, .null] : List Value).set 4 (.ref q4))) := ⟨_, rfl⟩
  rw [← hcf4]
  have hk4 : cf4 0 = .inr (7, [.ref (ad4 1), .ref (ad4 41), .int 0, .ref (ad4 81), .ref (ad4 243), .null, .null]) := by rw [hcf4, fset_eq, ← aN]; rfl
  have hg4 : sgm cs 248 ad4 cf4 1 (((ly_st ++ ly_st) ++ lyH) ++ lyT) M0 := by
    refine sgm.app (b2 := 243) (hg3.mono (by omega) aE (fun k hk => ?_)) (sgm.row (e3.mono (Nat.le_refl _) (fun _ _ => rfl) (fun k hk => by rw [hcf4, fset_ne (by omega)])) (fun k hk => M0_z (by have hk2 : k < 5 := hk; omega))) rfl
    have hk2 : k < 242 := hk
    rw [hcf4, fset_ne (by omega), cE _ (by omega)]
  clear e1 e2 e3 e4 aN
  have cA4 : ∀ i, i < 1 → i ≠ 0 → cf4 i = ce i := fun i hi h => absurd (by omega) h
  refine y_aload_n C dX7_init_53 rfl rfl ?_
  refine y_new (t := 5) (fs := [.null, .int 0]) C rfl nX7_init_5 tyX5 tyX5_ok (List.mem_of_getElem? (i := 18) rfl) (List.mem_of_getElem? (i := 19) rfl) (List.mem_of_getElem? (i := 20) rfl) (fun k hk => by rcases (show k = 0 ∨ k = 1 by omega) with rfl | rfl <;> rfl) (Nat.le_of_ble_eq_true rfl) (Nat.le_of_ble_eq_true rfl) dX7_init_54 (fun q5 => ?_)
  refine y_dup C dX7_init_57 rfl ?_
  refine y_callN (maxL := 1) (b := 248) C (cc_X5_init (b := 248) fset_eq) gX7_init_X5_init_n39 rfl (List.mem_of_getElem? (i := 20) rfl) hXs.2.2.1 (List.mem_of_getElem? (i := 62) rfl) rfl (by decide +kernel) ⟨Nat.le_of_ble_eq_true rfl, Nat.le_of_ble_eq_true rfl⟩ xb_true trivial fset_eq (Nat.le_of_ble_eq_true rfl) dX7_init_58 ⟨Nat.le_of_ble_eq_true rfl, Nat.le_of_ble_eq_true rfl⟩ (fun ad5 ce5 e1 e2 e3 e4 => ?_)
  have aE : ∀ i, i < 248 → ad5 i = ad4 i := fun i hi => (e1 i (by omega)).trans (fset_ne (by omega))
  have cE : ∀ i, i < 248 → ce5 i = cf4 i := fun i hi => (e2 i (by omega) (by omega)).trans (fset_ne (by omega))
  have aN : ad5 248 = q5 := (e1 248 (by omega)).trans fset_eq
  have aA5 : ∀ i, i < 1 → ad5 i = ad i := fun i hi => (aE i (by omega)).trans (aA4 i hi)
  have h05 : ce5 0 = .inr (7, [.ref (ad5 1), .ref (ad5 41), .int 0, .ref (ad5 81), .ref (ad5 243), .null, .null]) := by
    rw [cE 0 (by omega), hk4]
    rw [aE 1 (by omega), aE 41 (by omega), aE 81 (by omega), aE 243 (by omega)]
  refine y_putF (i := 0) (t := 7) (fs := [.ref (ad5 1), .ref (ad5 41), .int 0, .ref (ad5 81), .ref (ad5 243), .null, .null]) (ty := tyX7 5) C (by omega) (aA5 0 (by omega)) (he := h05) rfl nX7_init_7 tyX7 tyX7_ok nmX7 5 (by decide) (List.mem_of_getElem? (i := 21) rfl) rfl rfl rfl (tyX7_ok 5 (by decide)) rfl rfl (Nat.le_of_ble_eq_true rfl) dX7_init_61 ?_
  obtain ⟨cf5, hcf5⟩ : ∃ z, z = fset ce5 0 (.inr (7, ([.ref (ad5 1), .ref (ad5 41), .int 0, .ref (ad5 81), .ref (ad5 243), .null, .null] : List Value).set 5 (.ref q5))) := ⟨_, rfl⟩
  rw [← hcf5]
  have hk5 : cf5 0 = .inr (7, [.ref (ad5 1), .ref (ad5 41), .int 0, .ref (ad5 81), .ref (ad5 243), .ref (ad5 248), .null]) := by rw [hcf5, fset_eq, ← aN]; rfl
  have hg5 : sgm cs 250 ad5 cf5 1 ((((ly_st ++ ly_st) ++ lyH) ++ lyT) ++ lyR) M0 := by
    refine sgm.app (b2 := 248) (hg4.mono (by omega) aE (fun k hk => ?_)) (sgm.row (e3.mono (Nat.le_refl _) (fun _ _ => rfl) (fun k hk => by rw [hcf5, fset_ne (by omega)])) (fun k hk => M0_z (by have hk2 : k < 2 := hk; omega))) rfl
    have hk2 : k < 247 := hk
    rw [hcf5, fset_ne (by omega), cE _ (by omega)]
  clear e1 e2 e3 e4 aN
  have cA5 : ∀ i, i < 1 → i ≠ 0 → cf5 i = ce i := fun i hi h => absurd (by omega) h
  refine y_aload_n C dX7_init_64 rfl rfl ?_
  refine y_new (t := 4) (fs := [.null, .null, .null, .null]) C rfl nX7_init_4 tyX4 tyX4_ok (List.mem_of_getElem? (i := 22) rfl) (List.mem_of_getElem? (i := 23) rfl) (List.mem_of_getElem? (i := 24) rfl) (fun k hk => by rcases (show k = 0 ∨ k = 1 ∨ k = 2 ∨ k = 3 by omega) with rfl | rfl | rfl | rfl <;> rfl) (Nat.le_of_ble_eq_true rfl) (Nat.le_of_ble_eq_true rfl) dX7_init_65 (fun q6 => ?_)
  refine y_dup C dX7_init_68 rfl ?_
  refine y_callN (maxL := 1) (b := 250) C (cc_X4_init (b := 250) fset_eq) gX7_init_X4_init_n46 rfl (List.mem_of_getElem? (i := 24) rfl) hXs.2.2.2 (List.mem_of_getElem? (i := 66) rfl) rfl (by decide +kernel) ⟨Nat.le_of_ble_eq_true rfl, Nat.le_of_ble_eq_true rfl⟩ xb_true trivial fset_eq (Nat.le_of_ble_eq_true rfl) dX7_init_69 ⟨Nat.le_of_ble_eq_true rfl, Nat.le_of_ble_eq_true rfl⟩ (fun ad6 ce6 e1 e2 e3 e4 => ?_)
  have aE : ∀ i, i < 250 → ad6 i = ad5 i := fun i hi => (e1 i (by omega)).trans (fset_ne (by omega))
  have cE : ∀ i, i < 250 → ce6 i = cf5 i := fun i hi => (e2 i (by omega) (by omega)).trans (fset_ne (by omega))
  have aN : ad6 250 = q6 := (e1 250 (by omega)).trans fset_eq
  have aA6 : ∀ i, i < 1 → ad6 i = ad i := fun i hi => (aE i (by omega)).trans (aA5 i hi)
  have h06 : ce6 0 = .inr (7, [.ref (ad6 1), .ref (ad6 41), .int 0, .ref (ad6 81), .ref (ad6 243), .ref (ad6 248), .null]) := by
    rw [cE 0 (by omega), hk5]
    rw [aE 1 (by omega), aE 41 (by omega), aE 81 (by omega), aE 243 (by omega), aE 248 (by omega)]
  refine y_putF (i := 0) (t := 7) (fs := [.ref (ad6 1), .ref (ad6 41), .int 0, .ref (ad6 81), .ref (ad6 243), .ref (ad6 248), .null]) (ty := tyX7 6) C (by omega) (aA6 0 (by omega)) (he := h06) rfl nX7_init_7 tyX7 tyX7_ok nmX7 6 (by decide) (List.mem_of_getElem? (i := 25) rfl) rfl rfl rfl (tyX7_ok 6 (by decide)) rfl rfl (Nat.le_of_ble_eq_true rfl) dX7_init_72 ?_
  obtain ⟨cf6, hcf6⟩ : ∃ z, z = fset ce6 0 (.inr (7, ([.ref (ad6 1), .ref (ad6 41), .int 0, .ref (ad6 81), .ref (ad6 243), .ref (ad6 248), .null] : List Value).set 6 (.ref q6))) := ⟨_, rfl⟩
  rw [← hcf6]
  have hk6 : cf6 0 = .inr (7, [.ref (ad6 1), .ref (ad6 41), .int 0, .ref (ad6 81), .ref (ad6 243), .ref (ad6 248), .ref (ad6 250)]) := by rw [hcf6, fset_eq, ← aN]; rfl
  have hg6 : sgm cs 255 ad6 cf6 1 (((((ly_st ++ ly_st) ++ lyH) ++ lyT) ++ lyR) ++ lyM) M0 := by
    refine sgm.app (b2 := 250) (hg5.mono (by omega) aE (fun k hk => ?_)) (sgm.row (e3.mono (Nat.le_refl _) (fun _ _ => rfl) (fun k hk => by rw [hcf6, fset_ne (by omega)])) (fun k hk => M0_z (by have hk2 : k < 5 := hk; omega))) rfl
    have hk2 : k < 249 := hk
    rw [hcf6, fset_ne (by omega), cE _ (by omega)]
  clear e1 e2 e3 e4 aN
  have cA6 : ∀ i, i < 1 → i ≠ 0 → cf6 i = ce i := fun i hi h => absurd (by omega) h
  refine y_vret C hr aA6 cA6 ?_ ⟨_, hk6⟩ rfl rfl dX7_init_75
  refine sgm.app (b2 := 1) (sgm.one (okc_eq fun ad2 h => ?_)) hg6 rfl
  rw [hk6]
  show (.inr (7, [.ref (ad6 1), .ref (ad6 41), .int 0, .ref (ad6 81), .ref (ad6 243), .ref (ad6 248), .ref (ad6 250)]) : va_E) = .inr (7, [.ref (ad2 1), .ref (ad2 41), .int 0, .ref (ad2 81), .ref (ad2 243), .ref (ad2 248), .ref (ad2 250)])
  rw [h 1 (by omega), h 41 (by omega), h 81 (by omega), h 243 (by omega), h 248 (by omega), h 250 (by omega)]

