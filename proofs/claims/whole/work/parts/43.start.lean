theorem lw_w {w : Cond} (i : Nat) (h : lw_tbl[i]? = some w) : w ∈ lw_tbl := List.mem_of_getElem? h
theorem sI0 : (Cond.instantiable RX0 2) ∈ lw_tbl := (lw_w 78 (by decide +kernel))
theorem sI1 : (Cond.instantiable RX1 2) ∈ lw_tbl := (lw_w 188 (by decide +kernel))
theorem sI2 : (Cond.instantiable RX2 9) ∈ lw_tbl := (lw_w 96 (by decide +kernel))
theorem sI3 : (Cond.instantiable RX3 7) ∈ lw_tbl := (lw_w 205 (by decide +kernel))
theorem sI4 : (Cond.instantiable RX4 4) ∈ lw_tbl := (lw_w 249 (by decide +kernel))
theorem sI5 : (Cond.instantiable RX5 2) ∈ lw_tbl := (lw_w 236 (by decide +kernel))
theorem sI6 : (Cond.instantiable RX6 8) ∈ lw_tbl := (lw_w 69 (by decide +kernel))
theorem sI7 : (Cond.instantiable RX7 7) ∈ lw_tbl := (lw_w 61 (by decide +kernel))
theorem sI8 : (Cond.instantiable RX8 13) ∈ lw_tbl := (lw_w 631 (by decide +kernel))
theorem sA_int : (Cond.arrayClass .int) ∈ lw_tbl := (lw_w 95 (by decide +kernel))
theorem sA_char : (Cond.arrayClass .char) ∈ lw_tbl := (lw_w 234 (by decide +kernel))
theorem sA_boolean : (Cond.arrayClass .boolean) ∈ lw_tbl := (lw_w 676 (by decide +kernel))
theorem sO0 : (Cond.arrayOver (.object RX0)) ∈ lw_tbl := lw_w 75 (by decide +kernel)
theorem sO2 : (Cond.arrayOver (.object RX2)) ∈ lw_tbl := lw_w 77 (by decide +kernel)
theorem sO6 : (Cond.arrayOver (.object RX6)) ∈ lw_tbl := lw_w 194 (by decide +kernel)
theorem sN27 : (Cond.methodLinkNest RX6 27 yX0_init "FlatLottery") ∈ lw_tbl := lw_w 79 (by decide +kernel)
theorem sN28 : (Cond.methodLinkNest RX6 28 yX2_init "FlatLottery") ∈ lw_tbl := lw_w 97 (by decide +kernel)
theorem sN32 : (Cond.methodLinkNest RX7 32 yX3_init "FlatLottery") ∈ lw_tbl := lw_w 206 (by decide +kernel)
theorem sN39 : (Cond.methodLinkNest RX7 39 yX5_init "FlatLottery") ∈ lw_tbl := lw_w 237 (by decide +kernel)
theorem sN46 : (Cond.methodLinkNest RX7 46 yX4_init "FlatLottery") ∈ lw_tbl := lw_w 250 (by decide +kernel)
theorem sC7 : (Cond.classLink RL 7 RX7) ∈ lw_tbl := (lw_w 60 (by decide +kernel))
theorem sC8 : (Cond.classLink RL 10 RX8) ∈ lw_tbl := (lw_w 630 (by decide +kernel))
theorem sT7 : (Cond.initialized RX7) ∈ lw_tbl := (lw_w 50 (by decide +kernel))
theorem sT8 : (Cond.initialized RX8) ∈ lw_tbl := (lw_w 58 (by decide +kernel))
theorem sM7 : (Cond.methodLink RL 9 yX7_init) ∈ lw_tbl := (lw_w 62 (by decide +kernel))
theorem sM8 : (Cond.methodLink RL 12 yX8_init) ∈ lw_tbl := (lw_w 632 (by decide +kernel))
theorem sY7 : (Cond.instanceMethod yX7_init) ∈ lw_tbl := (lw_w 63 (by decide +kernel))
theorem sY8 : (Cond.instanceMethod yX8_init) ∈ lw_tbl := (lw_w 633 (by decide +kernel))
set_option maxHeartbeats 8000000 in
set_option maxRecDepth 100000 in
theorem whole_of {Sim : Mem → Prop} (O : OpsOk Sim) (h0 : Sim M0) {p : Program} {e : Env} {s : State} {m : MethodId} {below : List Frame} {meth : Method} {c : Code} (l : Launch) {b L : Nat} {xs : Nat → Int32} (hL : L ≤ 2048) (C0 : lw_At p s m meth c b L xs) : W p l e room_1 s m #[Value.ref b] below meth c s.heap [] 0 0 (lw_Z below #[Value.ref b] s) (entryFrame m ([Value.ref b] : List Value).toArray 4) := by
  obtain ⟨hx, hb, hr, hml, hown, hts, hX, hbl, hlocks, hgv⟩ := id C0
  have htl : ∀ w ∈ wsL_law, w.before #[Value.ref b] s = true := fun w h => hts w (wsL_law_in w h)
  have hownL : s.vm.findClass RL = some m.cls := hown
  obtain ⟨c0, i0, k0⟩ := u_known (C := RX0) (T := TX0) (N := 2) (n := 2) hts inX0 (hts _ sI0)
  obtain ⟨c1, i1, k1⟩ := u_known (C := RX1) (T := TX1) (N := 2) (n := 2) hts inX1 (hts _ sI1)
  obtain ⟨c2, i2, k2⟩ := u_known (C := RX2) (T := TX2) (N := 9) (n := 9) hts inX2 (hts _ sI2)
  obtain ⟨c3, i3, k3⟩ := u_known (C := RX3) (T := TX3) (N := 7) (n := 7) hts inX3 (hts _ sI3)
  obtain ⟨c4, i4, k4⟩ := u_known (C := RX4) (T := TX4) (N := 4) (n := 4) hts inX4 (hts _ sI4)
  obtain ⟨c5, i5, k5⟩ := u_known (C := RX5) (T := TX5) (N := 2) (n := 2) hts inX5 (hts _ sI5)
  obtain ⟨c6, i6, k6⟩ := u_known (C := RX6) (T := TX6) (N := 8) (n := 8) hts inX6 (hts _ sI6)
  obtain ⟨c7, i7, k7⟩ := u_known (C := RX7) (T := TX7) (N := 7) (n := 7) hts inX7 (hts _ sI7)
  obtain ⟨c8, i8, k8⟩ := u_known (C := RX8) (T := TX8) (N := 13) (n := 13) hts inX8 (hts _ sI8)
  obtain ⟨D, hKc⟩ : ∃ D : va_G, ∀ (k : Nat) (q : vw_C), vwCl[k]? = some q → u_Kn s q.1 q.2.1 q.2.2 (D.1 k) (D.2 k) := by
    refine ⟨(fun k => if k = 0 then c0 else if k = 1 then c1 else if k = 2 then c2 else if k = 3 then c3 else if k = 4 then c4 else if k = 5 then c5 else if k = 6 then c6 else if k = 7 then c7 else c8, fun k => if k = 0 then i0 else if k = 1 then i1 else if k = 2 then i2 else if k = 3 then i3 else if k = 4 then i4 else if k = 5 then i5 else if k = 6 then i6 else if k = 7 then i7 else i8), ?_⟩
    intro k q hq
    match k, hq with
    | 0, hq => cases hq; exact k0
    | 1, hq => cases hq; exact k1
    | 2, hq => cases hq; exact k2
    | 3, hq => cases hq; exact k3
    | 4, hq => cases hq; exact k4
    | 5, hq => cases hq; exact k5
    | 6, hq => cases hq; exact k6
    | 7, hq => cases hq; exact k7
    | 8, hq => cases hq; exact k8
    | k + 9, hq => cases hq
  obtain ⟨eI, kkI, cpI, aI1, aI2, aI3⟩ := Cond.arrayClass_spec (hts _ sA_int)
  obtain ⟨eC, kkC, cpC, aC1, aC2, aC3⟩ := Cond.arrayClass_spec (hts _ sA_char)
  obtain ⟨eZ, kkZ, cpZ, aZ1, aZ2, aZ3⟩ := Cond.arrayClass_spec (hts _ sA_boolean)
  obtain ⟨cpF, eF, kkF, aF1, aF2, aF3, aF4, aF5⟩ := Cond.arrayOver_spec (hts _ sO0)
  obtain ⟨cpH, eH, kkH, aH1, aH2, aH3, aH4, aH5⟩ := Cond.arrayOver_spec (hts _ sO2)
  obtain ⟨cpS, eS, kkS, aS1, aS2, aS3, aS4, aS5⟩ := Cond.arrayOver_spec (hts _ sO6)
  obtain ⟨cs, hcs⟩ : ∃ cs : Nat → ClassId, ∀ (k : Nat) (q : ClassId × FieldType), (tys cs)[k]? = some q → ArrOfT s q.1 q.2 ∧ va_RA s q.1 q.2 := by
    refine ⟨fun k => if k = 0 then eI else if k = 1 then eC else if k = 2 then eZ else if k = 3 then eF else if k = 4 then eH else eS, ?_⟩
    intro k q hq
    match k, hq with
    | 0, hq => cases hq; exact ⟨fun n z => ⟨fun k h => (by cases h), kkI, aI2, cpI, aI3⟩, aI1⟩
    | 1, hq => cases hq; exact ⟨fun n z => ⟨fun k h => (by cases h), kkC, aC2, cpC, aC3⟩, aC1⟩
    | 2, hq => cases hq; exact ⟨fun n z => ⟨fun k h => (by cases h), kkZ, aZ2, cpZ, aZ3⟩, aZ1⟩
    | 3, hq => cases hq; exact ⟨fun n z => ⟨fun k h => (by cases h), kkF, aF3, cpF, aF4⟩, kkF, cpF, aF3, aF4, aF1, aF5⟩
    | 4, hq => cases hq; exact ⟨fun n z => ⟨fun k h => (by cases h), kkH, aH3, cpH, aH4⟩, kkH, cpH, aH3, aH4, aH1, aH5⟩
    | 5, hq => cases hq; exact ⟨fun n z => ⟨fun k h => (by cases h), kkS, aS3, cpS, aS4⟩, kkS, cpS, aS3, aS4, aS1, aS5⟩
    | k + 6, hq => cases hq
  have hK : va_K D vwCl (tys cs) s := ⟨hKc, hcs⟩
  have hXL : XL s := ⟨⟨⟨va_Nw.of rfl (hts _ sN27), va_Nw.of rfl (hts _ sN28), va_AO.of (hts _ sO0), va_AO.of (hts _ sO2)⟩, va_AO.of (hts _ sO6)⟩, va_Nw.of rfl (hts _ sN32), va_Nw.of rfl (hts _ sN39), va_Nw.of rfl (hts _ sN46)⟩
  have hA : ∀ q : Nat, s.heap.size ≤ q → (fun q : Nat => s.heap.size ≤ q) q := fun _ h => h
  have hS0 : va_S (fun q : Nat => s.heap.size ≤ q) s.heap s.heap [] := va_S.rf
  have hP0 : va_P D vwCl [] s.heap := fun k q h => by simp at h
  have hD0 : va_D (fun q : Nat => s.heap.size ≤ q) [] := ⟨fun i j p q h => by simp at h, fun k q h => by simp at h⟩
  have hl := lvp_entry (vs := [.ref b]) (n := 4) (Nat.le_of_ble_eq_true rfl) (fun v hv => by simp only [List.mem_cons, List.not_mem_nil, or_false] at hv; rw [hv]; rfl) rfl
  rw [lg_entry_eq]
  generalize (lg_sl ([.ref b]) ++ List.replicate (4 - (lg_sl ([.ref b])).length) Slot.unset).toArray = ls at hl ⊢
  refine va_new (ci := 7) (fs := [.null, .null, .int 0, .null, .null, .null, .null]) (C := RX7) (T := TX7) (N := 7) hx hb hts inX7 tyX7 tyX7_ok hownL (hts _ sC7) (hts _ sI7) (hts _ sT7) hK hP0 hD0 hS0 hA rfl (fun j hj => by rcases (show j = 0 ∨ j = 1 ∨ j = 2 ∨ j = 3 ∨ j = 4 ∨ j = 5 ∨ j = 6 by omega) with rfl | rfl | rfl | rfl | rfl | rfl | rfl <;> rfl) (Nat.le_of_ble_eq_true rfl) (Nat.le_of_ble_eq_true rfl) dL_law_0 (fun q0 H hP hD hS => ?_)
  have hP : va_P D vwCl (wl 1 (fun _ => q0) (fun _ => .inr (7, [.null, .null, .int 0, .null, .null, .null, .null]))) H := hP
  have hD : va_D (fun q : Nat => s.heap.size ≤ q) (wl 1 (fun _ => q0) (fun _ => .inr (7, [.null, .null, .int 0, .null, .null, .null, .null]))) := hD
  refine lv_dup hx hb dL_law_3 rfl ?_
  have hFc : ∀ q, va_A (wl 1 (fun _ => q0) (fun _ => .inr (7, [.null, .null, .int 0, .null, .null, .null, .null]))) H.size q → s.heap.size ≤ q := by
    rintro q (⟨k, z, hz⟩ | hz)
    · exact hD.2 k (q, z) hz
    · exact Nat.le_trans hS.1 hz
  refine va_callv (va_runI (nL := 4) (maxL := 1) (As := []) (rest := [.ref q0]) ⟨hx, hb, hml, hownL, htl⟩ (cc_X7_init (ad := fun _ => q0) (ce := fun _ => .inr (7, [.null, .null, .int 0, .null, .null, .null, .null])) rfl l D cs H.size) (cwI 0 htl gL_law_X7_init rfl rfl rfl (hts _ sT7) (hts _ sM7) (hts _ sY7) rfl (by decide +kernel) ⟨Nat.le_of_ble_eq_true rfl, Nat.le_of_ble_eq_true rfl⟩) ⟨cnc_blind xb_XL, fun U hU hW2 => ⟨rfl, by rw [hU], by rw [hU]; exact hP, va_K.moved hW2.alike hK, hD.weaken (fun _ _ _ _ => trivial), xb_XL.1 _ _ hW2 hXL⟩⟩ rfl rfl hl.1 rfl (lv_room (Nat.le_of_ble_eq_true rfl)) dL_law_4 ⟨Nat.le_of_ble_eq_true rfl, Nat.le_of_ble_eq_true rfl⟩) hS (fun q _ h => hFc q h) hFc (fun u t H1 locs1 ht hvm hw1 hB hz1 hk1 hS => ?_)
  obtain ⟨ad1, ce1⟩ := u
  obtain ⟨e1, e2, e3, e4⟩ := hw1
  obtain ⟨hP1, -, hD1⟩ := hB
  rw [ht] at hP1
  have hD := hD1.weaken (fun _ q _ h => hFc q.1 h)
  have hP := hP1
  generalize H1 = H at hP hS ⊢
  have hP : va_P D vwCl (wl 255 ad1 ce1) H := hP
  have hD : va_D (fun q : Nat => s.heap.size ≤ q) (wl 255 ad1 ce1) := hD
  have q0E : ad1 0 = q0 := e1 0 (by decide)
  have g7 : sgm cs 255 ad1 ce1 0 ly7 M0 := e3
  clear hP1 hD1 hFc e1 e2 e3 e4
  refine lv_astore_n hx hb dL_law_7 rfl (lvp_has hl) (by decide) rfl (fun ls hl2 => ?_)
  have hl := lvp_set hl rfl rfl hl2
  refine va_new (ci := 8) (fs := [.null, .null, .int 0, .null, .int 0, .null, .int 0, .null, .null, .int 0, .null, .int 0, .null]) (C := RX8) (T := TX8) (N := 13) hx hb hts inX8 tyX8 tyX8_ok hownL (hts _ sC8) (hts _ sI8) (hts _ sT8) hK hP hD hS hA rfl (fun j hj => by rcases (show j = 0 ∨ j = 1 ∨ j = 2 ∨ j = 3 ∨ j = 4 ∨ j = 5 ∨ j = 6 ∨ j = 7 ∨ j = 8 ∨ j = 9 ∨ j = 10 ∨ j = 11 ∨ j = 12 by omega) with rfl | rfl | rfl | rfl | rfl | rfl | rfl | rfl | rfl | rfl | rfl | rfl | rfl <;> rfl) (Nat.le_of_ble_eq_true rfl) (Nat.le_of_ble_eq_true rfl) dL_law_8 (fun q1 H hP hD hS => ?_)
  rw [wl_push] at hP hD
  refine lv_dup hx hb dL_law_11 rfl ?_
  have hFc : ∀ q, va_A (wl 256 (fset ad1 255 q1) (fset ce1 255 (.inr (8, [.null, .null, .int 0, .null, .int 0, .null, .int 0, .null, .null, .int 0, .null, .int 0, .null])))) H.size q → s.heap.size ≤ q := by
    rintro q (⟨k, z, hz⟩ | hz)
    · exact hD.2 k (q, z) hz
    · exact Nat.le_trans hS.1 hz
  refine va_callv (va_runI (nL := 4) (maxL := 1) (As := []) (rest := [.ref q1]) ⟨hx, hb, hml, hownL, htl⟩ (cc_X8_init (b := 255) (ad := fset ad1 255 q1) (ce := fset ce1 255 (.inr (8, [.null, .null, .int 0, .null, .int 0, .null, .int 0, .null, .null, .int 0, .null, .int 0, .null]))) fset_eq l D cs H.size) (cwI 0 htl gL_law_X8_init rfl rfl rfl (hts _ sT8) (hts _ sM8) (hts _ sY8) rfl (by decide +kernel) ⟨Nat.le_of_ble_eq_true rfl, Nat.le_of_ble_eq_true rfl⟩) ⟨cnc_blind xb_true, fun U hU hW2 => ⟨rfl, by rw [hU], by rw [hU]; exact hP, va_K.moved hW2.alike hK, hD.weaken (fun _ _ _ _ => trivial), xb_true.1 _ _ hW2 trivial⟩⟩ rfl rfl hl.1 rfl (lv_room (Nat.le_of_ble_eq_true rfl)) dL_law_12 ⟨Nat.le_of_ble_eq_true rfl, Nat.le_of_ble_eq_true rfl⟩) hS (fun q _ h => hFc q h) hFc (fun u t H1 locs1 ht hvm hw1 hB hz1 hk1 hS => ?_)
  obtain ⟨ad2, ce2⟩ := u
  obtain ⟨e1, e2, e3, e4⟩ := hw1
  obtain ⟨hP1, -, hD1⟩ := hB
  rw [ht] at hP1
  have hD : va_D (fun q : Nat => s.heap.size ≤ q) (wl 264 ad2 ce2) := hD1.weaken (fun _ q _ h => hFc q.1 h)
  have hP : va_P D vwCl (wl 264 ad2 ce2) H1 := hP1
  have aE : ∀ i, i < 255 → ad2 i = ad1 i := fun i hi => (e1 i (by omega)).trans (fset_ne (by omega))
  have cE : ∀ i, i < 255 → ce2 i = ce1 i := fun i hi => (e2 i (by omega) (by omega)).trans (fset_ne (by omega))
  have q1E : ad2 255 = q1 := (e1 255 (by omega)).trans fset_eq
  have hg : sgm cs 264 ad2 ce2 0 ly_all M0 := by
    rw [ly_all_eq]
    refine sgm.app (b2 := 255) (g7.mono (by omega) aE (fun k hk => cE _ (by have hk2 : k < 255 := hk; omega))) ?_ rfl
    exact sgm.row e3 (fun k hk => M0_z (by omega))
  have hW := wd_of_sgm hg hP
  have hInj : Inj ad2 := fun i j hi hj h => hD.1 i j _ _ (wl_at hi) (wl_at hj) h
  have hAd : ∀ i, i < 264 → s.heap.size ≤ ad2 i := fun i hi => hD.2 i _ (wl_at hi)
  refine lv_astore_n hx hb dL_law_15 rfl (lvp_has hl) (by decide) rfl (fun ls hl3 => ?_)
  have hl := lvp_set hl rfl rfl hl3
  refine lv_iconst (v := 0) hx hb dL_law_16 (by decide) ?_
  refine lv_istore_n hx hb dL_law_17 rfl (lvp_has hl) (by decide) rfl (fun ls hl4 => ?_)
  have hl := lvp_set hl rfl rfl hl4
  have hq0 : q0 = ad2 0 := by rw [aE 0 (by omega), q0E]
  have hq1 : q1 = ad2 255 := q1E.symm
  subst hq0
  subst hq1
  have C : CxL p s m #[Value.ref b] c D cs ad2 b L xs := ⟨hx, hb, hml, hownL, htl, hK, hInj, hAd, hX, hbl⟩
  refine law_loop (Q := lw_Z below #[Value.ref b] s) C hL O (fun i M => ?_) (L + 1) 0 M0 (by omega) (Nat.zero_le _) h0 H1 locs1 ls hS hW hl
  intro H locs ls hS hP hl
  refine lv_iconst (v := 1) hx hb dL_law_797 (by decide) ?_
  refine va_forget (fun q hq => hS.2.2 q hq) ?_
  refine W.widen (k := 600000) (n := 7302250) (Nat.le_of_ble_eq_true rfl) (Nat.le_of_ble_eq_true rfl) ?_
  exact lw_ret hx hb hr hlocks dL_law_798

