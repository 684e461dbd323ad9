/-! THE LAW FROM ITS ENTRY -/
theorem q_newl {p : Program} {l : Launch} {e : Env} {R : Room} {s : State} {m : MethodId} {args : Array Value} {below : List Frame} {meth : Method} {c : Code} {nL : Nat} {D : va_G} {cs : Nat → ClassId} {A : Nat → Prop} {cells slots : Nat} {Q : State → Prop} {pc : Nat} {lv : List (Nat × Value)} {st : List Value} {cc : ByteArray} {ad : Nat → Nat} {g : Gh} (C : CQ p s m args meth c cc nL D cs) (hcs : cells + 1 ≤ R.cells ∧ slots + 64 ≤ R.slots) (hA : ∀ q, s.heap.size ≤ q → A q) (hdg : decode cc pc = .ok (.newarray .long, 2))
    (kk : ∀ aw, VX p l e R s m args below meth c nL D A (cells + 1) (slots + 64) Q (gW cs ad g (wC cs aw (fun _ => 0))) (pc + 2) lv (.ref aw :: st)) : VX p l e R s m args below meth c nL D A cells slots Q (gW cs ad g []) pc lv (.int 64 :: st) := by
  rintro ws H locs ls ⟨M, hC, rfl⟩ hS hD hP hl
  have hK := C.2.2.2.2.2.1
  refine va_newa (atype := .long) C.1 C.2.1 (C.2.2.2.2.1 _ qA_long) rfl hK hP hD hS hA (a0 := (64, .inr (.inl (fun _ => 0)))) (fun cA => rfl) (by decide) (N' := 64) (by decide) (Nat.le_of_ble_eq_true rfl) hcs.1 hcs.2 hdg (fun q cA H1 hK1 hP1 hD1 hS1 => ?_)
  rw [tys_eq (t := 2) (ty := .long) rfl hK hK1] at hP1 hD1
  refine kk q _ H1 locs ls ⟨M, hC, rfl⟩ hS1 ?_ ?_ hl
  · rw [List.append_nil] at hD1
    exact hD1
  · rw [List.append_nil] at hP1
    exact hP1
theorem g_t {w : Cond} (h : w ∈ lw_g) : w ∈ lw_tbl := (List.mem_filter.mp h).1
set_option maxHeartbeats 8000000 in
set_option maxRecDepth 100000 in
/-- from the entry, for every script of at most 260 ints, the law comes to its end with true -/
theorem whole_start {p : Program} {e : Env} {s : State} {m : MethodId} {below : List Frame} {meth : Method} {c : Code} (l : Launch) (hflags : l.flags = flags0) {b L : Nat} {xs : Nat → Int32} (hL : L ≤ 260) (C0 : lw_At p s m meth c b L xs) : W p l e room_1 s m #[Value.ref b] below meth c s.heap [] 0 0 (lw_Z below #[Value.ref b] s) (entryFrame m ([Value.ref b] : List Value).toArray 11) := by
  obtain ⟨hx, hb, hr, hml, hown, hts, hX, hbl, hlocks, hgv⟩ := id C0
  have hownL : s.vm.findClass RL = some m.cls := hown
  obtain ⟨c0, i0, k0⟩ := u_known (C := RX0) (T := TX0) (N := 2) (n := 2) hts wsX00_in (hts _ (g_t qI0))
  obtain ⟨c1, i1, k1⟩ := u_known (C := RX1) (T := TX1) (N := 2) (n := 2) hts wsX10_in (hts _ (g_t qI1))
  obtain ⟨c2, i2, k2⟩ := u_known (C := RX2) (T := TX2) (N := 9) (n := 9) hts wsX20_in (hts _ (g_t qI2))
  obtain ⟨c3, i3, k3⟩ := u_known (C := RX3) (T := TX3) (N := 7) (n := 7) hts wsX30_in (hts _ (g_t qI3))
  obtain ⟨c4, i4, k4⟩ := u_known (C := RX4) (T := TX4) (N := 4) (n := 4) hts wsX40_in (hts _ (g_t qI4))
  obtain ⟨c5, i5, k5⟩ := u_known (C := RX5) (T := TX5) (N := 2) (n := 2) hts wsX50_in (hts _ (g_t qI5))
  obtain ⟨c6, i6, k6⟩ := u_known (C := RX6) (T := TX6) (N := 8) (n := 8) hts wsX60_in (hts _ (g_t qI6))
  obtain ⟨c7, i7, k7⟩ := u_known (C := RX7) (T := TX7) (N := 7) (n := 7) hts wsX70_in (hts _ (g_t qI7))
  obtain ⟨D, hKc⟩ : ∃ D : va_G, ∀ (k : Nat) (q : vw_C), vwCl[k]? = some q → u_Kn s q.1 q.2.1 q.2.2 (D.1 k) (D.2 k) := by
    refine ⟨(fun k => if k = 0 then c0 else if k = 1 then c1 else if k = 2 then c2 else if k = 3 then c3 else if k = 4 then c4 else if k = 5 then c5 else if k = 6 then c6 else c7, fun k => if k = 0 then i0 else if k = 1 then i1 else if k = 2 then i2 else if k = 3 then i3 else if k = 4 then i4 else if k = 5 then i5 else if k = 6 then i6 else i7), ?_⟩
    intro k q hq
    match k, hq with
    | 0, hq => cases hq; exact k0
    | 1, hq => cases hq; exact k1
    | 2, hq => cases hq; exact k2
    | 3, hq => cases hq; exact k3
    | 4, hq => cases hq; exact k4
    | 5, hq => cases hq; exact k5
    | 6, hq => cases hq; exact k6
    | 7, hq => cases hq; exact k7
    | k + 8, hq => cases hq
  obtain ⟨eI, kkI, cpI, aI1, aI2, aI3⟩ := Cond.arrayClass_spec (hts _ (g_t qA_int))
  obtain ⟨eC, kkC, cpC, aC1, aC2, aC3⟩ := Cond.arrayClass_spec (hts _ (g_t qA_char))
  obtain ⟨eZ, kkZ, cpZ, aZ1, aZ2, aZ3⟩ := Cond.arrayClass_spec (hts _ (g_t qA_long))
  obtain ⟨cpF, eF, kkF, aF1, aF2, aF3, aF4, aF5⟩ := Cond.arrayOver_spec (hts _ qO0)
  obtain ⟨cpH, eH, kkH, aH1, aH2, aH3, aH4, aH5⟩ := Cond.arrayOver_spec (hts _ qO2)
  obtain ⟨cpS, eS, kkS, aS1, aS2, aS3, aS4, aS5⟩ := Cond.arrayOver_spec (hts _ qO6)
  obtain ⟨cs, hcs⟩ : ∃ cs : Nat → ClassId, ∀ (k : Nat) (q : ClassId × FieldType), (tys cs)[k]? = some q → ArrOfT s q.1 q.2 ∧ va_RA s q.1 q.2 := by
    refine ⟨fun k => if k = 0 then eI else if k = 1 then eC else if k = 2 then eZ else if k = 3 then eF else if k = 4 then eH else eS, ?_⟩
    intro k q hq
    match k, hq with
    | 0, hq => cases hq; exact ⟨fun n z => ⟨fun k h => (by cases h), kkI, aI2, cpI, aI3⟩, aI1⟩
    | 1, hq => cases hq; exact ⟨fun n z => ⟨fun k h => (by cases h), kkC, aC2, cpC, aC3⟩, aC1⟩
    | 2, hq => cases hq; exact ⟨fun n z => ⟨fun k h => (by cases h), kkZ, aZ2, cpZ, aZ3⟩, aZ1⟩
    | 3, hq => cases hq; exact ⟨fun n z => ⟨fun k h => (by cases h), kkF, aF3, cpF, aF4⟩, kkF, cpF, aF3, aF4, aF1, aF5⟩
    | 4, hq => cases hq; exact ⟨fun n z => ⟨fun k h => (by cases h), kkH, aH3, cpH, aH4⟩, kkH, cpH, aH3, aH4, aH1, aH5⟩
    | 5, hq => cases hq; exact ⟨fun n z => ⟨fun k h => (by cases h), kkS, aS3, cpS, aS4⟩, kkS, cpS, aS3, aS4, aS1, aS5⟩
    | k + 6, hq => cases hq
  have hK : va_K D vwCl (tys cs) s := ⟨hKc, hcs⟩
  have hXL : XL s := XL_of hts
  have C : CQ p s m #[Value.ref b] meth c cL_law 11 D cs := ⟨hx, hb, hml, hownL, fun w h => hts w (g_t h), hK, hlocks⟩
  have go : VX p l e room_1 s m #[Value.ref b] below meth c 11 D (fun q => s.heap.size ≤ q) 0 0 (lw_Z below #[Value.ref b] s) (fun _ => True) 0 [(0, .ref b)] [] := by
    refine q_callO (n := 0) (av := []) (maxL := 3) (ret := some .boolean) C hXL c_homes qG_Lhomes rfl (by decide +kernel) ⟨Nat.le_of_ble_eq_true rfl, Nat.le_of_ble_eq_true rfl⟩ ⟨Nat.le_of_ble_eq_true rfl, Nat.le_of_ble_eq_true rfl⟩ rfl rfl (Nat.le_of_ble_eq_true rfl) dL_law_0 ?_
    refine q_if_eq_f C 12 dL_law_3 (by decide) (by decide) ?_
    refine q_callO (n := 0) (av := []) (maxL := 2) (ret := some .boolean) C hXL c_texts qG_Ltexts rfl (by decide +kernel) ⟨Nat.le_of_ble_eq_true rfl, Nat.le_of_ble_eq_true rfl⟩ ⟨Nat.le_of_ble_eq_true rfl, Nat.le_of_ble_eq_true rfl⟩ rfl rfl (Nat.le_of_ble_eq_true rfl) dL_law_6 ?_
    refine q_if_ne_t C 14 dL_law_9 (by decide) (by decide) ?_
    refine q_new C hXL ⟨Nat.le_of_ble_eq_true rfl, Nat.le_of_ble_eq_true rfl⟩ ⟨Nat.le_of_ble_eq_true rfl, Nat.le_of_ble_eq_true rfl⟩ (fun _ h => h) (Nat.le_of_ble_eq_true rfl) dL_law_14 dL_law_17 dL_law_18 (fun ad => ?_)
    refine q_astore_n C dL_law_21 rfl (by decide) rfl ?_
    refine q_bipush (v := (64 : Int32)) C dL_law_22 (by decide) ?_
    refine q_newl C ⟨Nat.le_of_ble_eq_true rfl, Nat.le_of_ble_eq_true rfl⟩ (fun _ h => h) dL_law_24 (fun aw => ?_)
    refine q_astore_n C dL_law_26 rfl (by decide) rfl ?_
    refine q_iconst (v := nI 0) C dL_law_27 (by decide) ?_
    refine q_istore_n C dL_law_28 rfl (by decide) rfl ?_
    refine q_iconst (v := nI 0) C dL_law_29 (by decide) ?_
    refine q_istore C dL_law_30 (by decide) rfl ?_
    refine q_widen (c2 := 664266) (s2 := 7109451) (Nat.le_of_ble_eq_true rfl) (Nat.le_of_ble_eq_true rfl) ?_
    exact law_loop C hXL hX hbl hL (fun a g wv h => law_end C hXL hr h) 40 0 0 g0 (fun _ => 0) rfl LI_0
  rw [lg_entry_eq]
  exact go [] s.heap [] _ trivial va_S.rf ⟨fun i j p q h => by simp at h, fun k q h => by simp at h⟩ (fun k q h => by simp at h) (lv_entry _ (Nat.le_of_ble_eq_true rfl))
