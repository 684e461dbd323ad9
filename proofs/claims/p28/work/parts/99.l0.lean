/-! THE LAW: its small methods, its arrays -/
def pN (v : Int32) (m : Nat) : Nat := v.toBitVec.toNat % 2 ^ 31 % m
theorem pN_lt {v : Int32} {m : Nat} (h : 0 < m) : pN v m < m := Nat.mod_lt _ h
theorem c_part {v n : Int32} {m : Nat} (hn : n = nI m) (h0 : 0 < m) (h1 : m < 2000) : CoI yL_part wq_part 0 0 0 [.int v, .int n] (nI (pN v m)) := by
  subst hn
  refine q_metO (cc := cL_part) (maxL := 2) (ret := .int) rfl (by decide) rfl (Nat.le_of_ble_eq_true rfl) (fun p l e s m0 args below meth c D cs C hXL hr => ?_)
  show VX p l e (rmC 0 0 0) s m0 args below meth c 2 D (fun q => s.heap.size ≤ q) 0 0 _ (fun _ => True) 0 [(0, .int v), (1, .int (nI m))] []
  refine q_iload_n C dL_part_0 rfl 0 rfl ?_
  refine q_ldc C qK_7 dL_part_1 ?_
  refine q_iand C dL_part_3 ?_
  refine q_iload_n C dL_part_4 rfl 1 rfl ?_
  refine q_irem_v (v := nI (pN v m)) C dL_part_5 (fun q => ?_) ?_ ?_
  · have := nI_inj (a := m) (b := 0) (by omega) (by omega) q
    omega
  · rw [pk_and v 31 (by decide)]
    exact pk_rem (Nat.mod_lt _ (by decide)) h0 (by omega)
  · exact q_iretO C hr rfl ⟨Nat.le_refl _, Nat.le_refl _⟩ dL_part_6
def CdI (b L : Nat) (xs : Nat → Int32) (k : Nat) (r : Int32) : Prop :=
  ∀ (l : Launch) (D : va_G) (cs : Nat → ClassId), Met l yL_drawn wq_drawn (rmC 0 0 0) (va_Pc [.ref b, .int (nI k)] (fun U => (va_K D vwCl (tys cs) U ∧ XL U) ∧ va_X b L xs U U.heap)) (va_Qi (fun (r0 : Int32) (_ : Unit) => r0 = r) (fun _ _ => True) (fun _ => False)) 0 0 (fun _ => False)
section QL
variable {p : Program} {l : Launch} {e : Env} {R : Room} {s : State} {m : MethodId} {args : Array Value} {below : List Frame} {meth : Method} {c : Code} {nL : Nat} {D : va_G} {cs : Nat → ClassId} {A : Nat → Prop} {cells slots : Nat} {Q : State → Prop} {P : va_W → Prop} {pc : Nat} {lv : List (Nat × Value)} {st : List Value} {cc : ByteArray} {b L : Nat} {xs : Nat → Int32} {ad : Nat → Nat} {g : Gh} {aw : Nat} {wv : Nat → Int64}
theorem q_sld (C : CQ p s m args meth c cc nL D cs) (hX : va_X b L xs s s.heap) (hbl : b < s.heap.size) {x : Int32} {j : Nat} (hj : x = nI j) (hL : j < L) (hb : L < 2 ^ 31) (hdg : decode cc pc = .ok (.iaload, 1)) (k : VX p l e R s m args below meth c nL D (fun q => s.heap.size ≤ q) cells slots Q P (pc + 1) lv (.int (xs j) :: st)) : VX p l e R s m args below meth c nL D (fun q => s.heap.size ≤ q) cells slots Q P pc lv (.int x :: .ref b :: st) := by
  subst hj
  refine fun ws H locs ls hW hS hD hP hl => va_sld C.1 C.2.1 hX hbl (Nat.not_le.mpr hbl) hS (vp_in_nI hL hb) hdg ?_
  rw [nI_clamp (by omega)]
  exact k ws H locs ls hW hS hD hP hl
theorem q_slen (C : CQ p s m args meth c cc nL D cs) (hX : va_X b L xs s s.heap) (hbl : b < s.heap.size) (hdg : decode cc pc = .ok (.arraylength, 1)) (k : VX p l e R s m args below meth c nL D (fun q => s.heap.size ≤ q) cells slots Q P (pc + 1) lv (.int (nI L) :: st)) : VX p l e R s m args below meth c nL D (fun q => s.heap.size ≤ q) cells slots Q P pc lv (.ref b :: st) :=
  fun ws H locs ls hW hS hD hP hl => va_slen C.1 C.2.1 hX hbl (Nat.not_le.mpr hbl) hS hdg (k ws H locs ls hW hS hD hP hl)
theorem Kx_blind {av : List Value} : FrameBlind (va_Pc av (fun U => (va_K D vwCl (tys cs) U ∧ XL U) ∧ va_X b L xs U U.heap)) := fun a U g mk q => ⟨q.1, ⟨va_K.moved (u := U) (U := U.calling g mk a) (Vm.Alike.refl U.vm) q.2.1.1, xb_XL.2 U (U.calling g mk a) rfl q.2.1.2⟩, va_X.moved (u := U) (U := U.calling g mk a) (Vm.Alike.refl U.vm) q.2.2⟩
theorem q_drawn (C : CQ p s m args meth c cc nL D cs) (hXL : XL s) (hX : va_X b L xs s s.heap) (hbl : b < s.heap.size) {k : Nat} {r : Int32} (hM : CdI b L xs k r) (hR : 0 + 1 ≤ R.frames ∧ 8 + (2 + 11) + 36 * 0 ≤ R.locals) (hcs : cells + 0 ≤ R.cells ∧ slots + 0 ≤ R.slots) (hW : (st.map fun v => v.category).sum ≤ 8) (hdg : decode cc pc = .ok (.invokestatic 172, 3)) (kk : VX p l e R s m args below meth c nL D (fun q => s.heap.size ≤ q) cells slots Q P (pc + 3) lv (.int r :: st)) : VX p l e R s m args below meth c nL D (fun q => s.heap.size ≤ q) cells slots Q P pc lv (.int (nI k) :: .ref b :: st) := by
  intro ws H locs ls hw0 hS hD hP hl
  obtain ⟨hx, hbb, hml, hown, hts, hK, -⟩ := C
  refine va_calli (va_runS (nL := nL) (As := [.ref b, .int (nI k)]) (rest := st) (maxL := 2) (ret := some .int) ⟨hx, hbb, hml, hown, hts⟩ (hM l D cs) (q_cbO (n := 2) (fr := 0) hts qG_Ldrawn rfl (by decide +kernel) hR) ⟨Kx_blind, fun U hU hW => ⟨rfl, ⟨va_K.moved hW.alike hK, xb_XL.1 _ _ hW hXL⟩, by rw [hU]; exact va_X.moved hW.alike (hX.kept (hS.2.1 b hbl (Nat.not_le.mpr hbl)))⟩⟩ rfl rfl hl.1 rfl (lv_room hW) hdg hcs) hS (fun q _ h => absurd h id) (fun q h => absurd h id) (fun r0 u t H1 locs1 ht hvm hw1 hB hz1 hk1 hS1 => ?_)
  rw [hw1]
  exact kk ws H1 locs1 ls hw0 hS1 hD (hP.kept (fun k q hk => hk1 q.1 (hP k q hk).lt id)) hl
/-- the law's own row of longs beside the object -/
def wC (cs : Nat → ClassId) (aw : Nat) (wv : Nat → Int64) : va_W := [(aw, .inl (cs 2, 64, .inr (.inl wv)))]
theorem wC_at {M : Mem} : (wd cs ad M ++ wC cs aw wv)[255]? = some (aw, .inl (cs 2, 64, .inr (.inl wv))) := by
  rw [List.getElem?_append_right (by rw [wd_len]; omega), wd_len]
  rfl
theorem wC_set {M : Mem} {wv2 : Nat → Int64} : (wd cs ad M ++ wC cs aw wv).set 255 (aw, .inl (cs 2, 64, .inr (.inl wv2))) = wd cs ad M ++ wC cs aw wv2 := by
  rw [List.set_append_right 255 _ (by rw [wd_len]; omega), wd_len]
  rfl
theorem q_last (C : CQ p s m args meth c cc nL D cs) {x : Int64} {j : Nat} (hj : j < 64) (hdg : decode cc pc = .ok (.lastore, 1)) (k : VX p l e R s m args below meth c nL D A cells slots Q (gW cs ad g (wC cs aw (vp_updL wv j x))) (pc + 1) lv st) : VX p l e R s m args below meth c nL D A cells slots Q (gW cs ad g (wC cs aw wv)) pc lv (.long x :: .int (nI j) :: .ref aw :: st) := by
  rintro ws H locs ls ⟨M, hC, rfl⟩ hS hD hP hl
  refine va_last C.1 C.2.1 C.2.2.2.2.2.1 hP hD hS 255 2 wC_at rfl (vp_in_nI hj (by decide)) hdg (fun H1 locs1 hP1 hD1 hS1 => ?_)
  rw [wC_set, nI_clamp (by omega)] at hP1 hD1
  exact k _ H1 locs1 ls ⟨M, hC, rfl⟩ hS1 hD1 hP1 hl
theorem q_lald (C : CQ p s m args meth c cc nL D cs) {j : Nat} {v : Int64} (hj : j < 64) (hv : wv j = v) (hdg : decode cc pc = .ok (.laload, 1)) (k : VX p l e R s m args below meth c nL D A cells slots Q (gW cs ad g (wC cs aw wv)) (pc + 1) lv (.long v :: st)) : VX p l e R s m args below meth c nL D A cells slots Q (gW cs ad g (wC cs aw wv)) pc lv (.int (nI j) :: .ref aw :: st) := by
  subst hv
  rintro ws H locs ls ⟨M, hC, rfl⟩ hS hD hP hl
  refine va_lald C.1 C.2.1 C.2.2.2.2.2.1 hP 255 2 wC_at rfl (vp_in_nI hj (by decide)) hdg ?_
  rw [nI_clamp (by omega)]
  exact k _ H locs ls ⟨M, hC, rfl⟩ hS hD hP hl
end QL
theorem c_drawn {b L : Nat} {xs : Nat → Int32} {k : Nat} (hL : L ≤ 260) (hk : k < 1000) : ∃ r, CdI b L xs k r := by
  rcases Nat.eq_zero_or_pos L with h0 | h0
  · subst h0
    refine ⟨7919 * nI k + 3, fun l D cs => ?_⟩
    refine Met.ofW (cc := cL_drawn) (maxL := 2) (ret := some .int) (by decide) rfl ?_
    intro p e s m args below meth c s₁ B hml hv
    obtain ⟨rfl, ⟨hK, hXL⟩, hX⟩ := hv
    have hts := atoms_spec (ws := wq_drawn) B.pre
    have hown : s.vm.findClass RL = some m.cls := findClass_of_methodNamed B.named
    have hlocks := B.notSynchronized
    obtain ⟨scr, hcb, -⟩ := id hX
    have hbl : b < s.heap.size := (Array.getElem?_eq_some_iff.mp hcb).1
    rw [lg_entry_eq]
    have C : CQ p s m #[Value.ref b, Value.int (nI k)] meth c cL_drawn 2 D cs := ⟨B.exec, B.bytes, hml, hown, fun w h => hts w (List.mem_cons_of_mem _ h), hK, hlocks⟩
    have go : VX p l e (rmC 0 0 0) s m #[Value.ref b, Value.int (nI k)] below meth c 2 D (fun q => s.heap.size ≤ q) 0 0 (MQ below (va_Qi (fun (r0 : Int32) (_ : Unit) => r0 = 7919 * nI k + 3) (fun _ _ => True) (fun _ => False)) #[Value.ref b, Value.int (nI k)] s 0 0 (fun _ => False)) (fun _ => True) 0 [(0, .ref b), (1, .int (nI k))] [] := by
      refine q_aload_n C dL_drawn_0 rfl 0 rfl ?_
      refine q_slen C hX hbl dL_drawn_1 ?_
      refine q_if_ne_f C 15 dL_drawn_2 (by decide) (by decide) ?_
      refine q_sipush (v := (7919 : Int32)) C dL_drawn_5 (by decide) ?_
      refine q_iload_n C dL_drawn_8 rfl 1 rfl ?_
      refine q_imul C dL_drawn_9 ?_
      refine q_iconst (v := (3 : Int32)) C dL_drawn_10 (by decide) ?_
      refine q_iadd C dL_drawn_11 ?_
      refine q_goto (tgt := 39) C dL_drawn_12 (by decide) ?_
      exact q_iretO C B.returns rfl ⟨Nat.le_refl _, Nat.le_refl _⟩ dL_drawn_39
    exact go [] s.heap [] _ trivial va_S.rf ⟨fun i j p q h => by simp at h, fun k q h => by simp at h⟩ (fun k q h => by simp at h) (lv_entry _ (Nat.le_of_ble_eq_true rfl))
  · refine ⟨((xs (k % L) >>> ((nI k - nI k / 7 * 7) &&& 31)) ^^^ (nI k / nI L * 31)) ^^^ (nI k * 2654435), fun l D cs => ?_⟩
    refine Met.ofW (cc := cL_drawn) (maxL := 2) (ret := some .int) (by decide) rfl ?_
    intro p e s m args below meth c s₁ B hml hv
    obtain ⟨rfl, ⟨hK, hXL⟩, hX⟩ := hv
    have hts := atoms_spec (ws := wq_drawn) B.pre
    have hown : s.vm.findClass RL = some m.cls := findClass_of_methodNamed B.named
    have hlocks := B.notSynchronized
    obtain ⟨scr, hcb, -⟩ := id hX
    have hbl : b < s.heap.size := (Array.getElem?_eq_some_iff.mp hcb).1
    have hne : ¬ nI L = (0 : Int32) := fun q => by
      have := nI_inj (a := L) (b := 0) (by omega) (by omega) q
      omega
    rw [lg_entry_eq]
    have C : CQ p s m #[Value.ref b, Value.int (nI k)] meth c cL_drawn 2 D cs := ⟨B.exec, B.bytes, hml, hown, fun w h => hts w (List.mem_cons_of_mem _ h), hK, hlocks⟩
    have go : VX p l e (rmC 0 0 0) s m #[Value.ref b, Value.int (nI k)] below meth c 2 D (fun q => s.heap.size ≤ q) 0 0 (MQ below (va_Qi (fun (r0 : Int32) (_ : Unit) => r0 = ((xs (k % L) >>> ((nI k - nI k / 7 * 7) &&& 31)) ^^^ (nI k / nI L * 31)) ^^^ (nI k * 2654435)) (fun _ _ => True) (fun _ => False)) #[Value.ref b, Value.int (nI k)] s 0 0 (fun _ => False)) (fun _ => True) 0 [(0, .ref b), (1, .int (nI k))] [] := by
      refine q_aload_n C dL_drawn_0 rfl 0 rfl ?_
      refine q_slen C hX hbl dL_drawn_1 ?_
      refine q_if_ne_t C 15 dL_drawn_2 (by decide) hne ?_
      refine q_aload_n C dL_drawn_15 rfl 0 rfl ?_
      refine q_iload_n C dL_drawn_16 rfl 1 rfl ?_
      refine q_aload_n C dL_drawn_17 rfl 0 rfl ?_
      refine q_slen C hX hbl dL_drawn_18 ?_
      refine q_irem C dL_drawn_19 hne ?_
      refine q_sld C hX hbl (j := k % L) (pk_rem (by omega) h0 (by omega)) (Nat.mod_lt _ h0) (by omega) dL_drawn_20 ?_
      refine q_iload_n C dL_drawn_21 rfl 1 rfl ?_
      refine q_bipush (v := (7 : Int32)) C dL_drawn_22 (by decide) ?_
      refine q_irem C dL_drawn_24 (by decide) ?_
      refine q_ishr C dL_drawn_25 ?_
      refine q_iload_n C dL_drawn_26 rfl 1 rfl ?_
      refine q_aload_n C dL_drawn_27 rfl 0 rfl ?_
      refine q_slen C hX hbl dL_drawn_28 ?_
      refine q_idiv C dL_drawn_29 hne ?_
      refine q_bipush (v := (31 : Int32)) C dL_drawn_30 (by decide) ?_
      refine q_imul C dL_drawn_32 ?_
      refine q_ixor C dL_drawn_33 ?_
      refine q_iload_n C dL_drawn_34 rfl 1 rfl ?_
      refine q_ldc C qK_8 dL_drawn_35 ?_
      refine q_imul C dL_drawn_37 ?_
      refine q_ixor C dL_drawn_38 ?_
      exact q_iretO C B.returns rfl ⟨Nat.le_refl _, Nat.le_refl _⟩ dL_drawn_39
    exact go [] s.heap [] _ trivial va_S.rf ⟨fun i j p q h => by simp at h, fun k q h => by simp at h⟩ (fun k q h => by simp at h) (lv_entry _ (Nat.le_of_ble_eq_true rfl))
