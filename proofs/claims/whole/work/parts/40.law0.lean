/-! THE LAW: rules over the memory, with the script beside it -/
def lyX8 : List (Nat × Nat) := ([(8, 0)] ++ [(10, 198)] ++ [(10, 792)] ++ [(10, 198)] ++ [(11, 60)] ++ [(10, 13)] ++ [(10, 13)] ++ [(10, 136)] ++ [(12, 4096)])
theorem ly_all_eq : ly_all = ly7 ++ lyX8 := by decide +kernel
theorem wd_of_sgm {D : va_G} {cs : Nat → ClassId} {ad : Nat → Nat} {ce : Nat → va_E} {H : Heap} (h : sgm cs 264 ad ce 0 ly_all M0) (hP : va_P D vwCl (wl 264 ad ce) H) : va_P D vwCl (wd cs ad M0) H := by
  intro k q hq
  have hk : k < 264 := by
    have := (List.getElem?_eq_some_iff.mp hq).1
    rwa [wd_len] at this
  rw [wd_at hk] at hq
  cases hq
  obtain ⟨z, hz⟩ : ∃ z, ly_all[k]? = some z := ⟨_, List.getElem?_eq_getElem (by rw [ly_len]; exact hk)⟩
  have h1 := h k z hz ad (fun _ _ => rfl) D (ad k) H
  rw [Nat.zero_add] at h1
  have h2 := h1 (hP k _ (wl_at hk))
  have ht : tg k = z.1 := by unfold tg; rw [List.getD_eq_getElem?_getD, hz]; rfl
  have hl : ln k = z.2 := by unfold ln; rw [List.getD_eq_getElem?_getD, hz]; rfl
  rw [cel_g, ht, hl]
  exact h2
def Ok (Sim : Mem → Prop) (M : Mem) (F G : Mem → Option (Int32 × Mem)) : Prop := ∃ r M1 M2, F M = some (r, M1) ∧ G M1 = some (r, M2) ∧ Sim M2
def CxL (p : Program) (s : State) (m : MethodId) (args : Array Value) (c : Code) (D : va_G) (cs : Nat → ClassId) (ad : Nat → Nat) (b L : Nat) (xs : Nat → Int32) : Prop :=
  p.tables.exec = Jvm.exec ∧ c.code = code ∧ c.maxLocals = 4 ∧ s.vm.findClass RL = some m.cls ∧ (∀ w ∈ wsL_law, w.before args s = true) ∧ va_K D vwCl (tys cs) s ∧ Inj ad ∧ (∀ i, i < 264 → s.heap.size ≤ ad i) ∧ va_X b L xs s s.heap ∧ b < s.heap.size
def VL (p : Program) (l : Launch) (e : Env) (s : State) (m : MethodId) (args : Array Value) (below : List Frame) (meth : Method) (c : Code) (D : va_G) (cs : Nat → ClassId) (ad : Nat → Nat) (Q : State → Prop) (pc : Nat) (lv : List (Option Value)) (st : List Value) (M : Mem) : Prop :=
  ∀ (H : Heap) (locs : List Loc) (ls : Array Slot), va_S (fun q => s.heap.size ≤ q) s.heap H locs → va_P D vwCl (wd cs ad M) H → lvp ls 4 lv → W p l e room_1 s m args below meth c H locs 264 7281 Q (F0 m pc ls st)
section ZR
variable {p : Program} {l : Launch} {e : Env} {s : State} {m : MethodId} {args : Array Value} {below : List Frame} {meth : Method} {c : Code} {D : va_G} {cs : Nat → ClassId} {ad : Nat → Nat} {Q : State → Prop} {pc : Nat} {lv lv' : List (Option Value)} {st : List Value} {M M' : Mem} {b L : Nat} {xs : Nat → Int32}
theorem z_iconst (C : CxL p s m args c D cs ad b L xs) {z : Int} {v : Int32} (hdg : decode code pc = .ok (.iconst z, 1)) (hv : Int32.ofInt z = v) (k : VL p l e s m args below meth c D cs ad Q (pc + 1) lv (.int v :: st) M) : VL p l e s m args below meth c D cs ad Q pc lv st M :=
  fun H locs ls hS hP hl => lv_iconst C.1 C.2.1 hdg hv (k H locs ls hS hP hl)
theorem z_bipush (C : CxL p s m args c D cs ad b L xs) {z : Int} {v : Int32} (hdg : decode code pc = .ok (.bipush z, 2)) (hv : (Int8.ofInt z).toInt32 = v) (k : VL p l e s m args below meth c D cs ad Q (pc + 2) lv (.int v :: st) M) : VL p l e s m args below meth c D cs ad Q pc lv st M :=
  fun H locs ls hS hP hl => lv_bipush C.1 C.2.1 hdg hv (k H locs ls hS hP hl)
theorem z_iload_n (C : CxL p s m args c D cs ad b L xs) {k : Fin 4} {i : Nat} {x : Int32} (hdg : decode code pc = .ok (.iload_n k, 1)) (hi : (k : Nat) = i) (hx : lv[i]? = some (some (.int x))) (kk : VL p l e s m args below meth c D cs ad Q (pc + 1) lv (.int x :: st) M) : VL p l e s m args below meth c D cs ad Q pc lv st M :=
  fun H locs ls hS hP hl => lv_iload_n C.1 C.2.1 hdg hi (hl.2.2 _ _ hx).1 (kk H locs ls hS hP hl)
theorem z_aload_n (C : CxL p s m args c D cs ad b L xs) {k : Fin 4} {i x : Nat} (hdg : decode code pc = .ok (.aload_n k, 1)) (hi : (k : Nat) = i) (hx : lv[i]? = some (some (.ref x))) (kk : VL p l e s m args below meth c D cs ad Q (pc + 1) lv (.ref x :: st) M) : VL p l e s m args below meth c D cs ad Q pc lv st M :=
  fun H locs ls hS hP hl => lv_aload_n C.1 C.2.1 hdg hi (hl.2.2 _ _ hx).1 (kk H locs ls hS hP hl)
theorem z_istore_n (C : CxL p s m args c D cs ad b L xs) {k : Fin 4} {i : Nat} {x : Int32} (hdg : decode code pc = .ok (.istore_n k, 1)) (hi : (k : Nat) = i) (hn : i < 4) (hl : lv.set i (some (.int x)) = lv') (kk : VL p l e s m args below meth c D cs ad Q (pc + 1) lv' st M) : VL p l e s m args below meth c D cs ad Q pc lv (.int x :: st) M :=
  fun H locs ls hS hP h => lv_istore_n C.1 C.2.1 hdg hi (lvp_has h) hn rfl (fun ls' h' => kk H locs ls' hS hP (lvp_set h rfl hl h'))
theorem z_iinc (C : CxL p s m args c D cs ad b L xs) {i : Nat} {n : Int} {x v d : Int32} (hdg : decode code pc = .ok (.iinc i n, 3)) (hx : lv[i]? = some (some (.int x))) (hd : Int32.ofInt n = d) (hv : x + d = v) (hn : i < 4) (hl : lv.set i (some (.int v)) = lv') (kk : VL p l e s m args below meth c D cs ad Q (pc + 3) lv' st M) : VL p l e s m args below meth c D cs ad Q pc lv st M := by
  intro H locs ls hS hP h
  obtain ⟨k, hk⟩ := List.getElem?_of_mem (prs_mem.mpr hx)
  exact lv_iinc C.1 C.2.1 hdg (lvp_has h) hk (by rw [hd]; exact hv) hn rfl (fun ls' h' => kk H locs ls' hS hP (lvp_set h rfl hl h'))
theorem z_iadd (C : CxL p s m args c D cs ad b L xs) {x y v : Int32} (hdg : decode code pc = .ok (.iadd, 1)) (hv : x + y = v) (k : VL p l e s m args below meth c D cs ad Q (pc + 1) lv (.int v :: st) M) : VL p l e s m args below meth c D cs ad Q pc lv (.int y :: .int x :: st) M := by
  subst hv
  exact fun H locs ls hS hP hl => lv_iadd C.1 C.2.1 hdg (k H locs ls hS hP hl)
theorem z_isub (C : CxL p s m args c D cs ad b L xs) {x y : Int32} (hdg : decode code pc = .ok (.isub, 1)) (k : VL p l e s m args below meth c D cs ad Q (pc + 1) lv (.int (x - y) :: st) M) : VL p l e s m args below meth c D cs ad Q pc lv (.int y :: .int x :: st) M :=
  fun H locs ls hS hP hl => lv_isub C.1 C.2.1 hdg (k H locs ls hS hP hl)
theorem z_iand (C : CxL p s m args c D cs ad b L xs) {x y : Int32} (hdg : decode code pc = .ok (.iand, 1)) (k : VL p l e s m args below meth c D cs ad Q (pc + 1) lv (.int (x &&& y) :: st) M) : VL p l e s m args below meth c D cs ad Q pc lv (.int y :: .int x :: st) M :=
  fun H locs ls hS hP hl => lv_iand C.1 C.2.1 hdg (k H locs ls hS hP hl)
theorem z_i2c (C : CxL p s m args c D cs ad b L xs) {x : Int32} (hdg : decode code pc = .ok (.i2c, 1)) (k : VL p l e s m args below meth c D cs ad Q (pc + 1) lv (.int ((x.toUInt32 % 65536).toInt32) :: st) M) : VL p l e s m args below meth c D cs ad Q pc lv (.int x :: st) M :=
  fun H locs ls hS hP hl => lv_i2c C.1 C.2.1 hdg rfl (k H locs ls hS hP hl)
theorem z_goto (C : CxL p s m args c D cs ad b L xs) {off : Int} {tgt : Nat} (hdg : decode code pc = .ok (.goto off, 3)) (ht : (pc : Int) + off = (tgt : Int)) (k : VL p l e s m args below meth c D cs ad Q tgt lv st M) : VL p l e s m args below meth c D cs ad Q pc lv st M :=
  fun H locs ls hS hP hl => lv_goto C.1 C.2.1 hdg ht (k H locs ls hS hP hl)
theorem z_icmp_gt (C : CxL p s m args c D cs ad b L xs) {x y : Int32} {off : Int} {tgt : Nat} (hdg : decode code pc = .ok (.if_icmp .gt off, 3)) (ht : (pc : Int) + off = (tgt : Int)) (kt : y < x → VL p l e s m args below meth c D cs ad Q tgt lv st M) (kf : ¬ y < x → VL p l e s m args below meth c D cs ad Q (pc + 3) lv st M) : VL p l e s m args below meth c D cs ad Q pc lv (.int y :: .int x :: st) M :=
  fun H locs ls hS hP hl => lv_icmp_gt C.1 C.2.1 hdg ht (fun q => kt q H locs ls hS hP hl) (fun q => kf q H locs ls hS hP hl)
/-- the two answers are the same -/
theorem z_icmp_same (C : CxL p s m args c D cs ad b L xs) {x : Int32} {off : Int} {tgt : Nat} (hdg : decode code pc = .ok (.if_icmp .eq off, 3)) (ht : (pc : Int) + off = (tgt : Int)) (kt : VL p l e s m args below meth c D cs ad Q tgt lv st M) : VL p l e s m args below meth c D cs ad Q pc lv (.int x :: .int x :: st) M :=
  fun H locs ls hS hP hl => lv_icmp_eq C.1 C.2.1 hdg ht (fun q => kt H locs ls hS hP hl) (fun q => absurd rfl q)
theorem z_if_eq (C : CxL p s m args c D cs ad b L xs) {x : Int32} {off : Int} {tgt : Nat} (hdg : decode code pc = .ok (.ifCond .eq off, 3)) (ht : (pc : Int) + off = (tgt : Int)) (kt : x = 0 → VL p l e s m args below meth c D cs ad Q tgt lv st M) (kf : ¬ x = 0 → VL p l e s m args below meth c D cs ad Q (pc + 3) lv st M) : VL p l e s m args below meth c D cs ad Q pc lv (.int x :: st) M :=
  fun H locs ls hS hP hl => lv_if_eq C.1 C.2.1 hdg ht (fun q => kt q H locs ls hS hP hl) (fun q => kf q H locs ls hS hP hl)
theorem z_tabIn (C : CxL p s m args c D cs ad b L xs) {dflt lo hi : Int} {offs : Array Int} {len : Nat} {x : Int32} {off : Int} {tgt : Nat} (hdg : decode code pc = .ok (.tableswitch dflt lo hi offs, len)) (v : Int32) (hx : x = v) (h1 : ¬ v.toInt < lo) (h2 : ¬ hi < v.toInt) (ho : offs[(v.toInt - lo).toNat]? = some off) (ht : (pc : Int) + off = (tgt : Int)) (k : VL p l e s m args below meth c D cs ad Q tgt lv st M) : VL p l e s m args below meth c D cs ad Q pc lv (.int x :: st) M := by
  subst hx
  exact fun H locs ls hS hP hl => lv_tableIn C.1 C.2.1 hdg h1 h2 ho ht (k H locs ls hS hP hl)
theorem z_tabOut (C : CxL p s m args c D cs ad b L xs) {dflt lo hi : Int} {offs : Array Int} {len : Nat} {x : Int32} {tgt : Nat} (hdg : decode code pc = .ok (.tableswitch dflt lo hi offs, len)) (h : x.toInt < lo ∨ hi < x.toInt) (ht : (pc : Int) + dflt = (tgt : Int)) (k : VL p l e s m args below meth c D cs ad Q tgt lv st M) : VL p l e s m args below meth c D cs ad Q pc lv (.int x :: st) M :=
  fun H locs ls hS hP hl => lv_tableOut C.1 C.2.1 hdg h ht (k H locs ls hS hP hl)
theorem z_sld (C : CxL p s m args c D cs ad b L xs) {x : Int32} {j : Nat} (hj : x = nI j) (hL : j < L) (hb : L < 2 ^ 31) (hdg : decode code pc = .ok (.iaload, 1)) (k : VL p l e s m args below meth c D cs ad Q (pc + 1) lv (.int (xs j) :: st) M) : VL p l e s m args below meth c D cs ad Q pc lv (.int x :: .ref b :: st) M := by
  subst hj
  refine fun H locs ls hS hP hl => va_sld C.1 C.2.1 C.2.2.2.2.2.2.2.2.1 C.2.2.2.2.2.2.2.2.2 (Nat.not_le.mpr C.2.2.2.2.2.2.2.2.2) hS (vp_in_nI hL hb) hdg ?_
  rw [nI_clamp (by omega)]
  exact k H locs ls hS hP hl
theorem z_slen (C : CxL p s m args c D cs ad b L xs) (hdg : decode code pc = .ok (.arraylength, 1)) (k : VL p l e s m args below meth c D cs ad Q (pc + 1) lv (.int (nI L) :: st) M) : VL p l e s m args below meth c D cs ad Q pc lv (.ref b :: st) M :=
  fun H locs ls hS hP hl => va_slen C.1 C.2.1 C.2.2.2.2.2.2.2.2.1 C.2.2.2.2.2.2.2.2.2 (Nat.not_le.mpr C.2.2.2.2.2.2.2.2.2) hS hdg (k H locs ls hS hP hl)
theorem z_call (C : CxL p s m args c D cs ad b L xs) {y : MethodName} {ws ws' : List Cond} {bytes : ByteArray} {maxL fr n index t ob N : Nat} {T : u_T} {Cn : String} {ret : Option FieldType} {av : (Nat → Nat) → List Value} {As rest : List Value} {r : Int32} (hM : CnI y ws fr av M r M') (hG : GoodIn wsL_law (wsV RL index Cn y ws)) (hw : ws = Cond.code y bytes maxL ret :: ws') (hd : y.cls = Cn ∧ y.cls ≠ "java/lang/invoke/MethodHandle" ∧ y.cls ≠ "java/lang/invoke/VarHandle" ∧ (parseMethodDescriptor y.desc).map (fun d => d.parameters.length) = some n) (hR : fr + 1 ≤ room_1.frames ∧ 8 + (maxL + 11) + 36 * fr ≤ room_1.locals)
    (hb : tg ob = t) (h9 : t < 9) (hc : vwCl[t]? = some (Cn, T, N)) (hav : av ad = .ref (ad ob) :: As) (hn : As.length = n) (hst : st = As.reverse ++ .ref (ad ob) :: rest) (hW : (rest.map fun v => v.category).sum ≤ 8) (hdg : decode code pc = .ok (.invokevirtual index, 3)) (kk : VL p l e s m args below meth c D cs ad Q (pc + 3) lv (.int r :: rest) M') : VL p l e s m args below meth c D cs ad Q pc lv st M := by
  intro H locs ls hS hP hl
  subst hst
  obtain ⟨hx, hbb, hml, hown, hts, hK, hI, hA, -, -⟩ := C
  have hM1 := hM l D cs ad
  rw [hav] at hM1
  have hF : ∀ q, AD ad q → s.heap.size ≤ q := by
    rintro q ⟨i, h1, rfl⟩
    exact hA i h1
  refine va_calli (va_runV (nL := 4) (As := As) (rest := rest) ⟨hx, hbb, hml, hown, hts⟩ hM1 (cwV n hts hG hw rfl rfl hd hR) ⟨Wd_blind, va_recv hK hP (ci := t) (q0 := ob) hc (wd_obj hb h9), fun U hU hW => ⟨rfl, by rw [hU]; exact hP, va_K.moved hW.alike hK, hI⟩⟩ rfl hn hl.1 rfl (lv_room hW) hdg ⟨Nat.le_of_ble_eq_true rfl, Nat.le_of_ble_eq_true rfl⟩) hS (fun q _ h => hF q h) hF (fun r0 u t H1 locs1 ht hvm hw1 hB hz1 hk1 hS1 => ?_)
  obtain ⟨hP1, -, -⟩ := hB
  rw [ht] at hP1
  rw [hw1]
  exact kk H1 locs1 ls hS1 hP1 hl
end ZR
