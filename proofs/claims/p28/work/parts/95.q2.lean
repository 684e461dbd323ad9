/-! NEW OBJECTS; METHODS THAT MAKE THEM; THE SMALL ONES -/
theorem ly_all_eq : ly_all = ly7 := by decide +kernel
theorem wd_of_sgm {D : va_G} {cs : Nat → ClassId} {ad : Nat → Nat} {ce : Nat → va_E} {H : Heap} (h : sgm cs 255 ad ce 0 ly_all M0) (hP : va_P D vwCl (wl 255 ad ce) H) : va_P D vwCl (wd cs ad M0) H := by
  intro k q hq
  have hk : k < 255 := by
    have := (List.getElem?_eq_some_iff.mp hq).1
    rwa [wd_len] at this
  rw [wd_at hk] at hq
  cases hq
  obtain ⟨z, hz⟩ : ∃ z, ly_all[k]? = some z := ⟨_, List.getElem?_eq_getElem (by rw [ly_len]; exact hk)⟩
  have h1 := h k z hz ad (fun _ _ => rfl) D (ad k) H
  rw [Nat.zero_add] at h1
  have h2 := h1 (hP k _ (wl_at hk))
  have ht : tg k = z.1 := by unfold tg; rw [List.getD_eq_getElem?_getD, hz]; rfl
  have hl : ln k = z.2 := by unfold ln; rw [List.getD_eq_getElem?_getD, hz]; rfl
  rw [cel_g, ht, hl]
  exact h2
theorem XL_of {args : Array Value} {s : State} (hts : ∀ w ∈ lw_tbl, w.before args s = true) : XL s := ⟨⟨⟨va_Nw.of rfl (hts _ qN27), va_Nw.of rfl (hts _ qN28), va_AO.of (hts _ qO0), va_AO.of (hts _ qO2)⟩, va_AO.of (hts _ qO6)⟩, va_Nw.of rfl (hts _ qN32), va_Nw.of rfl (hts _ qN39), va_Nw.of rfl (hts _ qN46)⟩
/-- a new object's ghost -/
def g0 : Gh := ((fun _ => 0), 0, (fun _ => (fun _ => 0)), false, (fun _ => 0), 0, (fun _ => 0))
theorem cg_0 : CG M0 g0 := by
  have z : Zr (fun _ => 0) := fun _ _ => rfl
  exact ⟨⟨⟨inv_0, z⟩, ⟨by show 0 ≤ 4; omega, fun j hj => absurd hj (Nat.not_lt_zero _)⟩, fun h => (by cases h), by show 0 ≤ 60; omega, fun i hi => absurd hi (Nat.not_lt_zero _)⟩, ⟨⟨⟨rfl, rfl, rfl, rfl, rfl⟩, fun f hf => absurd hf (Nat.not_lt_zero _), fun h hh => absurd hh (Nat.not_lt_zero _)⟩, ⟨rfl, (fun j => j), fun j hj => ⟨rfl, hj⟩, fun i j _ _ h => h, fun j hj => absurd hj (Nat.not_lt_zero _)⟩, ⟨rfl, fun h => (by cases h)⟩, rfl, fun i hi => absurd hi (Nat.not_lt_zero _)⟩⟩
section QN
variable {p : Program} {l : Launch} {e : Env} {R : Room} {s : State} {m : MethodId} {args : Array Value} {below : List Frame} {meth : Method} {c : Code} {nL : Nat} {D : va_G} {cs : Nat → ClassId} {A : Nat → Prop} {cells slots : Nat} {Q : State → Prop} {P : va_W → Prop} {pc : Nat} {lv : List (Nat × Value)} {st : List Value} {cc : ByteArray}
set_option maxHeartbeats 4000000 in
theorem q_new (C : CQ p s m args meth c cc nL D cs) (hXL : XL s) (hcs : cells + 255 ≤ R.cells ∧ slots + 1762 ≤ R.slots) (hR : 4 + 1 ≤ R.frames ∧ 8 + (1 + 11) + 36 * 4 ≤ R.locals) (hA : ∀ q, s.heap.size ≤ q → A q) (hW : (st.map fun v => v.category).sum ≤ 7) (d1 : decode cc pc = .ok (.new 14, 3)) (d2 : decode cc (pc + 3) = .ok (.dup, 1)) (d3 : decode cc (pc + 4) = .ok (.invokespecial 86, 3))
    (kk : ∀ ad, VX p l e R s m args below meth c nL D A (cells + 255) (slots + 1762) Q (gW cs ad g0 []) (pc + 7) lv (.ref (ad 0) :: st)) : VX p l e R s m args below meth c nL D A cells slots Q P pc lv st := by
  refine q_any ?_
  rintro ws H locs ls rfl hS hD0 hP0 hl
  obtain ⟨hc1, hc2⟩ := hcs
  obtain ⟨hx, hb, hml, hown, hts, hK, -⟩ := id C
  refine va_new (ci := 7) (fs := [.null, .null, .int 0, .null, .null, .null, .null]) (C := RX7) (T := TX7) (N := 7) hx hb hts wsX70_g tyX7 tyX7_ok hown (hts _ qC_RX7) (hts _ qI7) (hts _ qT7) hK hP0 hD0 hS hA rfl (fun j hj => by rcases (show j = 0 ∨ j = 1 ∨ j = 2 ∨ j = 3 ∨ j = 4 ∨ j = 5 ∨ j = 6 by omega) with rfl | rfl | rfl | rfl | rfl | rfl | rfl <;> rfl) (by omega) (by omega) d1 (fun q0 H hP hD hS => ?_)
  have hP : va_P D vwCl (wl 1 (fun _ => q0) (fun _ => .inr (7, [.null, .null, .int 0, .null, .null, .null, .null]))) H := hP
  have hD : va_D A (wl 1 (fun _ => q0) (fun _ => .inr (7, [.null, .null, .int 0, .null, .null, .null, .null]))) := hD
  refine lv_dup hx hb d2 rfl ?_
  have hFc : ∀ q, va_A (wl 1 (fun _ => q0) (fun _ => .inr (7, [.null, .null, .int 0, .null, .null, .null, .null]))) H.size q → A q := by
    rintro q (⟨k, z, hz⟩ | hz)
    · exact hD.2 k (q, z) hz
    · exact hA q (Nat.le_trans hS.1 hz)
  refine va_callv (va_runI (nL := nL) (maxL := 1) (As := []) (rest := .ref q0 :: st) ⟨hx, hb, hml, hown, hts⟩ (cc_X7_init (ad := fun _ => q0) (ce := fun _ => .inr (7, [.null, .null, .int 0, .null, .null, .null, .null])) rfl l D cs H.size) (cwI 0 hts qG_init rfl rfl rfl (hts _ qT7) (hts _ qL_init) (hts _ qI_init) rfl (by decide +kernel) hR) ⟨cnc_blind xb_XL, fun U hU hW2 => ⟨rfl, by rw [hU], by rw [hU]; exact hP, va_K.moved hW2.alike hK, hD.weaken (fun _ _ _ _ => trivial), xb_XL.1 _ _ hW2 hXL⟩⟩ rfl rfl hl.1 rfl (lv_room (by
    show 1 + (st.map fun v => v.category).sum ≤ 8
    omega)) d3 ⟨by omega, by omega⟩) hS (fun q _ h => hFc q h) hFc (fun u t H1 locs1 ht hvm hw1 hB hz1 hk1 hS => ?_)
  obtain ⟨ad1, ce1⟩ := u
  obtain ⟨e1, e2, e3, e4⟩ := hw1
  obtain ⟨hP1, -, hD1⟩ := hB
  rw [ht] at hP1
  have hD := hD1.weaken (fun _ q _ h => hFc q.1 h)
  have hP : va_P D vwCl (wl 255 ad1 ce1) H1 := hP1
  have hD : va_D A (wl 255 ad1 ce1) := hD
  have q0E : ad1 0 = q0 := e1 0 (by decide)
  have hg : sgm cs 255 ad1 ce1 0 ly_all M0 := by
    rw [ly_all_eq]
    exact e3
  have hW2 := wd_of_sgm hg hP
  have hInj : Inj ad1 := fun i j hi hj h => hD.1 i j _ _ (wl_at hi) (wl_at hj) h
  have hAd : ∀ q, AD ad1 q → A q := by
    rintro q ⟨i, hi, rfl⟩
    exact hD.2 i _ (wl_at hi)
  refine W.widen (k := cells + 255) (n := slots + 1762) (by omega) (by omega) ?_
  rw [← q0E]
  refine kk ad1 _ H1 locs1 ls ⟨M0, cg_0, rfl⟩ hS ?_ ?_ hl
  · rw [List.append_nil]
    exact (wd_D hInj).weaken (fun _ q _ h => hAd q.1 h)
  · rw [List.append_nil]
    exact hW2
/-- a contract of a method of the law that makes what it needs: it answers an int, nothing that was there changes -/
def CoI (y : MethodName) (ws : List Cond) (fr mc ms : Nat) (av : List Value) (r : Int32) : Prop :=
  ∀ (l : Launch) (D : va_G) (cs : Nat → ClassId), Met l y ws (rmC fr mc ms) (va_Pc av (fun U => va_K D vwCl (tys cs) U ∧ XL U)) (va_Qi (fun (r0 : Int32) (_ : Unit) => r0 = r) (fun _ _ => True) (fun _ => False)) mc ms (fun _ => False)
theorem q_cbO {y : MethodName} {ws ws' : List Cond} {bytes : ByteArray} {maxL fr mc ms n index : Nat} {ret : Option FieldType} (hts : ∀ w ∈ lw_g, w.before args s = true) (hG : GoodIn lw_g (va_wsS RL index y ws)) (hw : ws = Cond.code y bytes maxL ret :: ws') (hd : y.cls ≠ "java/lang/invoke/MethodHandle" ∧ y.cls ≠ "java/lang/invoke/VarHandle" ∧ (parseMethodDescriptor y.desc).map (fun d => d.parameters.length) = some n) (hR : fr + 1 ≤ R.frames ∧ 8 + (maxL + 11) + 36 * fr ≤ R.locals) :
    CallB R s args RL index y bytes maxL ret ws (rmC fr mc ms) mc ms n ∧ (Cond.static y).before args s = true := by
  have ok : ∀ w ∈ va_wsS RL index y ws, w.before args s = true := fun w h => hts w (hG w h).1
  exact ⟨callB_of n hts (fun w h => hG w (by unfold va_wsS; exact List.mem_append_right _ h)) hw rfl rfl (ok _ (by simp [va_wsS])) (ok _ (by simp [va_wsS])) hd hR, ok _ (by simp [va_wsS])⟩
theorem K_blind {D : va_G} {cs : Nat → ClassId} {av : List Value} : FrameBlind (va_Pc av (fun U => va_K D vwCl (tys cs) U ∧ XL U)) := fun a U g mk q => ⟨q.1, va_K.moved (u := U) (U := U.calling g mk a) (Vm.Alike.refl U.vm) q.2.1, xb_XL.2 U (U.calling g mk a) rfl q.2.2⟩
theorem q_callO (C : CQ p s m args meth c cc nL D cs) (hXL : XL s) {y : MethodName} {ws1 ws2 : List Cond} {bytes : ByteArray} {maxL fr mc ms n index : Nat} {ret : Option FieldType} {av rest : List Value} {r : Int32} (hM : CoI y ws1 fr mc ms av r) (hG : GoodIn lw_g (va_wsS RL index y ws1)) (hw : ws1 = Cond.code y bytes maxL ret :: ws2) (hd : y.cls ≠ "java/lang/invoke/MethodHandle" ∧ y.cls ≠ "java/lang/invoke/VarHandle" ∧ (parseMethodDescriptor y.desc).map (fun d => d.parameters.length) = some n) (hR : fr + 1 ≤ R.frames ∧ 8 + (maxL + 11) + 36 * fr ≤ R.locals)
    (hcs : cells + mc ≤ R.cells ∧ slots + ms ≤ R.slots) (hn : av.length = n) (hst : st = av.reverse ++ rest) (hW : (rest.map fun v => v.category).sum ≤ 8) (hdg : decode cc pc = .ok (.invokestatic index, 3)) (kk : VX p l e R s m args below meth c nL D A (cells + mc) (slots + ms) Q P (pc + 3) lv (.int r :: rest)) : VX p l e R s m args below meth c nL D A cells slots Q P pc lv st := by
  intro ws H locs ls hw0 hS hD hP hl
  subst hst
  obtain ⟨hx, hbb, hml, hown, hts, hK, -⟩ := C
  refine va_calli (va_runS (nL := nL) (As := av) (rest := rest) ⟨hx, hbb, hml, hown, hts⟩ (hM l D cs) (q_cbO hts hG hw hd hR) ⟨K_blind, fun U hU hW => ⟨rfl, va_K.moved hW.alike hK, xb_XL.1 _ _ hW hXL⟩⟩ rfl hn hl.1 rfl (lv_room hW) hdg hcs) hS (fun q _ h => absurd h id) (fun q h => absurd h id) (fun r0 u t H1 locs1 ht hvm hw1 hB hz1 hk1 hS1 => ?_)
  rw [hw1]
  exact kk ws H1 locs1 ls hw0 hS1 hD (hP.kept (fun k q hk => hk1 q.1 (hP k q hk).lt id)) hl
theorem q_iretO (C : CQ p s m args meth c cc nL D cs) {mc ms : Nat} {r : Int32} {ty : FieldType} (hr : meth.sig.returnType = some ty) (hv : narrow ty (.int r) = .int r) (hcs : cells ≤ mc ∧ slots ≤ ms) (hdg : decode cc pc = .ok (.ireturn, 1)) : VX p l e R s m args below meth c nL D (fun q => s.heap.size ≤ q) cells slots (MQ below (va_Qi (fun (r0 : Int32) (_ : Unit) => r0 = r) (fun _ _ => True) (fun _ => False)) args s mc ms (fun _ => False)) P pc lv [.int r] := by
  intro ws H locs ls hw0 hS hD hP hl
  have hlk := C.2.2.2.2.2.2
  refine va_forget (fun q hq => hS.2.2 q hq) ?_
  refine W.widen hcs.1 hcs.2 ?_
  exact W.zret C.1 C.2.1 hr hv (fun t ht hW => ⟨⟨_, (), rfl, rfl, trivial⟩, by rw [ht]; exact hS.1, fun q h1 _ => by rw [ht]; exact hS.2.1 q h1 (Nat.not_le.mpr h1)⟩) (fun _ h => by cases h) hdg hlk
end QN
theorem q_metO {y : MethodName} {ws1 : List Cond} {cc : ByteArray} {maxL fr mc ms : Nat} {ret : FieldType} {av : List Value} {r : Int32} (hcls : y.cls = RL) (hy : plainName y.cls = true) (hw : ws1 = Cond.code y cc maxL (some ret) :: lw_g) (hn : (lg_sl av).length ≤ maxL)
    (body : ∀ (p : Program) (l : Launch) (e : Env) (s : State) (m : MethodId) (args : Array Value) (below : List Frame) (meth : Method) (c : Code) (D : va_G) (cs : Nat → ClassId), CQ p s m args meth c cc maxL D cs → XL s → meth.sig.returnType = some ret → VX p l e (rmC fr mc ms) s m args below meth c maxL D (fun q => s.heap.size ≤ q) 0 0 (MQ below (va_Qi (fun (r0 : Int32) (_ : Unit) => r0 = r) (fun _ _ => True) (fun _ => False)) args s mc ms (fun _ => False)) (fun _ => True) 0 (lv_args 0 av) []) : CoI y ws1 fr mc ms av r := by
  intro l D cs
  refine Met.ofW (cc := cc) (maxL := maxL) (ret := some ret) hy hw ?_
  intro p e s m args below meth c s₁ B hml hv
  obtain ⟨rfl, hK, hXL⟩ := hv
  have hts := atoms_spec (ws := ws1) B.pre
  have hown : s.vm.findClass y.cls = some m.cls := findClass_of_methodNamed B.named
  rw [hcls] at hown
  have hlocks := B.notSynchronized
  rw [lg_entry_eq]
  exact body p l e s m _ below meth c D cs ⟨B.exec, B.bytes, hml, hown, fun w h => hts w (by rw [hw]; exact List.mem_cons_of_mem _ h), hK, hlocks⟩ hXL B.returns [] s.heap [] _ trivial va_S.rf ⟨fun i j p q h => by simp at h, fun k q h => by simp at h⟩ (fun k q h => by simp at h) (lv_entry _ hn)
