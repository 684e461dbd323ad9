/-! THE RULES: one instruction each, over the memory -/
def Wd (D : va_G) (cs : Nat → ClassId) (ad : Nat → Nat) (M : Mem) (U : State) : Prop := va_P D vwCl (wd cs ad M) U.heap ∧ va_K D vwCl (tys cs) U ∧ Inj ad
def Cx (p : Program) (s : State) (m : MethodId) (args : Array Value) (meth : Method) (c : Code) (own : String) (cc : ByteArray) (nL : Nat) (Ts : List Cond) (D : va_G) (cs : Nat → ClassId) (ad : Nat → Nat) : Prop :=
  p.tables.exec = Jvm.exec ∧ c.code = cc ∧ c.maxLocals = nL ∧ s.vm.findClass own = some m.cls ∧ (∀ w ∈ Ts, w.before args s = true) ∧ va_K D vwCl (tys cs) s ∧ Inj ad ∧ meth.locks = false
def V (p : Program) (l : Launch) (e : Env) (R : Room) (s : State) (m : MethodId) (args : Array Value) (below : List Frame) (meth : Method) (c : Code) (nL : Nat) (D : va_G) (cs : Nat → ClassId) (ad : Nat → Nat) (Q : State → Prop) (pc : Nat) (lv : List (Option Value)) (st : List Value) (M : Mem) : Prop :=
  ∀ (H : Heap) (locs : List Loc) (ls : Array Slot), va_S (AD ad) s.heap H locs → va_P D vwCl (wd cs ad M) H → lvp ls nL lv → W p l e R s m args below meth c H locs 0 0 Q (F0 m pc ls st)
def CnI (y : MethodName) (ws : List Cond) (fr : Nat) (av : (Nat → Nat) → List Value) (M : Mem) (r : Int32) (M' : Mem) : Prop :=
  ∀ (l : Launch) (D : va_G) (cs : Nat → ClassId) (ad : Nat → Nat), Met l y ws (rmk fr) (va_Pc (av ad) (fun U => Wd D cs ad M U)) (va_Qi (fun (r0 : Int32) (_ : Unit) => r0 = r) (fun _ t => Wd D cs ad M' t) (AD ad)) 0 0 (AD ad)
def CnV (y : MethodName) (ws : List Cond) (fr : Nat) (av : (Nat → Nat) → List Value) (M : Mem) (M' : Mem) : Prop :=
  ∀ (l : Launch) (D : va_G) (cs : Nat → ClassId) (ad : Nat → Nat), Met l y ws (rmk fr) (va_Pc (av ad) (fun U => Wd D cs ad M U)) (va_Qv (fun (_ : Unit) => True) (fun _ t => Wd D cs ad M' t) (AD ad)) 0 0 (AD ad)
def QI (below : List Frame) (s : State) (args : Array Value) (D : va_G) (cs : Nat → ClassId) (ad : Nat → Nat) (r : Int32) (M' : Mem) : State → Prop := MQ below (va_Qi (fun (r0 : Int32) (_ : Unit) => r0 = r) (fun _ t => Wd D cs ad M' t) (AD ad)) args s 0 0 (AD ad)
def QV (below : List Frame) (s : State) (args : Array Value) (D : va_G) (cs : Nat → ClassId) (ad : Nat → Nat) (M' : Mem) : State → Prop := MQ below (va_Qv (fun (_ : Unit) => True) (fun _ t => Wd D cs ad M' t) (AD ad)) args s 0 0 (AD ad)
theorem Wd_blind {D : va_G} {cs : Nat → ClassId} {ad : Nat → Nat} {M : Mem} {av : List Value} : FrameBlind (va_Pc av (fun U => Wd D cs ad M U)) := fun a U g mk q => ⟨q.1, q.2.1, va_K.moved (u := U) (U := U.calling g mk a) (Vm.Alike.refl U.vm) q.2.2.1, q.2.2.2⟩
section XR
variable {p : Program} {l : Launch} {e : Env} {R : Room} {s : State} {m : MethodId} {args : Array Value} {below : List Frame} {meth : Method} {c : Code} {nL : Nat} {D : va_G} {cs : Nat → ClassId} {ad : Nat → Nat} {Q : State → Prop} {pc : Nat} {lv lv' : List (Option Value)} {st : List Value} {M M' : Mem} {own : String} {cc : ByteArray} {Ts : List Cond}
theorem x_iconst (C : Cx p s m args meth c own cc nL Ts D cs ad) {n : Int} {v : Int32} (hdg : decode cc pc = .ok (.iconst n, 1)) (hv : Int32.ofInt n = v) (k : V p l e R s m args below meth c nL D cs ad Q (pc + 1) lv (.int v :: st) M) : V p l e R s m args below meth c nL D cs ad Q pc lv st M :=
  fun H locs ls hS hP hl => lv_iconst C.1 C.2.1 hdg hv (k H locs ls hS hP hl)
theorem x_bipush (C : Cx p s m args meth c own cc nL Ts D cs ad) {n : Int} {v : Int32} (hdg : decode cc pc = .ok (.bipush n, 2)) (hv : (Int8.ofInt n).toInt32 = v) (k : V p l e R s m args below meth c nL D cs ad Q (pc + 2) lv (.int v :: st) M) : V p l e R s m args below meth c nL D cs ad Q pc lv st M :=
  fun H locs ls hS hP hl => lv_bipush C.1 C.2.1 hdg hv (k H locs ls hS hP hl)
theorem x_sipush (C : Cx p s m args meth c own cc nL Ts D cs ad) {n : Int} {v : Int32} (hdg : decode cc pc = .ok (.sipush n, 3)) (hv : (Int16.ofInt n).toInt32 = v) (k : V p l e R s m args below meth c nL D cs ad Q (pc + 3) lv (.int v :: st) M) : V p l e R s m args below meth c nL D cs ad Q pc lv st M :=
  fun H locs ls hS hP hl => lv_sipush C.1 C.2.1 hdg hv (k H locs ls hS hP hl)
theorem x_iload_n (C : Cx p s m args meth c own cc nL Ts D cs ad) {k : Fin 4} {i : Nat} {x : Int32} (hdg : decode cc pc = .ok (.iload_n k, 1)) (hi : (k : Nat) = i) (hx : lv[i]? = some (some (.int x))) (kk : V p l e R s m args below meth c nL D cs ad Q (pc + 1) lv (.int x :: st) M) : V p l e R s m args below meth c nL D cs ad Q pc lv st M :=
  fun H locs ls hS hP hl => lv_iload_n C.1 C.2.1 hdg hi (hl.2.2 _ _ hx).1 (kk H locs ls hS hP hl)
theorem x_iload (C : Cx p s m args meth c own cc nL Ts D cs ad) {i : Nat} {x : Int32} (hdg : decode cc pc = .ok (.iload i, 2)) (hx : lv[i]? = some (some (.int x))) (kk : V p l e R s m args below meth c nL D cs ad Q (pc + 2) lv (.int x :: st) M) : V p l e R s m args below meth c nL D cs ad Q pc lv st M :=
  fun H locs ls hS hP hl => lv_iload C.1 C.2.1 hdg (hl.2.2 _ _ hx).1 (kk H locs ls hS hP hl)
theorem x_aload_n (C : Cx p s m args meth c own cc nL Ts D cs ad) {k : Fin 4} {i x : Nat} (hdg : decode cc pc = .ok (.aload_n k, 1)) (hi : (k : Nat) = i) (hx : lv[i]? = some (some (.ref x))) (kk : V p l e R s m args below meth c nL D cs ad Q (pc + 1) lv (.ref x :: st) M) : V p l e R s m args below meth c nL D cs ad Q pc lv st M :=
  fun H locs ls hS hP hl => lv_aload_n C.1 C.2.1 hdg hi (hl.2.2 _ _ hx).1 (kk H locs ls hS hP hl)
theorem x_aload (C : Cx p s m args meth c own cc nL Ts D cs ad) {i x : Nat} (hdg : decode cc pc = .ok (.aload i, 2)) (hx : lv[i]? = some (some (.ref x))) (kk : V p l e R s m args below meth c nL D cs ad Q (pc + 2) lv (.ref x :: st) M) : V p l e R s m args below meth c nL D cs ad Q pc lv st M :=
  fun H locs ls hS hP hl => lv_aload C.1 C.2.1 hdg (hl.2.2 _ _ hx).1 (kk H locs ls hS hP hl)
theorem x_istore_n (C : Cx p s m args meth c own cc nL Ts D cs ad) {k : Fin 4} {i : Nat} {x : Int32} (hdg : decode cc pc = .ok (.istore_n k, 1)) (hi : (k : Nat) = i) (hn : i < nL) (hl : lv.set i (some (.int x)) = lv') (kk : V p l e R s m args below meth c nL D cs ad Q (pc + 1) lv' st M) : V p l e R s m args below meth c nL D cs ad Q pc lv (.int x :: st) M :=
  fun H locs ls hS hP h => lv_istore_n C.1 C.2.1 hdg hi (lvp_has h) hn rfl (fun ls' h' => kk H locs ls' hS hP (lvp_set h rfl hl h'))
theorem x_istore (C : Cx p s m args meth c own cc nL Ts D cs ad) {i : Nat} {x : Int32} (hdg : decode cc pc = .ok (.istore i, 2)) (hn : i < nL) (hl : lv.set i (some (.int x)) = lv') (kk : V p l e R s m args below meth c nL D cs ad Q (pc + 2) lv' st M) : V p l e R s m args below meth c nL D cs ad Q pc lv (.int x :: st) M :=
  fun H locs ls hS hP h => lv_istore C.1 C.2.1 hdg (lvp_has h) hn rfl (fun ls' h' => kk H locs ls' hS hP (lvp_set h rfl hl h'))
theorem x_astore_n (C : Cx p s m args meth c own cc nL Ts D cs ad) {k : Fin 4} {i x : Nat} (hdg : decode cc pc = .ok (.astore_n k, 1)) (hi : (k : Nat) = i) (hn : i < nL) (hl : lv.set i (some (.ref x)) = lv') (kk : V p l e R s m args below meth c nL D cs ad Q (pc + 1) lv' st M) : V p l e R s m args below meth c nL D cs ad Q pc lv (.ref x :: st) M :=
  fun H locs ls hS hP h => lv_astore_n C.1 C.2.1 hdg hi (lvp_has h) hn rfl (fun ls' h' => kk H locs ls' hS hP (lvp_set h rfl hl h'))
theorem x_astore (C : Cx p s m args meth c own cc nL Ts D cs ad) {i x : Nat} (hdg : decode cc pc = .ok (.astore i, 2)) (hn : i < nL) (hl : lv.set i (some (.ref x)) = lv') (kk : V p l e R s m args below meth c nL D cs ad Q (pc + 2) lv' st M) : V p l e R s m args below meth c nL D cs ad Q pc lv (.ref x :: st) M :=
  fun H locs ls hS hP h => lv_astore C.1 C.2.1 hdg (lvp_has h) hn rfl (fun ls' h' => kk H locs ls' hS hP (lvp_set h rfl hl h'))
theorem x_iinc (C : Cx p s m args meth c own cc nL Ts D cs ad) {i : Nat} {n : Int} {x v d : Int32} (hdg : decode cc pc = .ok (.iinc i n, 3)) (hx : lv[i]? = some (some (.int x))) (hd : Int32.ofInt n = d) (hv : x + d = v) (hn : i < nL) (hl : lv.set i (some (.int v)) = lv') (kk : V p l e R s m args below meth c nL D cs ad Q (pc + 3) lv' st M) : V p l e R s m args below meth c nL D cs ad Q pc lv st M := by
  intro H locs ls hS hP h
  obtain ⟨k, hk⟩ := List.getElem?_of_mem (prs_mem.mpr hx)
  exact lv_iinc C.1 C.2.1 hdg (lvp_has h) hk (by rw [hd]; exact hv) hn rfl (fun ls' h' => kk H locs ls' hS hP (lvp_set h rfl hl h'))
theorem x_iadd (C : Cx p s m args meth c own cc nL Ts D cs ad) {x y : Int32} (hdg : decode cc pc = .ok (.iadd, 1)) (k : V p l e R s m args below meth c nL D cs ad Q (pc + 1) lv (.int (x + y) :: st) M) : V p l e R s m args below meth c nL D cs ad Q pc lv (.int y :: .int x :: st) M :=
  fun H locs ls hS hP hl => lv_iadd C.1 C.2.1 hdg (k H locs ls hS hP hl)
theorem x_isub (C : Cx p s m args meth c own cc nL Ts D cs ad) {x y : Int32} (hdg : decode cc pc = .ok (.isub, 1)) (k : V p l e R s m args below meth c nL D cs ad Q (pc + 1) lv (.int (x - y) :: st) M) : V p l e R s m args below meth c nL D cs ad Q pc lv (.int y :: .int x :: st) M :=
  fun H locs ls hS hP hl => lv_isub C.1 C.2.1 hdg (k H locs ls hS hP hl)
theorem x_imul (C : Cx p s m args meth c own cc nL Ts D cs ad) {x y : Int32} (hdg : decode cc pc = .ok (.imul, 1)) (k : V p l e R s m args below meth c nL D cs ad Q (pc + 1) lv (.int (x * y) :: st) M) : V p l e R s m args below meth c nL D cs ad Q pc lv (.int y :: .int x :: st) M :=
  fun H locs ls hS hP hl => lv_imul C.1 C.2.1 hdg (k H locs ls hS hP hl)
theorem x_iand (C : Cx p s m args meth c own cc nL Ts D cs ad) {x y : Int32} (hdg : decode cc pc = .ok (.iand, 1)) (k : V p l e R s m args below meth c nL D cs ad Q (pc + 1) lv (.int (x &&& y) :: st) M) : V p l e R s m args below meth c nL D cs ad Q pc lv (.int y :: .int x :: st) M :=
  fun H locs ls hS hP hl => lv_iand C.1 C.2.1 hdg (k H locs ls hS hP hl)
theorem x_ior (C : Cx p s m args meth c own cc nL Ts D cs ad) {x y : Int32} (hdg : decode cc pc = .ok (.ior, 1)) (k : V p l e R s m args below meth c nL D cs ad Q (pc + 1) lv (.int (x ||| y) :: st) M) : V p l e R s m args below meth c nL D cs ad Q pc lv (.int y :: .int x :: st) M :=
  fun H locs ls hS hP hl => lv_ior C.1 C.2.1 hdg (k H locs ls hS hP hl)
theorem x_ixor (C : Cx p s m args meth c own cc nL Ts D cs ad) {x y : Int32} (hdg : decode cc pc = .ok (.ixor, 1)) (k : V p l e R s m args below meth c nL D cs ad Q (pc + 1) lv (.int (x ^^^ y) :: st) M) : V p l e R s m args below meth c nL D cs ad Q pc lv (.int y :: .int x :: st) M :=
  fun H locs ls hS hP hl => lv_ixor C.1 C.2.1 hdg (k H locs ls hS hP hl)
theorem x_ishl (C : Cx p s m args meth c own cc nL Ts D cs ad) {x y : Int32} (hdg : decode cc pc = .ok (.ishl, 1)) (k : V p l e R s m args below meth c nL D cs ad Q (pc + 1) lv (.int (x <<< (y &&& 31)) :: st) M) : V p l e R s m args below meth c nL D cs ad Q pc lv (.int y :: .int x :: st) M :=
  fun H locs ls hS hP hl => lv_ishl C.1 C.2.1 hdg (k H locs ls hS hP hl)
theorem x_ishr (C : Cx p s m args meth c own cc nL Ts D cs ad) {x y : Int32} (hdg : decode cc pc = .ok (.ishr, 1)) (k : V p l e R s m args below meth c nL D cs ad Q (pc + 1) lv (.int (x >>> (y &&& 31)) :: st) M) : V p l e R s m args below meth c nL D cs ad Q pc lv (.int y :: .int x :: st) M :=
  fun H locs ls hS hP hl => lv_ishr C.1 C.2.1 hdg (k H locs ls hS hP hl)
theorem x_idiv (C : Cx p s m args meth c own cc nL Ts D cs ad) {x y : Int32} (hdg : decode cc pc = .ok (.idiv, 1)) (hne : ¬ y = 0) (k : V p l e R s m args below meth c nL D cs ad Q (pc + 1) lv (.int (x / y) :: st) M) : V p l e R s m args below meth c nL D cs ad Q pc lv (.int y :: .int x :: st) M :=
  fun H locs ls hS hP hl => lv_idiv C.1 C.2.1 hdg hne (k H locs ls hS hP hl)
theorem x_irem (C : Cx p s m args meth c own cc nL Ts D cs ad) {x y : Int32} (hdg : decode cc pc = .ok (.irem, 1)) (hne : ¬ y = 0) (k : V p l e R s m args below meth c nL D cs ad Q (pc + 1) lv (.int (x - x / y * y) :: st) M) : V p l e R s m args below meth c nL D cs ad Q pc lv (.int y :: .int x :: st) M :=
  fun H locs ls hS hP hl => lv_irem C.1 C.2.1 hdg hne (k H locs ls hS hP hl)
theorem x_dup (C : Cx p s m args meth c own cc nL Ts D cs ad) {v : Value} (hdg : decode cc pc = .ok (.dup, 1)) (hv : v.category = 1) (k : V p l e R s m args below meth c nL D cs ad Q (pc + 1) lv (v :: v :: st) M) : V p l e R s m args below meth c nL D cs ad Q pc lv (v :: st) M :=
  fun H locs ls hS hP hl => lv_dup C.1 C.2.1 hdg hv (k H locs ls hS hP hl)
theorem x_dup2 (C : Cx p s m args meth c own cc nL Ts D cs ad) {v w : Value} (hdg : decode cc pc = .ok (.dup2, 1)) (hv : v.category = 1) (hw : w.category = 1) (k : V p l e R s m args below meth c nL D cs ad Q (pc + 1) lv (v :: w :: v :: w :: st) M) : V p l e R s m args below meth c nL D cs ad Q pc lv (v :: w :: st) M :=
  fun H locs ls hS hP hl => lv_dup2_11 C.1 C.2.1 hdg hv hw (k H locs ls hS hP hl)
theorem x_goto (C : Cx p s m args meth c own cc nL Ts D cs ad) {off : Int} {tgt : Nat} (hdg : decode cc pc = .ok (.goto off, 3)) (ht : (pc : Int) + off = (tgt : Int)) (k : V p l e R s m args below meth c nL D cs ad Q tgt lv st M) : V p l e R s m args below meth c nL D cs ad Q pc lv st M :=
  fun H locs ls hS hP hl => lv_goto C.1 C.2.1 hdg ht (k H locs ls hS hP hl)
theorem x_icmp_eq (C : Cx p s m args meth c own cc nL Ts D cs ad) {x y : Int32} {off : Int} {tgt : Nat} (hdg : decode cc pc = .ok (.if_icmp .eq off, 3)) (ht : (pc : Int) + off = (tgt : Int)) (kt : x = y → V p l e R s m args below meth c nL D cs ad Q tgt lv st M) (kf : ¬ x = y → V p l e R s m args below meth c nL D cs ad Q (pc + 3) lv st M) : V p l e R s m args below meth c nL D cs ad Q pc lv (.int y :: .int x :: st) M :=
  fun H locs ls hS hP hl => lv_icmp_eq C.1 C.2.1 hdg ht (fun q => kt q H locs ls hS hP hl) (fun q => kf q H locs ls hS hP hl)
theorem x_if_eq (C : Cx p s m args meth c own cc nL Ts D cs ad) {x : Int32} {off : Int} {tgt : Nat} (hdg : decode cc pc = .ok (.ifCond .eq off, 3)) (ht : (pc : Int) + off = (tgt : Int)) (kt : x = 0 → V p l e R s m args below meth c nL D cs ad Q tgt lv st M) (kf : ¬ x = 0 → V p l e R s m args below meth c nL D cs ad Q (pc + 3) lv st M) : V p l e R s m args below meth c nL D cs ad Q pc lv (.int x :: st) M :=
  fun H locs ls hS hP hl => lv_if_eq C.1 C.2.1 hdg ht (fun q => kt q H locs ls hS hP hl) (fun q => kf q H locs ls hS hP hl)
theorem x_icmp_ne (C : Cx p s m args meth c own cc nL Ts D cs ad) {x y : Int32} {off : Int} {tgt : Nat} (hdg : decode cc pc = .ok (.if_icmp .ne off, 3)) (ht : (pc : Int) + off = (tgt : Int)) (kt : x = y → V p l e R s m args below meth c nL D cs ad Q (pc + 3) lv st M) (kf : ¬ x = y → V p l e R s m args below meth c nL D cs ad Q tgt lv st M) : V p l e R s m args below meth c nL D cs ad Q pc lv (.int y :: .int x :: st) M :=
  fun H locs ls hS hP hl => lv_icmp_ne C.1 C.2.1 hdg ht (fun q => kf q H locs ls hS hP hl) (fun q => kt q H locs ls hS hP hl)
theorem x_if_ne (C : Cx p s m args meth c own cc nL Ts D cs ad) {x : Int32} {off : Int} {tgt : Nat} (hdg : decode cc pc = .ok (.ifCond .ne off, 3)) (ht : (pc : Int) + off = (tgt : Int)) (kt : x = 0 → V p l e R s m args below meth c nL D cs ad Q (pc + 3) lv st M) (kf : ¬ x = 0 → V p l e R s m args below meth c nL D cs ad Q tgt lv st M) : V p l e R s m args below meth c nL D cs ad Q pc lv (.int x :: st) M :=
  fun H locs ls hS hP hl => lv_if_ne C.1 C.2.1 hdg ht (fun q => kf q H locs ls hS hP hl) (fun q => kt q H locs ls hS hP hl)
theorem x_icmp_lt (C : Cx p s m args meth c own cc nL Ts D cs ad) {x y : Int32} {off : Int} {tgt : Nat} (hdg : decode cc pc = .ok (.if_icmp .lt off, 3)) (ht : (pc : Int) + off = (tgt : Int)) (kt : x < y → V p l e R s m args below meth c nL D cs ad Q tgt lv st M) (kf : ¬ x < y → V p l e R s m args below meth c nL D cs ad Q (pc + 3) lv st M) : V p l e R s m args below meth c nL D cs ad Q pc lv (.int y :: .int x :: st) M :=
  fun H locs ls hS hP hl => lv_icmp_lt C.1 C.2.1 hdg ht (fun q => kt q H locs ls hS hP hl) (fun q => kf q H locs ls hS hP hl)
theorem x_if_lt (C : Cx p s m args meth c own cc nL Ts D cs ad) {x : Int32} {off : Int} {tgt : Nat} (hdg : decode cc pc = .ok (.ifCond .lt off, 3)) (ht : (pc : Int) + off = (tgt : Int)) (kt : x < 0 → V p l e R s m args below meth c nL D cs ad Q tgt lv st M) (kf : ¬ x < 0 → V p l e R s m args below meth c nL D cs ad Q (pc + 3) lv st M) : V p l e R s m args below meth c nL D cs ad Q pc lv (.int x :: st) M :=
  fun H locs ls hS hP hl => lv_if_lt C.1 C.2.1 hdg ht (fun q => kt q H locs ls hS hP hl) (fun q => kf q H locs ls hS hP hl)
theorem x_icmp_ge (C : Cx p s m args meth c own cc nL Ts D cs ad) {x y : Int32} {off : Int} {tgt : Nat} (hdg : decode cc pc = .ok (.if_icmp .ge off, 3)) (ht : (pc : Int) + off = (tgt : Int)) (kt : y ≤ x → V p l e R s m args below meth c nL D cs ad Q tgt lv st M) (kf : ¬ y ≤ x → V p l e R s m args below meth c nL D cs ad Q (pc + 3) lv st M) : V p l e R s m args below meth c nL D cs ad Q pc lv (.int y :: .int x :: st) M :=
  fun H locs ls hS hP hl => lv_icmp_ge C.1 C.2.1 hdg ht (fun q => kt q H locs ls hS hP hl) (fun q => kf q H locs ls hS hP hl)
theorem x_if_ge (C : Cx p s m args meth c own cc nL Ts D cs ad) {x : Int32} {off : Int} {tgt : Nat} (hdg : decode cc pc = .ok (.ifCond .ge off, 3)) (ht : (pc : Int) + off = (tgt : Int)) (kt : 0 ≤ x → V p l e R s m args below meth c nL D cs ad Q tgt lv st M) (kf : ¬ 0 ≤ x → V p l e R s m args below meth c nL D cs ad Q (pc + 3) lv st M) : V p l e R s m args below meth c nL D cs ad Q pc lv (.int x :: st) M :=
  fun H locs ls hS hP hl => lv_if_ge C.1 C.2.1 hdg ht (fun q => kt q H locs ls hS hP hl) (fun q => kf q H locs ls hS hP hl)
theorem x_icmp_gt (C : Cx p s m args meth c own cc nL Ts D cs ad) {x y : Int32} {off : Int} {tgt : Nat} (hdg : decode cc pc = .ok (.if_icmp .gt off, 3)) (ht : (pc : Int) + off = (tgt : Int)) (kt : y < x → V p l e R s m args below meth c nL D cs ad Q tgt lv st M) (kf : ¬ y < x → V p l e R s m args below meth c nL D cs ad Q (pc + 3) lv st M) : V p l e R s m args below meth c nL D cs ad Q pc lv (.int y :: .int x :: st) M :=
  fun H locs ls hS hP hl => lv_icmp_gt C.1 C.2.1 hdg ht (fun q => kt q H locs ls hS hP hl) (fun q => kf q H locs ls hS hP hl)
theorem x_if_gt (C : Cx p s m args meth c own cc nL Ts D cs ad) {x : Int32} {off : Int} {tgt : Nat} (hdg : decode cc pc = .ok (.ifCond .gt off, 3)) (ht : (pc : Int) + off = (tgt : Int)) (kt : 0 < x → V p l e R s m args below meth c nL D cs ad Q tgt lv st M) (kf : ¬ 0 < x → V p l e R s m args below meth c nL D cs ad Q (pc + 3) lv st M) : V p l e R s m args below meth c nL D cs ad Q pc lv (.int x :: st) M :=
  fun H locs ls hS hP hl => lv_if_gt C.1 C.2.1 hdg ht (fun q => kt q H locs ls hS hP hl) (fun q => kf q H locs ls hS hP hl)
theorem x_icmp_le (C : Cx p s m args meth c own cc nL Ts D cs ad) {x y : Int32} {off : Int} {tgt : Nat} (hdg : decode cc pc = .ok (.if_icmp .le off, 3)) (ht : (pc : Int) + off = (tgt : Int)) (kt : x ≤ y → V p l e R s m args below meth c nL D cs ad Q tgt lv st M) (kf : ¬ x ≤ y → V p l e R s m args below meth c nL D cs ad Q (pc + 3) lv st M) : V p l e R s m args below meth c nL D cs ad Q pc lv (.int y :: .int x :: st) M :=
  fun H locs ls hS hP hl => lv_icmp_le C.1 C.2.1 hdg ht (fun q => kt q H locs ls hS hP hl) (fun q => kf q H locs ls hS hP hl)
theorem x_if_le (C : Cx p s m args meth c own cc nL Ts D cs ad) {x : Int32} {off : Int} {tgt : Nat} (hdg : decode cc pc = .ok (.ifCond .le off, 3)) (ht : (pc : Int) + off = (tgt : Int)) (kt : x ≤ 0 → V p l e R s m args below meth c nL D cs ad Q tgt lv st M) (kf : ¬ x ≤ 0 → V p l e R s m args below meth c nL D cs ad Q (pc + 3) lv st M) : V p l e R s m args below meth c nL D cs ad Q pc lv (.int x :: st) M :=
  fun H locs ls hS hP hl => lv_if_le C.1 C.2.1 hdg ht (fun q => kt q H locs ls hS hP hl) (fun q => kf q H locs ls hS hP hl)
theorem x_tabIn (C : Cx p s m args meth c own cc nL Ts D cs ad) {dflt lo hi : Int} {offs : Array Int} {len : Nat} {x : Int32} {off : Int} {tgt : Nat} (hdg : decode cc pc = .ok (.tableswitch dflt lo hi offs, len)) (v : Int32) (hx : x = v) (h1 : ¬ v.toInt < lo) (h2 : ¬ hi < v.toInt) (ho : offs[(v.toInt - lo).toNat]? = some off) (ht : (pc : Int) + off = (tgt : Int)) (k : V p l e R s m args below meth c nL D cs ad Q tgt lv st M) : V p l e R s m args below meth c nL D cs ad Q pc lv (.int x :: st) M := by
  subst hx
  exact fun H locs ls hS hP hl => lv_tableIn C.1 C.2.1 hdg h1 h2 ho ht (k H locs ls hS hP hl)
theorem x_tabOut (C : Cx p s m args meth c own cc nL Ts D cs ad) {dflt lo hi : Int} {offs : Array Int} {len : Nat} {x : Int32} {tgt : Nat} (hdg : decode cc pc = .ok (.tableswitch dflt lo hi offs, len)) (h : x.toInt < lo ∨ hi < x.toInt) (ht : (pc : Int) + dflt = (tgt : Int)) (k : V p l e R s m args below meth c nL D cs ad Q tgt lv st M) : V p l e R s m args below meth c nL D cs ad Q pc lv (.int x :: st) M :=
  fun H locs ls hS hP hl => lv_tableOut C.1 C.2.1 hdg h ht (k H locs ls hS hP hl)
theorem x_lookup (C : Cx p s m args meth c own cc nL Ts D cs ad) {dflt : Int} {ps : Array (Int × Int)} {len : Nat} {x : Int32} {off : Int} {tgt : Nat} (hdg : decode cc pc = .ok (.lookupswitch dflt ps, len)) (hp : (ps.toList.zip (ps.toList.drop 1)).all (fun (a, next) => a.1 < next.1) = true) (ho : Op.lookupswitch.offset ps.toList dflt x.toInt = off) (ht : (pc : Int) + off = (tgt : Int)) (k : V p l e R s m args below meth c nL D cs ad Q tgt lv st M) : V p l e R s m args below meth c nL D cs ad Q pc lv (.int x :: st) M :=
  fun H locs ls hS hP hl => lv_lookup C.1 C.2.1 hdg hp ho ht (k H locs ls hS hP hl)
/-- a field that is an int -/
theorem x_geti (C : Cx p s m args meth c own cc nL Ts D cs ad) {ref Cn : String} {T : u_T} {N i t index : Nat} (hi : tg i = t) (h9 : t < 9) (hc : vwCl[t]? = some (Cn, T, N)) (hin : ∀ w ∈ u_ws Cn T N, w ∈ Ts) (k : Nat) (hk : k < N) (hf : (fld t)[k]? = some none) (hlink : Cond.fieldLink own index ref (T k).2.1 (T k).2.2.1 ∈ Ts) (href : (T k).1 = ref) (hdg : decode cc pc = .ok (.getfield index, 3))
    (kk : V p l e R s m args below meth c nL D cs ad Q (pc + 3) lv (.int (M i k) :: st) M) : V p l e R s m args below meth c nL D cs ad Q pc lv (.ref (ad i) :: st) M := by
  subst href
  exact fun H locs ls hS hP hl => va_get C.1 C.2.1 C.2.2.2.2.1 hin C.2.2.2.1 C.2.2.2.2.2.1 hP i (wd_obj hi h9) hc k hk (C.2.2.2.2.1 _ hlink) (fun _ h => h) (fls_at hf) hdg (kk H locs ls hS hP hl)
/-- a field that is a reference -/
theorem x_getr (C : Cx p s m args meth c own cc nL Ts D cs ad) {ref Cn : String} {T : u_T} {N i t index d : Nat} (hi : tg i = t) (h9 : t < 9) (hc : vwCl[t]? = some (Cn, T, N)) (hin : ∀ w ∈ u_ws Cn T N, w ∈ Ts) (k : Nat) (hk : k < N) (hf : (fld t)[k]? = some (some d)) (hlink : Cond.fieldLink own index ref (T k).2.1 (T k).2.2.1 ∈ Ts) (href : (T k).1 = ref) (hdg : decode cc pc = .ok (.getfield index, 3)) (i' : Nat) (hi' : i + d = i')
    (kk : V p l e R s m args below meth c nL D cs ad Q (pc + 3) lv (.ref (ad i') :: st) M) : V p l e R s m args below meth c nL D cs ad Q pc lv (.ref (ad i) :: st) M := by
  subst href
  subst hi'
  exact fun H locs ls hS hP hl => va_get C.1 C.2.1 C.2.2.2.2.1 hin C.2.2.2.1 C.2.2.2.2.2.1 hP i (wd_obj hi h9) hc k hk (C.2.2.2.2.1 _ hlink) (fun _ h => h) (fls_at hf) hdg (kk H locs ls hS hP hl)
theorem x_puti (C : Cx p s m args meth c own cc nL Ts D cs ad) {ref Cn : String} {T : u_T} {N i t index : Nat} {v : Int32} (hi : tg i = t) (h9 : t < 9) (hc : vwCl[t]? = some (Cn, T, N)) (hin : ∀ w ∈ u_ws Cn T N, w ∈ Ts) (ty0 : Nat → FieldType) (hty : ∀ k, k < N → parseFieldDescriptor (T k).2.2.1 = some (ty0 k)) (hnm : ∀ a, a < N → ∀ b, b < N → a ≠ b → (T a).2.1 ≠ (T b).2.1) (k : Nat) (hk : k < N) (hf : (fld t)[k]? = some none) (hlink : Cond.fieldLink own index ref (T k).2.1 (T k).2.2.1 ∈ Ts) (href : (T k).1 = ref) (hfin : (T k).2.2.2 = false) {ty : FieldType} (hd : parseFieldDescriptor (T k).2.2.1 = some ty) (hn : narrow ty (.int v) = .int v) (hfit : fits ty (.int v) = true) (hdg : decode cc pc = .ok (.putfield index, 3))
    (kk : V p l e R s m args below meth c nL D cs ad Q (pc + 3) lv st (up M i k v)) : V p l e R s m args below meth c nL D cs ad Q pc lv (.int v :: .ref (ad i) :: st) M := by
  subst href
  intro H locs ls hS hP hl
  have hlen : k < (fls ad i (M i) t).length := by rw [fls_len]; exact (List.getElem?_eq_some_iff.mp hf).1
  have hset : (wd cs ad M).set i (ad i, .inr (t, (fls ad i (M i) t).set k (.int v))) = wd cs ad (up M i k v) := by
    refine wd_set (tg_lt hi (by omega)) ?_ (fun j hj => up_ne hj)
    rw [cel, if_pos (by omega), hi, fls_set hf up_eq]
  refine va_put C.1 C.2.1 C.2.2.2.2.1 hin ty0 hty hnm C.2.2.2.1 C.2.2.2.2.2.1 hP (wd_D C.2.2.2.2.2.2.1) hS i (wd_obj hi h9) hc k hk (C.2.2.2.2.1 _ hlink) (fun _ h => h) hfin hd hn hfit hlen hdg (fun H1 locs1 hP1 _ hS1 => ?_)
  rw [hset] at hP1
  exact kk H1 locs1 ls hS1 hP1 hl
theorem x_iald (C : Cx p s m args meth c own cc nL Ts D cs ad) {i n j : Nat} {x : Int32} (hi : tg i = 10) (hn : ln i = n) (hin : inb x n = true) (hj : x.toNatClampNeg = j) (hdg : decode cc pc = .ok (.iaload, 1))
    (kk : V p l e R s m args below meth c nL D cs ad Q (pc + 1) lv (.int (M i j) :: st) M) : V p l e R s m args below meth c nL D cs ad Q pc lv (.int x :: .ref (ad i) :: st) M := by
  subst hn
  subst hj
  exact fun H locs ls hS hP hl => va_iald C.1 C.2.1 C.2.2.2.2.2.1 hP i 0 (wd_arr (t := 0) hi (by decide)) rfl (inb_in hin) hdg (kk H locs ls hS hP hl)
theorem x_cald (C : Cx p s m args meth c own cc nL Ts D cs ad) {i n j : Nat} {x : Int32} (hi : tg i = 11) (hn : ln i = n) (hin : inb x n = true) (hj : x.toNatClampNeg = j) (hdg : decode cc pc = .ok (.caload, 1))
    (kk : V p l e R s m args below meth c nL D cs ad Q (pc + 1) lv (.int (M i j) :: st) M) : V p l e R s m args below meth c nL D cs ad Q pc lv (.int x :: .ref (ad i) :: st) M := by
  subst hn
  subst hj
  exact fun H locs ls hS hP hl => va_cald C.1 C.2.1 C.2.2.2.2.2.1 hP i 1 (wd_arr (t := 1) hi (by decide)) rfl (inb_in hin) hdg (kk H locs ls hS hP hl)
theorem wd_arr_set {i t j : Nat} {v : Int32} (h : tg i = 10 + t) (ht : t < 3) : (wd cs ad M).set i (ad i, .inl (cs t, ln i, .inl (upd (M i) j v))) = wd cs ad (up M i j v) := by
  refine wd_set (tg_lt h (by omega)) ?_ (fun j hj => up_ne hj)
  rw [cel, if_neg (by omega), if_pos (by omega), h, Nat.add_sub_cancel_left, up_eq]
  rfl
theorem x_iast (C : Cx p s m args meth c own cc nL Ts D cs ad) {i n j : Nat} {x v : Int32} (hi : tg i = 10) (hn : ln i = n) (hin : inb x n = true) (hj : x.toNatClampNeg = j) (hdg : decode cc pc = .ok (.iastore, 1))
    (kk : V p l e R s m args below meth c nL D cs ad Q (pc + 1) lv st (up M i j v)) : V p l e R s m args below meth c nL D cs ad Q pc lv (.int v :: .int x :: .ref (ad i) :: st) M := by
  subst hn
  subst hj
  refine fun H locs ls hS hP hl => va_iast C.1 C.2.1 C.2.2.2.2.2.1 hP (wd_D C.2.2.2.2.2.2.1) hS i 0 (wd_arr (t := 0) hi (by decide)) rfl (inb_in hin) hdg (fun H1 locs1 hP1 _ hS1 => ?_)
  rw [wd_arr_set (t := 0) hi (by decide)] at hP1
  exact kk H1 locs1 ls hS1 hP1 hl
theorem x_cast (C : Cx p s m args meth c own cc nL Ts D cs ad) {i n j : Nat} {x v : Int32} (hi : tg i = 11) (hn : ln i = n) (hin : inb x n = true) (hj : x.toNatClampNeg = j) (hdg : decode cc pc = .ok (.castore, 1))
    (kk : V p l e R s m args below meth c nL D cs ad Q (pc + 1) lv st (up M i j (vp_nar .char v))) : V p l e R s m args below meth c nL D cs ad Q pc lv (.int v :: .int x :: .ref (ad i) :: st) M := by
  subst hn
  subst hj
  refine fun H locs ls hS hP hl => va_cast C.1 C.2.1 C.2.2.2.2.2.1 hP (wd_D C.2.2.2.2.2.2.1) hS i 1 (wd_arr (t := 1) hi (by decide)) rfl (inb_in hin) hdg (fun H1 locs1 hP1 _ hS1 => ?_)
  rw [wd_arr_set (t := 1) hi (by decide)] at hP1
  exact kk H1 locs1 ls hS1 hP1 hl
/-- an array of references -/
theorem x_aaldF (C : Cx p s m args meth c own cc nL Ts D cs ad) {i n j : Nat} {x : Int32} (hi : tg i = 13) (hn : ln i = n) (hin : inb x n = true) (hj : x.toNatClampNeg = j) (hdg : decode cc pc = .ok (.aaload, 1)) (i' : Nat) (hi' : i + 3 + j = i')
    (kk : V p l e R s m args below meth c nL D cs ad Q (pc + 1) lv (.ref (ad i') :: st) M) : V p l e R s m args below meth c nL D cs ad Q pc lv (.int x :: .ref (ad i) :: st) M := by
  subst hn
  subst hj
  subst hi'
  intro H locs ls hS hP hl
  exact va_aldq C.1 C.2.1 C.2.2.2.2.2.1 hP i 3 (wd_ref (t := 0) hi (by decide)) rfl (inb_in hin) hdg (kk H locs ls hS hP hl)
theorem x_aaldH (C : Cx p s m args meth c own cc nL Ts D cs ad) {i n j : Nat} {x : Int32} (hi : tg i = 14) (hn : ln i = n) (hin : inb x n = true) (hj : x.toNatClampNeg = j) (hdg : decode cc pc = .ok (.aaload, 1)) (i' : Nat) (hi' : i + 14 + 2 * j = i')
    (kk : V p l e R s m args below meth c nL D cs ad Q (pc + 1) lv (.ref (ad i') :: st) M) : V p l e R s m args below meth c nL D cs ad Q pc lv (.int x :: .ref (ad i) :: st) M := by
  subst hn
  subst hj
  subst hi'
  intro H locs ls hS hP hl
  exact va_aldq C.1 C.2.1 C.2.2.2.2.2.1 hP i 4 (wd_ref (t := 1) hi (by decide)) rfl (inb_in hin) hdg (kk H locs ls hS hP hl)
theorem x_aaldS (C : Cx p s m args meth c own cc nL Ts D cs ad) {i n j : Nat} {x : Int32} (hi : tg i = 15) (hn : ln i = n) (hin : inb x n = true) (hj : x.toNatClampNeg = j) (hdg : decode cc pc = .ok (.aaload, 1)) (i' : Nat) (hi' : i + 1 + 40 * (M i j).toNatClampNeg = i')
    (kk : V p l e R s m args below meth c nL D cs ad Q (pc + 1) lv (.ref (ad i') :: st) M) : V p l e R s m args below meth c nL D cs ad Q pc lv (.int x :: .ref (ad i) :: st) M := by
  subst hn
  subst hj
  subst hi'
  intro H locs ls hS hP hl
  exact va_aldq C.1 C.2.1 C.2.2.2.2.2.1 hP i 5 (wd_ref (t := 2) hi (by decide)) rfl (inb_in hin) hdg (kk H locs ls hS hP hl)
/-- the array of the history's states is written -/
theorem x_aast (C : Cx p s m args meth c own cc nL Ts D cs ad) {i n v j : Nat} {x : Int32} (hi : tg i = 15) (hn : ln i = n) (hin : inb x n = true) (hj : x.toNatClampNeg = j) (hv : tg v = 6) (w : Int32) (hw : i + 1 + 40 * w.toNatClampNeg = v) (hdg : decode cc pc = .ok (.aastore, 1))
    (kk : V p l e R s m args below meth c nL D cs ad Q (pc + 1) lv st (up M i j w)) : V p l e R s m args below meth c nL D cs ad Q pc lv (.ref (ad v) :: .int x :: .ref (ad i) :: st) M := by
  subst hn
  subst hj
  refine fun H locs ls hS hP hl => va_astq (r := (RX6, TX6, 8)) C.1 C.2.1 C.2.2.2.2.2.1 hP (wd_D C.2.2.2.2.2.2.1) hS i 5 v 6 (wd_ref (t := 2) hi (by decide)) rfl (wd_obj hv (by decide)) rfl (inb_in hin) hdg (fun H1 locs1 hP1 _ hS1 => ?_)
  have hset : (wd cs ad M).set i (ad i, .inl (cs (3 + 2), ln i, .inr (.inr (.inr (.inr (va_up (fun j => some (ad (rfo i (13 + 2) (M i) j))) x.toNatClampNeg (some (ad v)))))))) = wd cs ad (up M i x.toNatClampNeg w) := by
    refine wd_set (tg_lt hi (by omega)) ?_ (fun j hj => up_ne hj)
    rw [cel, if_neg (by omega), if_neg (by omega), hi]
    refine congrArg (fun f => (Sum.inl (cs (3 + 2), ln i, .inr (.inr (.inr (.inr f)))) : va_E)) ?_
    funext j
    unfold va_up
    by_cases hj : j = x.toNatClampNeg
    · rw [if_pos hj, hj]
      simp [rfo, up, hw]
    · rw [if_neg hj]
      simp [rfo, up, hj]
  rw [hset] at hP1
  exact kk H1 locs1 ls hS1 hP1 hl
theorem x_gen {M0 : Mem} {α : Type} {a : α} {k : Mem → Option α} (hf : lt_ M0 k = some a) (h : ∀ M1, k M1 = some a → V p l e R s m args below meth c nL D cs ad Q pc lv st M1) : V p l e R s m args below meth c nL D cs ad Q pc lv st M0 := h M0 hf
theorem x_weak (h : V p l e R s m args below meth c nL D cs ad Q pc lv' st M) (ks : List Nat) (hw : lkeep ks lv = lv') : V p l e R s m args below meth c nL D cs ad Q pc lv st M :=
  fun H locs ls hS hP hl => h H locs ls hS hP (lvp_sub hl (fun i v hv => lkeep_at hw i v hv))
theorem x_iret (C : Cx p s m args meth c own cc nL Ts D cs ad) {r v : Int32} (hr : meth.sig.returnType = some .int) (hf : some (v, M) = some (r, M')) (hdg : decode cc pc = .ok (.ireturn, 1)) : V p l e R s m args below meth c nL D cs ad (QI below s args D cs ad r M') pc lv [.int v] M := by
  cases hf
  intro H locs ls hS hP hl
  have hlk := C.2.2.2.2.2.2.2
  exact W.iret C.1 C.2.1 hr (fun t ht hW => ⟨⟨_, (), rfl, rfl, by rw [ht]; exact hP, va_K.moved hW.alike C.2.2.2.2.2.1, C.2.2.2.2.2.2.1⟩, hS.F ht⟩) hS.2.2 hdg hlk
theorem x_zret (C : Cx p s m args meth c own cc nL Ts D cs ad) {r v : Int32} (hr : meth.sig.returnType = some .boolean) (hv : narrow .boolean (.int v) = .int v) (hf : some (v, M) = some (r, M')) (hdg : decode cc pc = .ok (.ireturn, 1)) : V p l e R s m args below meth c nL D cs ad (QI below s args D cs ad r M') pc lv [.int v] M := by
  cases hf
  intro H locs ls hS hP hl
  have hlk := C.2.2.2.2.2.2.2
  exact W.zret C.1 C.2.1 hr hv (fun t ht hW => ⟨⟨_, (), rfl, rfl, by rw [ht]; exact hP, va_K.moved hW.alike C.2.2.2.2.2.1, C.2.2.2.2.2.2.1⟩, hS.F ht⟩) hS.2.2 hdg hlk
theorem x_vret (C : Cx p s m args meth c own cc nL Ts D cs ad) {r v : Int32} (hr : meth.sig.returnType = none) (hf : some (v, M) = some (r, M')) (hdg : decode cc pc = .ok (.return_, 1)) : V p l e R s m args below meth c nL D cs ad (QV below s args D cs ad M') pc lv [] M := by
  cases hf
  intro H locs ls hS hP hl
  have hlk := C.2.2.2.2.2.2.2
  exact W.vret C.1 C.2.1 hr (fun t ht hW => ⟨⟨(), rfl, trivial, by rw [ht]; exact hP, va_K.moved hW.alike C.2.2.2.2.2.1, C.2.2.2.2.2.2.1⟩, hS.F ht⟩) hS.2.2 hdg hlk
theorem x_catsum {st : List Value} {L : List Nat} (h : st.map (fun v => v.category) = L) (hL : L.sum ≤ 8) : (st.map fun v => v.category).sum ≤ 8 := by rw [h]; exact hL
/-- calls -/
theorem x_callV (C : Cx p s m args meth c own cc nL Ts D cs ad) {y : MethodName} {ws ws' : List Cond} {bytes : ByteArray} {maxL fr n index t b N : Nat} {T : u_T} {Cn : String} {ret : Option FieldType} {av : (Nat → Nat) → List Value} {As rest : List Value} {r : Int32} (hM : CnI y ws fr av M r M') (hG : GoodIn Ts (wsV own index Cn y ws)) (hw : ws = Cond.code y bytes maxL ret :: ws') (hd : y.cls = Cn ∧ y.cls ≠ "java/lang/invoke/MethodHandle" ∧ y.cls ≠ "java/lang/invoke/VarHandle" ∧ (parseMethodDescriptor y.desc).map (fun d => d.parameters.length) = some n) (hR : fr + 1 ≤ R.frames ∧ 8 + (maxL + 11) + 36 * fr ≤ R.locals)
    (hb : tg b = t) (h9 : t < 9) (hc : vwCl[t]? = some (Cn, T, N)) (hav : av ad = .ref (ad b) :: As) (hn : As.length = n) (hst : st = As.reverse ++ .ref (ad b) :: rest) (hW : (rest.map fun v => v.category).sum ≤ 8) (hdg : decode cc pc = .ok (.invokevirtual index, 3)) (kk : V p l e R s m args below meth c nL D cs ad Q (pc + 3) lv (.int r :: rest) M') : V p l e R s m args below meth c nL D cs ad Q pc lv st M := by
  intro H locs ls hS hP hl
  subst hst
  obtain ⟨hx, hbb, hml, hown, hts, hK, hI, -⟩ := C
  have hM1 := hM l D cs ad
  rw [hav] at hM1
  refine va_calli (va_runV (nL := nL) (As := As) (rest := rest) ⟨hx, hbb, hml, hown, hts⟩ hM1 (cwV n hts hG hw rfl rfl hd hR) ⟨Wd_blind, va_recv hK hP (ci := t) (q0 := b) hc (wd_obj hb h9), fun U hU hW => ⟨rfl, by rw [hU]; exact hP, va_K.moved hW.alike hK, hI⟩⟩ rfl hn hl.1 rfl (lv_room hW) hdg ⟨Nat.zero_le _, Nat.zero_le _⟩) hS (fun q _ h => h) (fun q h => h) (fun r0 u t H1 locs1 ht hvm hw1 hB hz1 hk1 hS1 => ?_)
  obtain ⟨hP1, -, -⟩ := hB
  rw [ht] at hP1
  rw [hw1]
  exact kk H1 locs1 ls hS1 hP1 hl
theorem x_callVv (C : Cx p s m args meth c own cc nL Ts D cs ad) {y : MethodName} {ws ws' : List Cond} {bytes : ByteArray} {maxL fr n index t b N : Nat} {T : u_T} {Cn : String} {ret : Option FieldType} {av : (Nat → Nat) → List Value} {As rest : List Value} (hM : CnV y ws fr av M M') (hG : GoodIn Ts (wsV own index Cn y ws)) (hw : ws = Cond.code y bytes maxL ret :: ws') (hd : y.cls = Cn ∧ y.cls ≠ "java/lang/invoke/MethodHandle" ∧ y.cls ≠ "java/lang/invoke/VarHandle" ∧ (parseMethodDescriptor y.desc).map (fun d => d.parameters.length) = some n) (hR : fr + 1 ≤ R.frames ∧ 8 + (maxL + 11) + 36 * fr ≤ R.locals)
    (hb : tg b = t) (h9 : t < 9) (hc : vwCl[t]? = some (Cn, T, N)) (hav : av ad = .ref (ad b) :: As) (hn : As.length = n) (hst : st = As.reverse ++ .ref (ad b) :: rest) (hW : (rest.map fun v => v.category).sum ≤ 8) (hdg : decode cc pc = .ok (.invokevirtual index, 3)) (kk : V p l e R s m args below meth c nL D cs ad Q (pc + 3) lv rest M') : V p l e R s m args below meth c nL D cs ad Q pc lv st M := by
  intro H locs ls hS hP hl
  subst hst
  obtain ⟨hx, hbb, hml, hown, hts, hK, hI, -⟩ := C
  have hM1 := hM l D cs ad
  rw [hav] at hM1
  refine va_callv (va_runV (nL := nL) (As := As) (rest := rest) ⟨hx, hbb, hml, hown, hts⟩ hM1 (cwV n hts hG hw rfl rfl hd hR) ⟨Wd_blind, va_recv hK hP (ci := t) (q0 := b) hc (wd_obj hb h9), fun U hU hW => ⟨rfl, by rw [hU]; exact hP, va_K.moved hW.alike hK, hI⟩⟩ rfl hn hl.1 rfl (lv_room hW) hdg ⟨Nat.zero_le _, Nat.zero_le _⟩) hS (fun q _ h => h) (fun q h => h) (fun u t H1 locs1 ht hvm hw1 hB hz1 hk1 hS1 => ?_)
  obtain ⟨hP1, -, -⟩ := hB
  rw [ht] at hP1
  exact kk H1 locs1 ls hS1 hP1 hl
theorem x_cbS {y : MethodName} {ws ws' : List Cond} {bytes : ByteArray} {maxL fr n index : Nat} {ret : Option FieldType} (hts : ∀ w ∈ Ts, w.before args s = true) (hG : GoodIn Ts (va_wsS own index y ws)) (hw : ws = Cond.code y bytes maxL ret :: ws') (hd : y.cls ≠ "java/lang/invoke/MethodHandle" ∧ y.cls ≠ "java/lang/invoke/VarHandle" ∧ (parseMethodDescriptor y.desc).map (fun d => d.parameters.length) = some n) (hR : fr + 1 ≤ R.frames ∧ 8 + (maxL + 11) + 36 * fr ≤ R.locals) :
    CallB R s args own index y bytes maxL ret ws (rmk fr) 0 0 n ∧ (Cond.static y).before args s = true := by
  have ok : ∀ w ∈ va_wsS own index y ws, w.before args s = true := fun w h => hts w (hG w h).1
  exact ⟨callB_of n hts (fun w h => hG w (by unfold va_wsS; exact List.mem_append_right _ h)) hw rfl rfl (ok _ (by simp [va_wsS])) (ok _ (by simp [va_wsS])) hd hR, ok _ (by simp [va_wsS])⟩
theorem x_callS (C : Cx p s m args meth c own cc nL Ts D cs ad) {y : MethodName} {ws ws' : List Cond} {bytes : ByteArray} {maxL fr n index : Nat} {ret : Option FieldType} {av : (Nat → Nat) → List Value} {As rest : List Value} {r : Int32} (hM : CnI y ws fr av M r M') (hG : GoodIn Ts (va_wsS own index y ws)) (hw : ws = Cond.code y bytes maxL ret :: ws') (hd : y.cls ≠ "java/lang/invoke/MethodHandle" ∧ y.cls ≠ "java/lang/invoke/VarHandle" ∧ (parseMethodDescriptor y.desc).map (fun d => d.parameters.length) = some n) (hR : fr + 1 ≤ R.frames ∧ 8 + (maxL + 11) + 36 * fr ≤ R.locals)
    (hav : av ad = As) (hn : As.length = n) (hst : st = As.reverse ++ rest) (hW : (rest.map fun v => v.category).sum ≤ 8) (hdg : decode cc pc = .ok (.invokestatic index, 3)) (kk : V p l e R s m args below meth c nL D cs ad Q (pc + 3) lv (.int r :: rest) M') : V p l e R s m args below meth c nL D cs ad Q pc lv st M := by
  intro H locs ls hS hP hl
  subst hst
  obtain ⟨hx, hbb, hml, hown, hts, hK, hI, -⟩ := C
  have hM1 := hM l D cs ad
  rw [hav] at hM1
  refine va_calli (va_runS (nL := nL) (As := As) (rest := rest) ⟨hx, hbb, hml, hown, hts⟩ hM1 (x_cbS hts hG hw hd hR) ⟨Wd_blind, fun U hU hW => ⟨rfl, by rw [hU]; exact hP, va_K.moved hW.alike hK, hI⟩⟩ rfl hn hl.1 rfl (lv_room hW) hdg ⟨Nat.zero_le _, Nat.zero_le _⟩) hS (fun q _ h => h) (fun q h => h) (fun r0 u t H1 locs1 ht hvm hw1 hB hz1 hk1 hS1 => ?_)
  obtain ⟨hP1, -, -⟩ := hB
  rw [ht] at hP1
  rw [hw1]
  exact kk H1 locs1 ls hS1 hP1 hl
theorem x_callSv (C : Cx p s m args meth c own cc nL Ts D cs ad) {y : MethodName} {ws ws' : List Cond} {bytes : ByteArray} {maxL fr n index : Nat} {ret : Option FieldType} {av : (Nat → Nat) → List Value} {As rest : List Value} (hM : CnV y ws fr av M M') (hG : GoodIn Ts (va_wsS own index y ws)) (hw : ws = Cond.code y bytes maxL ret :: ws') (hd : y.cls ≠ "java/lang/invoke/MethodHandle" ∧ y.cls ≠ "java/lang/invoke/VarHandle" ∧ (parseMethodDescriptor y.desc).map (fun d => d.parameters.length) = some n) (hR : fr + 1 ≤ R.frames ∧ 8 + (maxL + 11) + 36 * fr ≤ R.locals)
    (hav : av ad = As) (hn : As.length = n) (hst : st = As.reverse ++ rest) (hW : (rest.map fun v => v.category).sum ≤ 8) (hdg : decode cc pc = .ok (.invokestatic index, 3)) (kk : V p l e R s m args below meth c nL D cs ad Q (pc + 3) lv rest M') : V p l e R s m args below meth c nL D cs ad Q pc lv st M := by
  intro H locs ls hS hP hl
  subst hst
  obtain ⟨hx, hbb, hml, hown, hts, hK, hI, -⟩ := C
  have hM1 := hM l D cs ad
  rw [hav] at hM1
  refine va_callv (va_runS (nL := nL) (As := As) (rest := rest) ⟨hx, hbb, hml, hown, hts⟩ hM1 (x_cbS hts hG hw hd hR) ⟨Wd_blind, fun U hU hW => ⟨rfl, by rw [hU]; exact hP, va_K.moved hW.alike hK, hI⟩⟩ rfl hn hl.1 rfl (lv_room hW) hdg ⟨Nat.zero_le _, Nat.zero_le _⟩) hS (fun q _ h => h) (fun q h => h) (fun u t H1 locs1 ht hvm hw1 hB hz1 hk1 hS1 => ?_)
  obtain ⟨hP1, -, -⟩ := hB
  rw [ht] at hP1
  exact kk H1 locs1 ls hS1 hP1 hl
/-- Math.max -/
theorem x_mmax (C : Cx p s m args meth c own cc nL Ts D cs ad) {index : Nat} (hlink : Cond.methodLink own index Lib.Math.max.name ∈ Ts) (hstat : Cond.static Lib.Math.max.name ∈ Ts) (hini : Cond.initialized "java/lang/Math" ∈ Ts) (hcode : Cond.code Lib.Math.max.name Lib.Math.max.code 2 (some .int) ∈ Ts) (hR : 1 ≤ R.frames ∧ 21 ≤ R.locals) (hW : (st.map fun v => v.category).sum ≤ 8) {x y : Int32} (hdg : decode cc pc = .ok (.invokestatic index, 3))
    (kk : V p l e R s m args below meth c nL D cs ad Q (pc + 3) lv (.int (if x < y then y else x) :: st) M) : V p l e R s m args below meth c nL D cs ad Q pc lv (.int y :: .int x :: st) M :=
  fun H locs ls hS hP hl => va_mmax C.1 C.2.1 (C.2.2.1.trans hl.1.symm) C.2.2.2.1 (C.2.2.2.2.1 _ hlink) (C.2.2.2.2.1 _ hstat) (C.2.2.2.2.1 _ hini) (C.2.2.2.2.1 _ hcode) hR.1 (by omega) (Nat.zero_le _) (Nat.zero_le _) hdg (kk H locs ls hS hP hl)
end XR
/-- a method's contract out of a walk of its body -/
theorem x_metI {y : MethodName} {ws ws' : List Cond} {cc : ByteArray} {maxL fr : Nat} {ret : FieldType} {av : (Nat → Nat) → List Value} {M M' : Mem} {r : Int32} (own : String) (hcls : y.cls = own) (hy : plainName y.cls = true) (hw : ws = Cond.code y cc maxL (some ret) :: ws') (hn : ∀ ad, (av ad).length ≤ maxL) (hc : ∀ ad, ∀ v ∈ av ad, v.category = 1)
    (body : ∀ (p : Program) (l : Launch) (e : Env) (s : State) (m : MethodId) (args : Array Value) (below : List Frame) (meth : Method) (c : Code) (D : va_G) (cs : Nat → ClassId) (ad : Nat → Nat), Cx p s m args meth c own cc maxL ws D cs ad → meth.sig.returnType = some ret → V p l e (rmk fr) s m args below meth c maxL D cs ad (QI below s args D cs ad r M') 0 ((av ad).map some ++ List.replicate (maxL - (av ad).length) none) [] M) : CnI y ws fr av M r M' := by
  intro l D cs ad
  refine Met.ofW (cc := cc) (maxL := maxL) (ret := some ret) hy hw ?_
  intro p e s m args below meth c s₁ B hml hv
  obtain ⟨rfl, hP, hK, hI⟩ := hv
  have hts := atoms_spec (ws := ws) B.pre
  have hown : s.vm.findClass y.cls = some m.cls := findClass_of_methodNamed B.named
  rw [hcls] at hown
  have hlocks := B.notSynchronized
  rw [lg_entry_eq]
  exact body p l e s m _ below meth c D cs ad ⟨B.exec, B.bytes, hml, hown, hts, hK, hI, hlocks⟩ B.returns s.heap [] _ va_S.rf hP (lvp_entry (hn ad) (hc ad) rfl)
theorem x_metV {y : MethodName} {ws ws' : List Cond} {cc : ByteArray} {maxL fr : Nat} {av : (Nat → Nat) → List Value} {M M' : Mem} (own : String) (hcls : y.cls = own) (hy : plainName y.cls = true) (hw : ws = Cond.code y cc maxL none :: ws') (hn : ∀ ad, (av ad).length ≤ maxL) (hc : ∀ ad, ∀ v ∈ av ad, v.category = 1)
    (body : ∀ (p : Program) (l : Launch) (e : Env) (s : State) (m : MethodId) (args : Array Value) (below : List Frame) (meth : Method) (c : Code) (D : va_G) (cs : Nat → ClassId) (ad : Nat → Nat), Cx p s m args meth c own cc maxL ws D cs ad → meth.sig.returnType = none → V p l e (rmk fr) s m args below meth c maxL D cs ad (QV below s args D cs ad M') 0 ((av ad).map some ++ List.replicate (maxL - (av ad).length) none) [] M) : CnV y ws fr av M M' := by
  intro l D cs ad
  refine Met.ofW (cc := cc) (maxL := maxL) (ret := none) hy hw ?_
  intro p e s m args below meth c s₁ B hml hv
  obtain ⟨rfl, hP, hK, hI⟩ := hv
  have hts := atoms_spec (ws := ws) B.pre
  have hown : s.vm.findClass y.cls = some m.cls := findClass_of_methodNamed B.named
  rw [hcls] at hown
  have hlocks := B.notSynchronized
  rw [lg_entry_eq]
  exact body p l e s m _ below meth c D cs ad ⟨B.exec, B.bytes, hml, hown, hts, hK, hI, hlocks⟩ B.returns s.heap [] _ va_S.rf hP (lvp_entry (hn ad) (hc ad) rfl)
