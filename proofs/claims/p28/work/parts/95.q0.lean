/-! THE LAW'S METHODS: rules over a world that is known by a property (written by wip/p28/tools/mk_q0.py) -/
def CQ (p : Program) (s : State) (m : MethodId) (args : Array Value) (meth : Method) (c : Code) (cc : ByteArray) (nL : Nat) (D : va_G) (cs : Nat → ClassId) : Prop :=
  p.tables.exec = Jvm.exec ∧ c.code = cc ∧ c.maxLocals = nL ∧ s.vm.findClass RL = some m.cls ∧ (∀ w ∈ lw_g, w.before args s = true) ∧ va_K D vwCl (tys cs) s ∧ meth.locks = false
def VX (p : Program) (l : Launch) (e : Env) (R : Room) (s : State) (m : MethodId) (args : Array Value) (below : List Frame) (meth : Method) (c : Code) (nL : Nat) (D : va_G) (A : Nat → Prop) (cells slots : Nat) (Q : State → Prop) (P : va_W → Prop) (pc : Nat) (lv : List (Nat × Value)) (st : List Value) : Prop :=
  ∀ (ws : va_W) (H : Heap) (locs : List Loc) (ls : Array Slot), P ws → va_S A s.heap H locs → va_D A ws → va_P D vwCl ws H → lv_has ls nL lv → W p l e R s m args below meth c H locs cells slots Q (F0 m pc ls st)
/-- the class's cells show the ghost, which is in order -/
def CG (M : Mem) (g : Gh) : Prop := GO g ∧ CL M g
/-- the object's world, and what stands beside it -/
def gW (cs : Nat → ClassId) (ad : Nat → Nat) (g : Gh) (wr : va_W) : va_W → Prop := fun ws => ∃ M, CG M g ∧ ws = wd cs ad M ++ wr
section QR
variable {p : Program} {l : Launch} {e : Env} {R : Room} {s : State} {m : MethodId} {args : Array Value} {below : List Frame} {meth : Method} {c : Code} {nL : Nat} {D : va_G} {cs : Nat → ClassId} {A : Nat → Prop} {cells slots : Nat} {Q : State → Prop} {P : va_W → Prop} {pc : Nat} {lv lv' : List (Nat × Value)} {st : List Value} {cc : ByteArray}
theorem q_iconst (C : CQ p s m args meth c cc nL D cs) {n : Int} {v : Int32} (hdg : decode cc pc = .ok (.iconst n, 1)) (hv : Int32.ofInt n = v) (k : VX p l e R s m args below meth c nL D A cells slots Q P (pc + 1) lv (.int v :: st)) : VX p l e R s m args below meth c nL D A cells slots Q P pc lv st :=
  fun ws H locs ls hW hS hD hP hl => lv_iconst C.1 C.2.1 hdg hv (k ws H locs ls hW hS hD hP hl)
theorem q_bipush (C : CQ p s m args meth c cc nL D cs) {n : Int} {v : Int32} (hdg : decode cc pc = .ok (.bipush n, 2)) (hv : (Int8.ofInt n).toInt32 = v) (k : VX p l e R s m args below meth c nL D A cells slots Q P (pc + 2) lv (.int v :: st)) : VX p l e R s m args below meth c nL D A cells slots Q P pc lv st :=
  fun ws H locs ls hW hS hD hP hl => lv_bipush C.1 C.2.1 hdg hv (k ws H locs ls hW hS hD hP hl)
theorem q_sipush (C : CQ p s m args meth c cc nL D cs) {n : Int} {v : Int32} (hdg : decode cc pc = .ok (.sipush n, 3)) (hv : (Int16.ofInt n).toInt32 = v) (k : VX p l e R s m args below meth c nL D A cells slots Q P (pc + 3) lv (.int v :: st)) : VX p l e R s m args below meth c nL D A cells slots Q P pc lv st :=
  fun ws H locs ls hW hS hD hP hl => lv_sipush C.1 C.2.1 hdg hv (k ws H locs ls hW hS hD hP hl)
theorem q_iload_n (C : CQ p s m args meth c cc nL D cs) {k : Fin 4} {i : Nat} {x : Int32} (hdg : decode cc pc = .ok (.iload_n k, 1)) (hi : (k : Nat) = i) (k0 : Nat) (hx : lv[k0]? = some (i, .int x)) (kk : VX p l e R s m args below meth c nL D A cells slots Q P (pc + 1) lv (.int x :: st)) : VX p l e R s m args below meth c nL D A cells slots Q P pc lv st :=
  fun ws H locs ls hW hS hD hP hl => lv_iload_n C.1 C.2.1 hdg hi (lv_at hl k0 hx) (kk ws H locs ls hW hS hD hP hl)
theorem q_iload (C : CQ p s m args meth c cc nL D cs) {i : Nat} {x : Int32} (hdg : decode cc pc = .ok (.iload i, 2)) (k0 : Nat) (hx : lv[k0]? = some (i, .int x)) (kk : VX p l e R s m args below meth c nL D A cells slots Q P (pc + 2) lv (.int x :: st)) : VX p l e R s m args below meth c nL D A cells slots Q P pc lv st :=
  fun ws H locs ls hW hS hD hP hl => lv_iload C.1 C.2.1 hdg (lv_at hl k0 hx) (kk ws H locs ls hW hS hD hP hl)
theorem q_aload_n (C : CQ p s m args meth c cc nL D cs) {k : Fin 4} {i x : Nat} (hdg : decode cc pc = .ok (.aload_n k, 1)) (hi : (k : Nat) = i) (k0 : Nat) (hx : lv[k0]? = some (i, .ref x)) (kk : VX p l e R s m args below meth c nL D A cells slots Q P (pc + 1) lv (.ref x :: st)) : VX p l e R s m args below meth c nL D A cells slots Q P pc lv st :=
  fun ws H locs ls hW hS hD hP hl => lv_aload_n C.1 C.2.1 hdg hi (lv_at hl k0 hx) (kk ws H locs ls hW hS hD hP hl)
theorem q_aload (C : CQ p s m args meth c cc nL D cs) {i x : Nat} (hdg : decode cc pc = .ok (.aload i, 2)) (k0 : Nat) (hx : lv[k0]? = some (i, .ref x)) (kk : VX p l e R s m args below meth c nL D A cells slots Q P (pc + 2) lv (.ref x :: st)) : VX p l e R s m args below meth c nL D A cells slots Q P pc lv st :=
  fun ws H locs ls hW hS hD hP hl => lv_aload C.1 C.2.1 hdg (lv_at hl k0 hx) (kk ws H locs ls hW hS hD hP hl)
theorem q_iadd (C : CQ p s m args meth c cc nL D cs) {x y : Int32} (hdg : decode cc pc = .ok (.iadd, 1)) (k : VX p l e R s m args below meth c nL D A cells slots Q P (pc + 1) lv (.int (x + y) :: st)) : VX p l e R s m args below meth c nL D A cells slots Q P pc lv (.int y :: .int x :: st) :=
  fun ws H locs ls hW hS hD hP hl => lv_iadd C.1 C.2.1 hdg (k ws H locs ls hW hS hD hP hl)
theorem q_isub (C : CQ p s m args meth c cc nL D cs) {x y : Int32} (hdg : decode cc pc = .ok (.isub, 1)) (k : VX p l e R s m args below meth c nL D A cells slots Q P (pc + 1) lv (.int (x - y) :: st)) : VX p l e R s m args below meth c nL D A cells slots Q P pc lv (.int y :: .int x :: st) :=
  fun ws H locs ls hW hS hD hP hl => lv_isub C.1 C.2.1 hdg (k ws H locs ls hW hS hD hP hl)
theorem q_imul (C : CQ p s m args meth c cc nL D cs) {x y : Int32} (hdg : decode cc pc = .ok (.imul, 1)) (k : VX p l e R s m args below meth c nL D A cells slots Q P (pc + 1) lv (.int (x * y) :: st)) : VX p l e R s m args below meth c nL D A cells slots Q P pc lv (.int y :: .int x :: st) :=
  fun ws H locs ls hW hS hD hP hl => lv_imul C.1 C.2.1 hdg (k ws H locs ls hW hS hD hP hl)
theorem q_iand (C : CQ p s m args meth c cc nL D cs) {x y : Int32} (hdg : decode cc pc = .ok (.iand, 1)) (k : VX p l e R s m args below meth c nL D A cells slots Q P (pc + 1) lv (.int (x &&& y) :: st)) : VX p l e R s m args below meth c nL D A cells slots Q P pc lv (.int y :: .int x :: st) :=
  fun ws H locs ls hW hS hD hP hl => lv_iand C.1 C.2.1 hdg (k ws H locs ls hW hS hD hP hl)
theorem q_ixor (C : CQ p s m args meth c cc nL D cs) {x y : Int32} (hdg : decode cc pc = .ok (.ixor, 1)) (k : VX p l e R s m args below meth c nL D A cells slots Q P (pc + 1) lv (.int (x ^^^ y) :: st)) : VX p l e R s m args below meth c nL D A cells slots Q P pc lv (.int y :: .int x :: st) :=
  fun ws H locs ls hW hS hD hP hl => lv_ixor C.1 C.2.1 hdg (k ws H locs ls hW hS hD hP hl)
theorem q_ishr (C : CQ p s m args meth c cc nL D cs) {x y : Int32} (hdg : decode cc pc = .ok (.ishr, 1)) (k : VX p l e R s m args below meth c nL D A cells slots Q P (pc + 1) lv (.int (x >>> (y &&& 31)) :: st)) : VX p l e R s m args below meth c nL D A cells slots Q P pc lv (.int y :: .int x :: st) :=
  fun ws H locs ls hW hS hD hP hl => lv_ishr C.1 C.2.1 hdg (k ws H locs ls hW hS hD hP hl)
theorem q_idiv (C : CQ p s m args meth c cc nL D cs) {x y : Int32} (hdg : decode cc pc = .ok (.idiv, 1)) (hne : ¬ y = 0) (k : VX p l e R s m args below meth c nL D A cells slots Q P (pc + 1) lv (.int (x / y) :: st)) : VX p l e R s m args below meth c nL D A cells slots Q P pc lv (.int y :: .int x :: st) :=
  fun ws H locs ls hW hS hD hP hl => lv_idiv C.1 C.2.1 hdg hne (k ws H locs ls hW hS hD hP hl)
theorem q_irem (C : CQ p s m args meth c cc nL D cs) {x y : Int32} (hdg : decode cc pc = .ok (.irem, 1)) (hne : ¬ y = 0) (k : VX p l e R s m args below meth c nL D A cells slots Q P (pc + 1) lv (.int (x - x / y * y) :: st)) : VX p l e R s m args below meth c nL D A cells slots Q P pc lv (.int y :: .int x :: st) :=
  fun ws H locs ls hW hS hD hP hl => lv_irem C.1 C.2.1 hdg hne (k ws H locs ls hW hS hD hP hl)
theorem q_dup (C : CQ p s m args meth c cc nL D cs) {v : Value} (hdg : decode cc pc = .ok (.dup, 1)) (hv : v.category = 1) (k : VX p l e R s m args below meth c nL D A cells slots Q P (pc + 1) lv (v :: v :: st)) : VX p l e R s m args below meth c nL D A cells slots Q P pc lv (v :: st) :=
  fun ws H locs ls hW hS hD hP hl => lv_dup C.1 C.2.1 hdg hv (k ws H locs ls hW hS hD hP hl)
theorem q_goto (C : CQ p s m args meth c cc nL D cs) {off : Int} {tgt : Nat} (hdg : decode cc pc = .ok (.goto off, 3)) (ht : (pc : Int) + off = (tgt : Int)) (k : VX p l e R s m args below meth c nL D A cells slots Q P tgt lv st) : VX p l e R s m args below meth c nL D A cells slots Q P pc lv st :=
  fun ws H locs ls hW hS hD hP hl => lv_goto C.1 C.2.1 hdg ht (k ws H locs ls hW hS hD hP hl)
theorem q_icmp_eq (C : CQ p s m args meth c cc nL D cs) {x y : Int32} {off : Int} {tgt : Nat} (hdg : decode cc pc = .ok (.if_icmp .eq off, 3)) (ht : (pc : Int) + off = (tgt : Int)) (kt : x = y → VX p l e R s m args below meth c nL D A cells slots Q P tgt lv st) (kf : ¬ x = y → VX p l e R s m args below meth c nL D A cells slots Q P (pc + 3) lv st) : VX p l e R s m args below meth c nL D A cells slots Q P pc lv (.int y :: .int x :: st) :=
  fun ws H locs ls hW hS hD hP hl => lv_icmp_eq C.1 C.2.1 hdg ht (fun q => kt q ws H locs ls hW hS hD hP hl) (fun q => kf q ws H locs ls hW hS hD hP hl)
theorem q_if_eq (C : CQ p s m args meth c cc nL D cs) {x : Int32} {off : Int} {tgt : Nat} (hdg : decode cc pc = .ok (.ifCond .eq off, 3)) (ht : (pc : Int) + off = (tgt : Int)) (kt : x = 0 → VX p l e R s m args below meth c nL D A cells slots Q P tgt lv st) (kf : ¬ x = 0 → VX p l e R s m args below meth c nL D A cells slots Q P (pc + 3) lv st) : VX p l e R s m args below meth c nL D A cells slots Q P pc lv (.int x :: st) :=
  fun ws H locs ls hW hS hD hP hl => lv_if_eq C.1 C.2.1 hdg ht (fun q => kt q ws H locs ls hW hS hD hP hl) (fun q => kf q ws H locs ls hW hS hD hP hl)
theorem q_icmp_ne (C : CQ p s m args meth c cc nL D cs) {x y : Int32} {off : Int} {tgt : Nat} (hdg : decode cc pc = .ok (.if_icmp .ne off, 3)) (ht : (pc : Int) + off = (tgt : Int)) (kt : x = y → VX p l e R s m args below meth c nL D A cells slots Q P (pc + 3) lv st) (kf : ¬ x = y → VX p l e R s m args below meth c nL D A cells slots Q P tgt lv st) : VX p l e R s m args below meth c nL D A cells slots Q P pc lv (.int y :: .int x :: st) :=
  fun ws H locs ls hW hS hD hP hl => lv_icmp_ne C.1 C.2.1 hdg ht (fun q => kf q ws H locs ls hW hS hD hP hl) (fun q => kt q ws H locs ls hW hS hD hP hl)
theorem q_if_ne (C : CQ p s m args meth c cc nL D cs) {x : Int32} {off : Int} {tgt : Nat} (hdg : decode cc pc = .ok (.ifCond .ne off, 3)) (ht : (pc : Int) + off = (tgt : Int)) (kt : x = 0 → VX p l e R s m args below meth c nL D A cells slots Q P (pc + 3) lv st) (kf : ¬ x = 0 → VX p l e R s m args below meth c nL D A cells slots Q P tgt lv st) : VX p l e R s m args below meth c nL D A cells slots Q P pc lv (.int x :: st) :=
  fun ws H locs ls hW hS hD hP hl => lv_if_ne C.1 C.2.1 hdg ht (fun q => kf q ws H locs ls hW hS hD hP hl) (fun q => kt q ws H locs ls hW hS hD hP hl)
theorem q_icmp_lt (C : CQ p s m args meth c cc nL D cs) {x y : Int32} {off : Int} {tgt : Nat} (hdg : decode cc pc = .ok (.if_icmp .lt off, 3)) (ht : (pc : Int) + off = (tgt : Int)) (kt : x < y → VX p l e R s m args below meth c nL D A cells slots Q P tgt lv st) (kf : ¬ x < y → VX p l e R s m args below meth c nL D A cells slots Q P (pc + 3) lv st) : VX p l e R s m args below meth c nL D A cells slots Q P pc lv (.int y :: .int x :: st) :=
  fun ws H locs ls hW hS hD hP hl => lv_icmp_lt C.1 C.2.1 hdg ht (fun q => kt q ws H locs ls hW hS hD hP hl) (fun q => kf q ws H locs ls hW hS hD hP hl)
theorem q_if_lt (C : CQ p s m args meth c cc nL D cs) {x : Int32} {off : Int} {tgt : Nat} (hdg : decode cc pc = .ok (.ifCond .lt off, 3)) (ht : (pc : Int) + off = (tgt : Int)) (kt : x < 0 → VX p l e R s m args below meth c nL D A cells slots Q P tgt lv st) (kf : ¬ x < 0 → VX p l e R s m args below meth c nL D A cells slots Q P (pc + 3) lv st) : VX p l e R s m args below meth c nL D A cells slots Q P pc lv (.int x :: st) :=
  fun ws H locs ls hW hS hD hP hl => lv_if_lt C.1 C.2.1 hdg ht (fun q => kt q ws H locs ls hW hS hD hP hl) (fun q => kf q ws H locs ls hW hS hD hP hl)
theorem q_icmp_ge (C : CQ p s m args meth c cc nL D cs) {x y : Int32} {off : Int} {tgt : Nat} (hdg : decode cc pc = .ok (.if_icmp .ge off, 3)) (ht : (pc : Int) + off = (tgt : Int)) (kt : y ≤ x → VX p l e R s m args below meth c nL D A cells slots Q P tgt lv st) (kf : ¬ y ≤ x → VX p l e R s m args below meth c nL D A cells slots Q P (pc + 3) lv st) : VX p l e R s m args below meth c nL D A cells slots Q P pc lv (.int y :: .int x :: st) :=
  fun ws H locs ls hW hS hD hP hl => lv_icmp_ge C.1 C.2.1 hdg ht (fun q => kt q ws H locs ls hW hS hD hP hl) (fun q => kf q ws H locs ls hW hS hD hP hl)
theorem q_if_ge (C : CQ p s m args meth c cc nL D cs) {x : Int32} {off : Int} {tgt : Nat} (hdg : decode cc pc = .ok (.ifCond .ge off, 3)) (ht : (pc : Int) + off = (tgt : Int)) (kt : 0 ≤ x → VX p l e R s m args below meth c nL D A cells slots Q P tgt lv st) (kf : ¬ 0 ≤ x → VX p l e R s m args below meth c nL D A cells slots Q P (pc + 3) lv st) : VX p l e R s m args below meth c nL D A cells slots Q P pc lv (.int x :: st) :=
  fun ws H locs ls hW hS hD hP hl => lv_if_ge C.1 C.2.1 hdg ht (fun q => kt q ws H locs ls hW hS hD hP hl) (fun q => kf q ws H locs ls hW hS hD hP hl)
theorem q_icmp_gt (C : CQ p s m args meth c cc nL D cs) {x y : Int32} {off : Int} {tgt : Nat} (hdg : decode cc pc = .ok (.if_icmp .gt off, 3)) (ht : (pc : Int) + off = (tgt : Int)) (kt : y < x → VX p l e R s m args below meth c nL D A cells slots Q P tgt lv st) (kf : ¬ y < x → VX p l e R s m args below meth c nL D A cells slots Q P (pc + 3) lv st) : VX p l e R s m args below meth c nL D A cells slots Q P pc lv (.int y :: .int x :: st) :=
  fun ws H locs ls hW hS hD hP hl => lv_icmp_gt C.1 C.2.1 hdg ht (fun q => kt q ws H locs ls hW hS hD hP hl) (fun q => kf q ws H locs ls hW hS hD hP hl)
theorem q_if_gt (C : CQ p s m args meth c cc nL D cs) {x : Int32} {off : Int} {tgt : Nat} (hdg : decode cc pc = .ok (.ifCond .gt off, 3)) (ht : (pc : Int) + off = (tgt : Int)) (kt : 0 < x → VX p l e R s m args below meth c nL D A cells slots Q P tgt lv st) (kf : ¬ 0 < x → VX p l e R s m args below meth c nL D A cells slots Q P (pc + 3) lv st) : VX p l e R s m args below meth c nL D A cells slots Q P pc lv (.int x :: st) :=
  fun ws H locs ls hW hS hD hP hl => lv_if_gt C.1 C.2.1 hdg ht (fun q => kt q ws H locs ls hW hS hD hP hl) (fun q => kf q ws H locs ls hW hS hD hP hl)
theorem q_icmp_le (C : CQ p s m args meth c cc nL D cs) {x y : Int32} {off : Int} {tgt : Nat} (hdg : decode cc pc = .ok (.if_icmp .le off, 3)) (ht : (pc : Int) + off = (tgt : Int)) (kt : x ≤ y → VX p l e R s m args below meth c nL D A cells slots Q P tgt lv st) (kf : ¬ x ≤ y → VX p l e R s m args below meth c nL D A cells slots Q P (pc + 3) lv st) : VX p l e R s m args below meth c nL D A cells slots Q P pc lv (.int y :: .int x :: st) :=
  fun ws H locs ls hW hS hD hP hl => lv_icmp_le C.1 C.2.1 hdg ht (fun q => kt q ws H locs ls hW hS hD hP hl) (fun q => kf q ws H locs ls hW hS hD hP hl)
theorem q_if_le (C : CQ p s m args meth c cc nL D cs) {x : Int32} {off : Int} {tgt : Nat} (hdg : decode cc pc = .ok (.ifCond .le off, 3)) (ht : (pc : Int) + off = (tgt : Int)) (kt : x ≤ 0 → VX p l e R s m args below meth c nL D A cells slots Q P tgt lv st) (kf : ¬ x ≤ 0 → VX p l e R s m args below meth c nL D A cells slots Q P (pc + 3) lv st) : VX p l e R s m args below meth c nL D A cells slots Q P pc lv (.int x :: st) :=
  fun ws H locs ls hW hS hD hP hl => lv_if_le C.1 C.2.1 hdg ht (fun q => kt q ws H locs ls hW hS hD hP hl) (fun q => kf q ws H locs ls hW hS hD hP hl)
theorem q_istore_n (C : CQ p s m args meth c cc nL D cs) {k0 : Fin 4} {i : Nat} {x : Int32} (hdg : decode cc pc = .ok (.istore_n k0, 1)) (hi : (k0 : Nat) = i) (hn : i < nL) (hl0 : (i, Value.int x) :: lv.filter (fun q => !(q.1 == i) && !(q.1 + 1 == i && q.2.category == 2)) = lv') (k : VX p l e R s m args below meth c nL D A cells slots Q P (pc + 1) lv' st) : VX p l e R s m args below meth c nL D A cells slots Q P pc lv (.int x :: st) :=
  fun ws H locs ls hW hS hD hP hl => lv_istore_n C.1 C.2.1 hdg hi hl hn hl0 (fun ls1 h1 => k ws H locs ls1 hW hS hD hP h1)
theorem q_istore (C : CQ p s m args meth c cc nL D cs) {i : Nat} {x : Int32} (hdg : decode cc pc = .ok (.istore i, 2)) (hn : i < nL) (hl0 : (i, Value.int x) :: lv.filter (fun q => !(q.1 == i) && !(q.1 + 1 == i && q.2.category == 2)) = lv') (k : VX p l e R s m args below meth c nL D A cells slots Q P (pc + 2) lv' st) : VX p l e R s m args below meth c nL D A cells slots Q P pc lv (.int x :: st) :=
  fun ws H locs ls hW hS hD hP hl => lv_istore C.1 C.2.1 hdg hl hn hl0 (fun ls1 h1 => k ws H locs ls1 hW hS hD hP h1)
theorem q_astore_n (C : CQ p s m args meth c cc nL D cs) {k0 : Fin 4} {i : Nat} {x : Nat} (hdg : decode cc pc = .ok (.astore_n k0, 1)) (hi : (k0 : Nat) = i) (hn : i < nL) (hl0 : (i, Value.ref x) :: lv.filter (fun q => !(q.1 == i) && !(q.1 + 1 == i && q.2.category == 2)) = lv') (k : VX p l e R s m args below meth c nL D A cells slots Q P (pc + 1) lv' st) : VX p l e R s m args below meth c nL D A cells slots Q P pc lv (.ref x :: st) :=
  fun ws H locs ls hW hS hD hP hl => lv_astore_n C.1 C.2.1 hdg hi hl hn hl0 (fun ls1 h1 => k ws H locs ls1 hW hS hD hP h1)
theorem q_astore (C : CQ p s m args meth c cc nL D cs) {i : Nat} {x : Nat} (hdg : decode cc pc = .ok (.astore i, 2)) (hn : i < nL) (hl0 : (i, Value.ref x) :: lv.filter (fun q => !(q.1 == i) && !(q.1 + 1 == i && q.2.category == 2)) = lv') (k : VX p l e R s m args below meth c nL D A cells slots Q P (pc + 2) lv' st) : VX p l e R s m args below meth c nL D A cells slots Q P pc lv (.ref x :: st) :=
  fun ws H locs ls hW hS hD hP hl => lv_astore C.1 C.2.1 hdg hl hn hl0 (fun ls1 h1 => k ws H locs ls1 hW hS hD hP h1)
theorem q_lstore_n (C : CQ p s m args meth c cc nL D cs) {k0 : Fin 4} {i : Nat} {x : Int64} (hdg : decode cc pc = .ok (.lstore_n k0, 1)) (hi : (k0 : Nat) = i) (hn : i + 1 < nL) (hl0 : (i, Value.long x) :: lv.filter (fun q => !(q.1 == i) && (!(q.1 == i + 1) && !(q.1 + 1 == i && q.2.category == 2))) = lv') (k : VX p l e R s m args below meth c nL D A cells slots Q P (pc + 1) lv' st) : VX p l e R s m args below meth c nL D A cells slots Q P pc lv (.long x :: st) :=
  fun ws H locs ls hW hS hD hP hl => lv_lstore_n C.1 C.2.1 hdg hi hl hn hl0 (fun ls1 h1 => k ws H locs ls1 hW hS hD hP h1)
theorem q_lstore (C : CQ p s m args meth c cc nL D cs) {i : Nat} {x : Int64} (hdg : decode cc pc = .ok (.lstore i, 2)) (hn : i + 1 < nL) (hl0 : (i, Value.long x) :: lv.filter (fun q => !(q.1 == i) && (!(q.1 == i + 1) && !(q.1 + 1 == i && q.2.category == 2))) = lv') (k : VX p l e R s m args below meth c nL D A cells slots Q P (pc + 2) lv' st) : VX p l e R s m args below meth c nL D A cells slots Q P pc lv (.long x :: st) :=
  fun ws H locs ls hW hS hD hP hl => lv_lstore C.1 C.2.1 hdg hl hn hl0 (fun ls1 h1 => k ws H locs ls1 hW hS hD hP h1)
theorem q_iinc (C : CQ p s m args meth c cc nL D cs) {i : Nat} {z : Int} {x v : Int32} (hdg : decode cc pc = .ok (.iinc i z, 3)) (k0 : Nat) (hk : lv[k0]? = some (i, .int x)) (hv : x + Int32.ofInt z = v) (hn : i < nL) (hl0 : (i, Value.int v) :: lv.filter (fun q => !(q.1 == i) && !(q.1 + 1 == i && q.2.category == 2)) = lv') (k : VX p l e R s m args below meth c nL D A cells slots Q P (pc + 3) lv' st) : VX p l e R s m args below meth c nL D A cells slots Q P pc lv st :=
  fun ws H locs ls hW hS hD hP hl => lv_iinc C.1 C.2.1 hdg hl hk hv hn hl0 (fun ls1 h1 => k ws H locs ls1 hW hS hD hP h1)
theorem q_ldc (C : CQ p s m args meth c cc nL D cs) {index : Nat} {v : Int32} (hcn : Cond.constant RL index v ∈ lw_g) (hdg : decode cc pc = .ok (.ldc index, 2)) (k : VX p l e R s m args below meth c nL D A cells slots Q P (pc + 2) lv (.int v :: st)) : VX p l e R s m args below meth c nL D A cells slots Q P pc lv st :=
  fun ws H locs ls hW hS hD hP hl => lv_ldc C.1 C.2.1 C.2.2.2.1 (C.2.2.2.2.1 _ hcn) hdg (k ws H locs ls hW hS hD hP hl)
theorem q_ldc2 (C : CQ p s m args meth c cc nL D cs) {index : Nat} {v : Int64} (hcn : Cond.constantLong RL index v ∈ lw_g) (hdg : decode cc pc = .ok (.ldc2_w index, 3)) (k : VX p l e R s m args below meth c nL D A cells slots Q P (pc + 3) lv (.long v :: st)) : VX p l e R s m args below meth c nL D A cells slots Q P pc lv st :=
  fun ws H locs ls hW hS hD hP hl => lv_ldc2 C.1 C.2.1 C.2.2.2.1 (C.2.2.2.2.1 _ hcn) hdg (k ws H locs ls hW hS hD hP hl)
theorem q_lconst (C : CQ p s m args meth c cc nL D cs) {z : Fin 2} {v : Int64} (hdg : decode cc pc = .ok (.lconst z, 1)) (hv : Int64.ofNat (z : Nat) = v) (k : VX p l e R s m args below meth c nL D A cells slots Q P (pc + 1) lv (.long v :: st)) : VX p l e R s m args below meth c nL D A cells slots Q P pc lv st :=
  fun ws H locs ls hW hS hD hP hl => lv_lconst C.1 C.2.1 hdg hv (k ws H locs ls hW hS hD hP hl)
theorem q_lload_n (C : CQ p s m args meth c cc nL D cs) {k1 : Fin 4} {i : Nat} {x : Int64} (hdg : decode cc pc = .ok (.lload_n k1, 1)) (hi : (k1 : Nat) = i) (k0 : Nat) (hx : lv[k0]? = some (i, .long x)) (k : VX p l e R s m args below meth c nL D A cells slots Q P (pc + 1) lv (.long x :: st)) : VX p l e R s m args below meth c nL D A cells slots Q P pc lv st :=
  fun ws H locs ls hW hS hD hP hl => lv_lload_n C.1 C.2.1 hdg hi (lv_at hl k0 hx) (k ws H locs ls hW hS hD hP hl)
theorem q_ladd (C : CQ p s m args meth c cc nL D cs) {x y : Int64} (hdg : decode cc pc = .ok (.ladd, 1)) (k : VX p l e R s m args below meth c nL D A cells slots Q P (pc + 1) lv (.long (x + y) :: st)) : VX p l e R s m args below meth c nL D A cells slots Q P pc lv (.long y :: .long x :: st) :=
  fun ws H locs ls hW hS hD hP hl => lv_ladd C.1 C.2.1 hdg (k ws H locs ls hW hS hD hP hl)
theorem q_lmul (C : CQ p s m args meth c cc nL D cs) {x y : Int64} (hdg : decode cc pc = .ok (.lmul, 1)) (k : VX p l e R s m args below meth c nL D A cells slots Q P (pc + 1) lv (.long (x * y) :: st)) : VX p l e R s m args below meth c nL D A cells slots Q P pc lv (.long y :: .long x :: st) :=
  fun ws H locs ls hW hS hD hP hl => lv_lmul C.1 C.2.1 hdg (k ws H locs ls hW hS hD hP hl)
theorem q_land (C : CQ p s m args meth c cc nL D cs) {x y : Int64} (hdg : decode cc pc = .ok (.land, 1)) (k : VX p l e R s m args below meth c nL D A cells slots Q P (pc + 1) lv (.long (x &&& y) :: st)) : VX p l e R s m args below meth c nL D A cells slots Q P pc lv (.long y :: .long x :: st) :=
  fun ws H locs ls hW hS hD hP hl => lv_land C.1 C.2.1 hdg (k ws H locs ls hW hS hD hP hl)
theorem q_lshr (C : CQ p s m args meth c cc nL D cs) {x : Int64} {y : Int32} (hdg : decode cc pc = .ok (.lshr, 1)) (k : VX p l e R s m args below meth c nL D A cells slots Q P (pc + 1) lv (.long (x >>> (y.toInt64 &&& 63)) :: st)) : VX p l e R s m args below meth c nL D A cells slots Q P pc lv (.int y :: .long x :: st) :=
  fun ws H locs ls hW hS hD hP hl => lv_lshr C.1 C.2.1 hdg rfl (k ws H locs ls hW hS hD hP hl)
theorem q_i2l (C : CQ p s m args meth c cc nL D cs) {x : Int32} (hdg : decode cc pc = .ok (.i2l, 1)) (k : VX p l e R s m args below meth c nL D A cells slots Q P (pc + 1) lv (.long x.toInt64 :: st)) : VX p l e R s m args below meth c nL D A cells slots Q P pc lv (.int x :: st) :=
  fun ws H locs ls hW hS hD hP hl => lv_i2l C.1 C.2.1 hdg rfl (k ws H locs ls hW hS hD hP hl)
theorem q_l2i (C : CQ p s m args meth c cc nL D cs) {x : Int64} (hdg : decode cc pc = .ok (.l2i, 1)) (k : VX p l e R s m args below meth c nL D A cells slots Q P (pc + 1) lv (.int x.toInt32 :: st)) : VX p l e R s m args below meth c nL D A cells slots Q P pc lv (.long x :: st) :=
  fun ws H locs ls hW hS hD hP hl => lv_l2i C.1 C.2.1 hdg rfl (k ws H locs ls hW hS hD hP hl)
theorem q_i2c (C : CQ p s m args meth c cc nL D cs) {x : Int32} (hdg : decode cc pc = .ok (.i2c, 1)) (k : VX p l e R s m args below meth c nL D A cells slots Q P (pc + 1) lv (.int ((x.toUInt32 % 65536).toInt32) :: st)) : VX p l e R s m args below meth c nL D A cells slots Q P pc lv (.int x :: st) :=
  fun ws H locs ls hW hS hD hP hl => lv_i2c C.1 C.2.1 hdg rfl (k ws H locs ls hW hS hD hP hl)
theorem q_lcmp_eq (C : CQ p s m args meth c cc nL D cs) {x : Int64} (hdg : decode cc pc = .ok (.lcmp, 1)) (k : VX p l e R s m args below meth c nL D A cells slots Q P (pc + 1) lv (.int 0 :: st)) : VX p l e R s m args below meth c nL D A cells slots Q P pc lv (.long x :: .long x :: st) := by
  intro ws H locs ls hW hS hD hP hl
  have h0 : lg_cmp x x = 0 := by simp [lg_cmp]
  refine W.lcmp C.1 C.2.1 hdg ?_
  rw [h0]
  exact k ws H locs ls hW hS hD hP hl
theorem q_iadd_v (C : CQ p s m args meth c cc nL D cs) {x y v : Int32} (hdg : decode cc pc = .ok (.iadd, 1)) (hv : x + y = v) (k : VX p l e R s m args below meth c nL D A cells slots Q P (pc + 1) lv (.int v :: st)) : VX p l e R s m args below meth c nL D A cells slots Q P pc lv (.int y :: .int x :: st) :=
  fun ws H locs ls hW hS hD hP hl => by subst hv; exact lv_iadd C.1 C.2.1 hdg (k ws H locs ls hW hS hD hP hl)
theorem q_imul_v (C : CQ p s m args meth c cc nL D cs) {x y v : Int32} (hdg : decode cc pc = .ok (.imul, 1)) (hv : x * y = v) (k : VX p l e R s m args below meth c nL D A cells slots Q P (pc + 1) lv (.int v :: st)) : VX p l e R s m args below meth c nL D A cells slots Q P pc lv (.int y :: .int x :: st) :=
  fun ws H locs ls hW hS hD hP hl => by subst hv; exact lv_imul C.1 C.2.1 hdg (k ws H locs ls hW hS hD hP hl)
theorem q_isub_v (C : CQ p s m args meth c cc nL D cs) {x y v : Int32} (hdg : decode cc pc = .ok (.isub, 1)) (hv : x - y = v) (k : VX p l e R s m args below meth c nL D A cells slots Q P (pc + 1) lv (.int v :: st)) : VX p l e R s m args below meth c nL D A cells slots Q P pc lv (.int y :: .int x :: st) :=
  fun ws H locs ls hW hS hD hP hl => by subst hv; exact lv_isub C.1 C.2.1 hdg (k ws H locs ls hW hS hD hP hl)
theorem q_irem_v (C : CQ p s m args meth c cc nL D cs) {x y v : Int32} (hdg : decode cc pc = .ok (.irem, 1)) (hne : ¬ y = 0) (hv : x - x / y * y = v) (k : VX p l e R s m args below meth c nL D A cells slots Q P (pc + 1) lv (.int v :: st)) : VX p l e R s m args below meth c nL D A cells slots Q P pc lv (.int y :: .int x :: st) :=
  fun ws H locs ls hW hS hD hP hl => by subst hv; exact lv_irem C.1 C.2.1 hdg hne (k ws H locs ls hW hS hD hP hl)
theorem q_icmp_eq_t (C : CQ p s m args meth c cc nL D cs) {x y : Int32} {off : Int} (tgt : Nat) (hdg : decode cc pc = .ok (.if_icmp .eq off, 3)) (ht : (pc : Int) + off = (tgt : Int)) (h : x = y) (k : VX p l e R s m args below meth c nL D A cells slots Q P tgt lv st) : VX p l e R s m args below meth c nL D A cells slots Q P pc lv (.int y :: .int x :: st) := q_icmp_eq C hdg ht (fun _ => k) (fun q => absurd h q)
theorem q_icmp_eq_f (C : CQ p s m args meth c cc nL D cs) {x y : Int32} {off : Int} (tgt : Nat) (hdg : decode cc pc = .ok (.if_icmp .eq off, 3)) (ht : (pc : Int) + off = (tgt : Int)) (h : ¬ (x = y)) (k : VX p l e R s m args below meth c nL D A cells slots Q P (pc + 3) lv st) : VX p l e R s m args below meth c nL D A cells slots Q P pc lv (.int y :: .int x :: st) := q_icmp_eq C hdg ht (fun q => absurd q h) (fun _ => k)
theorem q_if_eq_t (C : CQ p s m args meth c cc nL D cs) {x : Int32} {off : Int} (tgt : Nat) (hdg : decode cc pc = .ok (.ifCond .eq off, 3)) (ht : (pc : Int) + off = (tgt : Int)) (h : x = (0 : Int32)) (k : VX p l e R s m args below meth c nL D A cells slots Q P tgt lv st) : VX p l e R s m args below meth c nL D A cells slots Q P pc lv (.int x :: st) := q_if_eq C hdg ht (fun _ => k) (fun q => absurd h q)
theorem q_if_eq_f (C : CQ p s m args meth c cc nL D cs) {x : Int32} {off : Int} (tgt : Nat) (hdg : decode cc pc = .ok (.ifCond .eq off, 3)) (ht : (pc : Int) + off = (tgt : Int)) (h : ¬ (x = (0 : Int32))) (k : VX p l e R s m args below meth c nL D A cells slots Q P (pc + 3) lv st) : VX p l e R s m args below meth c nL D A cells slots Q P pc lv (.int x :: st) := q_if_eq C hdg ht (fun q => absurd q h) (fun _ => k)
theorem q_icmp_ne_t (C : CQ p s m args meth c cc nL D cs) {x y : Int32} {off : Int} (tgt : Nat) (hdg : decode cc pc = .ok (.if_icmp .ne off, 3)) (ht : (pc : Int) + off = (tgt : Int)) (h : ¬ (x = y)) (k : VX p l e R s m args below meth c nL D A cells slots Q P tgt lv st) : VX p l e R s m args below meth c nL D A cells slots Q P pc lv (.int y :: .int x :: st) := q_icmp_ne C hdg ht (fun q => absurd q h) (fun _ => k)
theorem q_icmp_ne_f (C : CQ p s m args meth c cc nL D cs) {x y : Int32} {off : Int} (tgt : Nat) (hdg : decode cc pc = .ok (.if_icmp .ne off, 3)) (ht : (pc : Int) + off = (tgt : Int)) (h : x = y) (k : VX p l e R s m args below meth c nL D A cells slots Q P (pc + 3) lv st) : VX p l e R s m args below meth c nL D A cells slots Q P pc lv (.int y :: .int x :: st) := q_icmp_ne C hdg ht (fun _ => k) (fun q => absurd h q)
theorem q_if_ne_t (C : CQ p s m args meth c cc nL D cs) {x : Int32} {off : Int} (tgt : Nat) (hdg : decode cc pc = .ok (.ifCond .ne off, 3)) (ht : (pc : Int) + off = (tgt : Int)) (h : ¬ (x = (0 : Int32))) (k : VX p l e R s m args below meth c nL D A cells slots Q P tgt lv st) : VX p l e R s m args below meth c nL D A cells slots Q P pc lv (.int x :: st) := q_if_ne C hdg ht (fun q => absurd q h) (fun _ => k)
theorem q_if_ne_f (C : CQ p s m args meth c cc nL D cs) {x : Int32} {off : Int} (tgt : Nat) (hdg : decode cc pc = .ok (.ifCond .ne off, 3)) (ht : (pc : Int) + off = (tgt : Int)) (h : x = (0 : Int32)) (k : VX p l e R s m args below meth c nL D A cells slots Q P (pc + 3) lv st) : VX p l e R s m args below meth c nL D A cells slots Q P pc lv (.int x :: st) := q_if_ne C hdg ht (fun _ => k) (fun q => absurd h q)
theorem q_icmp_lt_t (C : CQ p s m args meth c cc nL D cs) {x y : Int32} {off : Int} (tgt : Nat) (hdg : decode cc pc = .ok (.if_icmp .lt off, 3)) (ht : (pc : Int) + off = (tgt : Int)) (h : x < y) (k : VX p l e R s m args below meth c nL D A cells slots Q P tgt lv st) : VX p l e R s m args below meth c nL D A cells slots Q P pc lv (.int y :: .int x :: st) := q_icmp_lt C hdg ht (fun _ => k) (fun q => absurd h q)
theorem q_icmp_lt_f (C : CQ p s m args meth c cc nL D cs) {x y : Int32} {off : Int} (tgt : Nat) (hdg : decode cc pc = .ok (.if_icmp .lt off, 3)) (ht : (pc : Int) + off = (tgt : Int)) (h : ¬ (x < y)) (k : VX p l e R s m args below meth c nL D A cells slots Q P (pc + 3) lv st) : VX p l e R s m args below meth c nL D A cells slots Q P pc lv (.int y :: .int x :: st) := q_icmp_lt C hdg ht (fun q => absurd q h) (fun _ => k)
theorem q_if_lt_t (C : CQ p s m args meth c cc nL D cs) {x : Int32} {off : Int} (tgt : Nat) (hdg : decode cc pc = .ok (.ifCond .lt off, 3)) (ht : (pc : Int) + off = (tgt : Int)) (h : x < (0 : Int32)) (k : VX p l e R s m args below meth c nL D A cells slots Q P tgt lv st) : VX p l e R s m args below meth c nL D A cells slots Q P pc lv (.int x :: st) := q_if_lt C hdg ht (fun _ => k) (fun q => absurd h q)
theorem q_if_lt_f (C : CQ p s m args meth c cc nL D cs) {x : Int32} {off : Int} (tgt : Nat) (hdg : decode cc pc = .ok (.ifCond .lt off, 3)) (ht : (pc : Int) + off = (tgt : Int)) (h : ¬ (x < (0 : Int32))) (k : VX p l e R s m args below meth c nL D A cells slots Q P (pc + 3) lv st) : VX p l e R s m args below meth c nL D A cells slots Q P pc lv (.int x :: st) := q_if_lt C hdg ht (fun q => absurd q h) (fun _ => k)
theorem q_icmp_ge_t (C : CQ p s m args meth c cc nL D cs) {x y : Int32} {off : Int} (tgt : Nat) (hdg : decode cc pc = .ok (.if_icmp .ge off, 3)) (ht : (pc : Int) + off = (tgt : Int)) (h : y ≤ x) (k : VX p l e R s m args below meth c nL D A cells slots Q P tgt lv st) : VX p l e R s m args below meth c nL D A cells slots Q P pc lv (.int y :: .int x :: st) := q_icmp_ge C hdg ht (fun _ => k) (fun q => absurd h q)
theorem q_icmp_ge_f (C : CQ p s m args meth c cc nL D cs) {x y : Int32} {off : Int} (tgt : Nat) (hdg : decode cc pc = .ok (.if_icmp .ge off, 3)) (ht : (pc : Int) + off = (tgt : Int)) (h : ¬ (y ≤ x)) (k : VX p l e R s m args below meth c nL D A cells slots Q P (pc + 3) lv st) : VX p l e R s m args below meth c nL D A cells slots Q P pc lv (.int y :: .int x :: st) := q_icmp_ge C hdg ht (fun q => absurd q h) (fun _ => k)
theorem q_if_ge_t (C : CQ p s m args meth c cc nL D cs) {x : Int32} {off : Int} (tgt : Nat) (hdg : decode cc pc = .ok (.ifCond .ge off, 3)) (ht : (pc : Int) + off = (tgt : Int)) (h : (0 : Int32) ≤ x) (k : VX p l e R s m args below meth c nL D A cells slots Q P tgt lv st) : VX p l e R s m args below meth c nL D A cells slots Q P pc lv (.int x :: st) := q_if_ge C hdg ht (fun _ => k) (fun q => absurd h q)
theorem q_if_ge_f (C : CQ p s m args meth c cc nL D cs) {x : Int32} {off : Int} (tgt : Nat) (hdg : decode cc pc = .ok (.ifCond .ge off, 3)) (ht : (pc : Int) + off = (tgt : Int)) (h : ¬ ((0 : Int32) ≤ x)) (k : VX p l e R s m args below meth c nL D A cells slots Q P (pc + 3) lv st) : VX p l e R s m args below meth c nL D A cells slots Q P pc lv (.int x :: st) := q_if_ge C hdg ht (fun q => absurd q h) (fun _ => k)
theorem q_icmp_gt_t (C : CQ p s m args meth c cc nL D cs) {x y : Int32} {off : Int} (tgt : Nat) (hdg : decode cc pc = .ok (.if_icmp .gt off, 3)) (ht : (pc : Int) + off = (tgt : Int)) (h : y < x) (k : VX p l e R s m args below meth c nL D A cells slots Q P tgt lv st) : VX p l e R s m args below meth c nL D A cells slots Q P pc lv (.int y :: .int x :: st) := q_icmp_gt C hdg ht (fun _ => k) (fun q => absurd h q)
theorem q_icmp_gt_f (C : CQ p s m args meth c cc nL D cs) {x y : Int32} {off : Int} (tgt : Nat) (hdg : decode cc pc = .ok (.if_icmp .gt off, 3)) (ht : (pc : Int) + off = (tgt : Int)) (h : ¬ (y < x)) (k : VX p l e R s m args below meth c nL D A cells slots Q P (pc + 3) lv st) : VX p l e R s m args below meth c nL D A cells slots Q P pc lv (.int y :: .int x :: st) := q_icmp_gt C hdg ht (fun q => absurd q h) (fun _ => k)
theorem q_if_gt_t (C : CQ p s m args meth c cc nL D cs) {x : Int32} {off : Int} (tgt : Nat) (hdg : decode cc pc = .ok (.ifCond .gt off, 3)) (ht : (pc : Int) + off = (tgt : Int)) (h : (0 : Int32) < x) (k : VX p l e R s m args below meth c nL D A cells slots Q P tgt lv st) : VX p l e R s m args below meth c nL D A cells slots Q P pc lv (.int x :: st) := q_if_gt C hdg ht (fun _ => k) (fun q => absurd h q)
theorem q_if_gt_f (C : CQ p s m args meth c cc nL D cs) {x : Int32} {off : Int} (tgt : Nat) (hdg : decode cc pc = .ok (.ifCond .gt off, 3)) (ht : (pc : Int) + off = (tgt : Int)) (h : ¬ ((0 : Int32) < x)) (k : VX p l e R s m args below meth c nL D A cells slots Q P (pc + 3) lv st) : VX p l e R s m args below meth c nL D A cells slots Q P pc lv (.int x :: st) := q_if_gt C hdg ht (fun q => absurd q h) (fun _ => k)
theorem q_icmp_le_t (C : CQ p s m args meth c cc nL D cs) {x y : Int32} {off : Int} (tgt : Nat) (hdg : decode cc pc = .ok (.if_icmp .le off, 3)) (ht : (pc : Int) + off = (tgt : Int)) (h : x ≤ y) (k : VX p l e R s m args below meth c nL D A cells slots Q P tgt lv st) : VX p l e R s m args below meth c nL D A cells slots Q P pc lv (.int y :: .int x :: st) := q_icmp_le C hdg ht (fun _ => k) (fun q => absurd h q)
theorem q_icmp_le_f (C : CQ p s m args meth c cc nL D cs) {x y : Int32} {off : Int} (tgt : Nat) (hdg : decode cc pc = .ok (.if_icmp .le off, 3)) (ht : (pc : Int) + off = (tgt : Int)) (h : ¬ (x ≤ y)) (k : VX p l e R s m args below meth c nL D A cells slots Q P (pc + 3) lv st) : VX p l e R s m args below meth c nL D A cells slots Q P pc lv (.int y :: .int x :: st) := q_icmp_le C hdg ht (fun q => absurd q h) (fun _ => k)
theorem q_if_le_t (C : CQ p s m args meth c cc nL D cs) {x : Int32} {off : Int} (tgt : Nat) (hdg : decode cc pc = .ok (.ifCond .le off, 3)) (ht : (pc : Int) + off = (tgt : Int)) (h : x ≤ (0 : Int32)) (k : VX p l e R s m args below meth c nL D A cells slots Q P tgt lv st) : VX p l e R s m args below meth c nL D A cells slots Q P pc lv (.int x :: st) := q_if_le C hdg ht (fun _ => k) (fun q => absurd h q)
theorem q_if_le_f (C : CQ p s m args meth c cc nL D cs) {x : Int32} {off : Int} (tgt : Nat) (hdg : decode cc pc = .ok (.ifCond .le off, 3)) (ht : (pc : Int) + off = (tgt : Int)) (h : ¬ (x ≤ (0 : Int32))) (k : VX p l e R s m args below meth c nL D A cells slots Q P (pc + 3) lv st) : VX p l e R s m args below meth c nL D A cells slots Q P pc lv (.int x :: st) := q_if_le C hdg ht (fun q => absurd q h) (fun _ => k)
theorem q_weak (ks : List Nat) (hl : lv_pick lv ks = lv') (k : VX p l e R s m args below meth c nL D A cells slots Q P pc lv' st) : VX p l e R s m args below meth c nL D A cells slots Q P pc lv st :=
  fun ws H locs ls hW hS hD hP h => k ws H locs ls hW hS hD hP (lv_sub h ks hl)
theorem q_widen {c2 s2 : Nat} (h1 : cells ≤ c2) (h2 : slots ≤ s2) (k : VX p l e R s m args below meth c nL D A c2 s2 Q P pc lv st) : VX p l e R s m args below meth c nL D A cells slots Q P pc lv st :=
  fun ws H locs ls hW hS hD hP h => W.widen h1 h2 (k ws H locs ls hW hS hD hP h)
theorem q_imp {P2 : va_W → Prop} (hi : ∀ ws, P ws → P2 ws) (k : VX p l e R s m args below meth c nL D A cells slots Q P2 pc lv st) : VX p l e R s m args below meth c nL D A cells slots Q P pc lv st :=
  fun ws H locs ls hW hS hD hP h => k ws H locs ls (hi ws hW) hS hD hP h
theorem q_any (k : VX p l e R s m args below meth c nL D A cells slots Q (fun ws => ws = []) pc lv st) : VX p l e R s m args below meth c nL D A cells slots Q P pc lv st :=
  fun ws H locs ls hW hS hD hP h => k [] H locs ls rfl hS ⟨fun i j p q h => by simp at h, fun k q h => by simp at h⟩ (fun k q h => by simp at h) h
theorem D_fst {w1 w2 : va_W} (h : va_D A w1) (e : w2.map (fun q => q.1) = w1.map (fun q => q.1)) : va_D A w2 := by
  have key : ∀ (k : Nat) (q : Nat × va_E), w2[k]? = some q → ∃ q', w1[k]? = some q' ∧ q'.1 = q.1 := by
    intro k q hk
    have h1 : (w2.map (fun q => q.1))[k]? = some q.1 := by rw [List.getElem?_map, hk]; rfl
    rw [e, List.getElem?_map] at h1
    cases hq : w1[k]? with
    | none => rw [hq] at h1; cases h1
    | some q' =>
      rw [hq] at h1
      exact ⟨q', rfl, Option.some.inj h1⟩
  refine ⟨fun i j p q hi hj hpq => ?_, fun k q hk => ?_⟩
  · obtain ⟨p', a1, a2⟩ := key i p hi
    obtain ⟨q', b1, b2⟩ := key j q hj
    exact h.1 i j p' q' a1 b1 (by rw [a2, b2]; exact hpq)
  · obtain ⟨q', a1, a2⟩ := key k q hk
    rw [← a2]
    exact h.2 k q' a1
theorem wd_fst {ad : Nat → Nat} {M : Mem} : (wd cs ad M).map (fun q => q.1) = (List.range 255).map ad := by
  unfold wd
  rw [List.map_map]
  rfl
theorem D_wd {ad : Nat → Nat} {M M' : Mem} {wr : va_W} (h : va_D A (wd cs ad M ++ wr)) : va_D A (wd cs ad M' ++ wr) := D_fst h (by rw [List.map_append, List.map_append, wd_fst, wd_fst])
theorem P_wd {ad : Nat → Nat} {M : Mem} {wr : va_W} {H : Heap} (h : va_P D vwCl (wd cs ad M ++ wr) H) : va_P D vwCl (wd cs ad M) H := fun k q hk => h k q (by
  rw [List.getElem?_append_left (List.getElem?_eq_some_iff.mp hk).1]
  exact hk)
theorem P_wr {ad : Nat → Nat} {M : Mem} {wr : va_W} {H : Heap} (h : va_P D vwCl (wd cs ad M ++ wr) H) : va_P D vwCl wr H := fun k q hk => h (255 + k) q (by
  rw [List.getElem?_append_right (by rw [wd_len]; omega), wd_len, Nat.add_sub_cancel_left]
  exact hk)
theorem I_wd {ad : Nat → Nat} {M : Mem} {wr : va_W} (h : va_D A (wd cs ad M ++ wr)) : Inj ad := fun i j hi hj e => h.1 i j _ _ (by rw [List.getElem?_append_left (by rw [wd_len]; exact hi)]; exact wd_at hi) (by rw [List.getElem?_append_left (by rw [wd_len]; exact hj)]; exact wd_at hj) e
theorem A_wd {ad : Nat → Nat} {M : Mem} {wr : va_W} (h : va_D A (wd cs ad M ++ wr)) : ∀ q, AD ad q → A q := by
  rintro q ⟨i, hi, rfl⟩
  exact h.2 i (ad i, _) (by rw [List.getElem?_append_left (by rw [wd_len]; exact hi)]; exact wd_at hi)
theorem N_wr {ad : Nat → Nat} {M : Mem} {wr : va_W} (h : va_D A (wd cs ad M ++ wr)) {k : Nat} {q : Nat × va_E} (hk : wr[k]? = some q) : ¬ AD ad q.1 := by
  rintro ⟨i, hi, e⟩
  have h1 := h.1 i (255 + k) (ad i, _) q (by rw [List.getElem?_append_left (by rw [wd_len]; exact hi)]; exact wd_at hi) (by
    rw [List.getElem?_append_right (by rw [wd_len]; omega), wd_len, Nat.add_sub_cancel_left]
    exact hk) e.symm
  omega
/-- behind a call on the object: what stood beside it stands there still -/
theorem P_back {ad : Nat → Nat} {M M' : Mem} {wr : va_W} {H H1 : Heap} (hP : va_P D vwCl (wd cs ad M ++ wr) H) (hD : va_D A (wd cs ad M ++ wr)) (hP1 : va_P D vwCl (wd cs ad M') H1) (hk1 : ∀ q : Nat, q < H.size → ¬ AD ad q → H1[q]? = H[q]?) : va_P D vwCl (wd cs ad M' ++ wr) H1 :=
  hP1.app ((P_wr hP).kept (fun k q hk => hk1 q.1 ((P_wr hP) k q hk).lt (N_wr hD hk)))
/-- a contract of the class, over the ghost -/
def CgI (y : MethodName) (ws : List Cond) (fr : Nat) (av : (Nat → Nat) → List Value) (g : Gh) (r : Int32) (g' : Gh) : Prop := ∀ M, CG M g → ∃ M', CnI y ws fr av M r M' ∧ CG M' g'
theorem q_callV (C : CQ p s m args meth c cc nL D cs) {ad : Nat → Nat} {g g' : Gh} {wr : va_W} {y : MethodName} {ws1 ws2 : List Cond} {bytes : ByteArray} {maxL fr n index : Nat} {ret : Option FieldType} {av : (Nat → Nat) → List Value} {As rest : List Value} {r : Int32} (hM : CgI y ws1 fr av g r g') (hG : GoodIn lw_g (wsV RL index RX7 y ws1)) (hw : ws1 = Cond.code y bytes maxL ret :: ws2) (hd : y.cls = RX7 ∧ y.cls ≠ "java/lang/invoke/MethodHandle" ∧ y.cls ≠ "java/lang/invoke/VarHandle" ∧ (parseMethodDescriptor y.desc).map (fun d => d.parameters.length) = some n) (hR : fr + 1 ≤ R.frames ∧ 8 + (maxL + 11) + 36 * fr ≤ R.locals)
    (hcs : cells ≤ R.cells ∧ slots ≤ R.slots) (hav : av ad = .ref (ad 0) :: As) (hn : As.length = n) (hst : st = As.reverse ++ .ref (ad 0) :: rest) (hW : (rest.map fun v => v.category).sum ≤ 8) (hdg : decode cc pc = .ok (.invokevirtual index, 3)) (kk : VX p l e R s m args below meth c nL D A cells slots Q (gW cs ad g' wr) (pc + 3) lv (.int r :: rest)) : VX p l e R s m args below meth c nL D A cells slots Q (gW cs ad g wr) pc lv st := by
  rintro ws H locs ls ⟨M, hC, rfl⟩ hS hD hP hl
  subst hst
  obtain ⟨M', hM1, hC'⟩ := hM M hC
  obtain ⟨hx, hbb, hml, hown, hts, hK, -⟩ := C
  have hP0 := P_wd hP
  have hI := I_wd hD
  have hF := A_wd hD
  have hM2 := hM1 l D cs ad
  rw [hav] at hM2
  refine va_calli (va_runV (nL := nL) (As := As) (rest := rest) ⟨hx, hbb, hml, hown, hts⟩ hM2 (cwV n hts hG hw rfl rfl hd hR) ⟨Wd_blind, va_recv hK hP0 (ci := 7) (q0 := 0) (q := (RX7, TX7, 7)) rfl (wd_obj (t := 7) rfl (by decide)), fun U hU hW => ⟨rfl, by rw [hU]; exact hP0, va_K.moved hW.alike hK, hI⟩⟩ rfl hn hl.1 rfl (lv_room hW) hdg hcs) hS (fun q _ h => hF q h) hF (fun r0 u t H1 locs1 ht hvm hw1 hB hz1 hk1 hS1 => ?_)
  obtain ⟨hP1, -, -⟩ := hB
  rw [ht] at hP1
  rw [hw1]
  exact kk _ H1 locs1 ls ⟨M', hC', rfl⟩ hS1 (D_wd hD) (P_back hP hD hP1 hk1) hl
/-- a contract of the law's own, on the object: it answers an int, a long -/
def CmI (y : MethodName) (ws : List Cond) (fr : Nat) (av : (Nat → Nat) → List Value) (g : Gh) (r : Int32) (g' : Gh) : Prop :=
  ∀ (l : Launch) (D : va_G) (cs : Nat → ClassId) (ad : Nat → Nat) (M : Mem), CG M g → Met l y ws (rmk fr) (va_Pc (av ad) (fun U => Wd D cs ad M U)) (va_Qi (fun (r0 : Int32) (_ : Unit) => r0 = r) (fun _ t => ∃ M', CG M' g' ∧ Wd D cs ad M' t) (AD ad)) 0 0 (AD ad)
def CmL (y : MethodName) (ws : List Cond) (fr : Nat) (av : (Nat → Nat) → List Value) (g : Gh) (r : Int64) (g' : Gh) : Prop :=
  ∀ (l : Launch) (D : va_G) (cs : Nat → ClassId) (ad : Nat → Nat) (M : Mem), CG M g → Met l y ws (rmk fr) (va_Pc (av ad) (fun U => Wd D cs ad M U)) (va_Ql (fun (r0 : Int64) (_ : Unit) => r0 = r) (fun _ t => ∃ M', CG M' g' ∧ Wd D cs ad M' t) (AD ad)) 0 0 (AD ad)

theorem q_callSI (C : CQ p s m args meth c cc nL D cs) {ad : Nat → Nat} {g g' : Gh} {wr : va_W} {y : MethodName} {ws1 ws2 : List Cond} {bytes : ByteArray} {maxL fr n index : Nat} {ret : Option FieldType} {av : (Nat → Nat) → List Value} {As rest : List Value} {r : Int32} (hM : CmI y ws1 fr av g r g') (hG : GoodIn lw_g (va_wsS RL index y ws1)) (hw : ws1 = Cond.code y bytes maxL ret :: ws2) (hd : y.cls ≠ "java/lang/invoke/MethodHandle" ∧ y.cls ≠ "java/lang/invoke/VarHandle" ∧ (parseMethodDescriptor y.desc).map (fun d => d.parameters.length) = some n) (hR : fr + 1 ≤ R.frames ∧ 8 + (maxL + 11) + 36 * fr ≤ R.locals)
    (hcs : cells ≤ R.cells ∧ slots ≤ R.slots) (hav : av ad = As) (hn : As.length = n) (hst : st = As.reverse ++ rest) (hW : (rest.map fun v => v.category).sum ≤ 8) (hdg : decode cc pc = .ok (.invokestatic index, 3)) (kk : VX p l e R s m args below meth c nL D A cells slots Q (gW cs ad g' wr) (pc + 3) lv (.int r :: rest)) : VX p l e R s m args below meth c nL D A cells slots Q (gW cs ad g wr) pc lv st := by
  rintro ws H locs ls ⟨M, hC, rfl⟩ hS hD hP hl
  subst hst
  obtain ⟨hx, hbb, hml, hown, hts, hK, -⟩ := C
  have hP0 := P_wd hP
  have hI := I_wd hD
  have hF := A_wd hD
  have hM2 := hM l D cs ad M hC
  rw [hav] at hM2
  refine va_calli (va_runS (nL := nL) (As := As) (rest := rest) ⟨hx, hbb, hml, hown, hts⟩ hM2 (x_cbS hts hG hw hd hR) ⟨Wd_blind, fun U hU hW => ⟨rfl, by rw [hU]; exact hP0, va_K.moved hW.alike hK, hI⟩⟩ rfl hn hl.1 rfl (lv_room hW) hdg hcs) hS (fun q _ h => hF q h) hF (fun r0 u t H1 locs1 ht hvm hw1 hB hz1 hk1 hS1 => ?_)
  obtain ⟨M', hC', hP1, -, -⟩ := hB
  rw [ht] at hP1
  rw [hw1]
  exact kk _ H1 locs1 ls ⟨M', hC', rfl⟩ hS1 (D_wd hD) (P_back hP hD hP1 hk1) hl
theorem q_callSL (C : CQ p s m args meth c cc nL D cs) {ad : Nat → Nat} {g g' : Gh} {wr : va_W} {y : MethodName} {ws1 ws2 : List Cond} {bytes : ByteArray} {maxL fr n index : Nat} {ret : Option FieldType} {av : (Nat → Nat) → List Value} {As rest : List Value} {r : Int64} (hM : CmL y ws1 fr av g r g') (hG : GoodIn lw_g (va_wsS RL index y ws1)) (hw : ws1 = Cond.code y bytes maxL ret :: ws2) (hd : y.cls ≠ "java/lang/invoke/MethodHandle" ∧ y.cls ≠ "java/lang/invoke/VarHandle" ∧ (parseMethodDescriptor y.desc).map (fun d => d.parameters.length) = some n) (hR : fr + 1 ≤ R.frames ∧ 8 + (maxL + 11) + 36 * fr ≤ R.locals)
    (hcs : cells ≤ R.cells ∧ slots ≤ R.slots) (hav : av ad = As) (hn : As.length = n) (hst : st = As.reverse ++ rest) (hW : (rest.map fun v => v.category).sum ≤ 8) (hdg : decode cc pc = .ok (.invokestatic index, 3)) (kk : VX p l e R s m args below meth c nL D A cells slots Q (gW cs ad g' wr) (pc + 3) lv (.long r :: rest)) : VX p l e R s m args below meth c nL D A cells slots Q (gW cs ad g wr) pc lv st := by
  rintro ws H locs ls ⟨M, hC, rfl⟩ hS hD hP hl
  subst hst
  obtain ⟨hx, hbb, hml, hown, hts, hK, -⟩ := C
  have hP0 := P_wd hP
  have hI := I_wd hD
  have hF := A_wd hD
  have hM2 := hM l D cs ad M hC
  rw [hav] at hM2
  refine va_calll (va_runS (nL := nL) (As := As) (rest := rest) ⟨hx, hbb, hml, hown, hts⟩ hM2 (x_cbS hts hG hw hd hR) ⟨Wd_blind, fun U hU hW => ⟨rfl, by rw [hU]; exact hP0, va_K.moved hW.alike hK, hI⟩⟩ rfl hn hl.1 rfl (lv_room hW) hdg hcs) hS (fun q _ h => hF q h) hF (fun r0 u t H1 locs1 ht hvm hw1 hB hz1 hk1 hS1 => ?_)
  obtain ⟨M', hC', hP1, -, -⟩ := hB
  rw [ht] at hP1
  rw [hw1]
  exact kk _ H1 locs1 ls ⟨M', hC', rfl⟩ hS1 (D_wd hD) (P_back hP hD hP1 hk1) hl
theorem q_iret (C : CQ p s m args meth c cc nL D cs) {ad : Nat → Nat} {g : Gh} {r : Int32} {ty : FieldType} (hr : meth.sig.returnType = some ty) (hv : narrow ty (.int r) = .int r) (hI : Inj ad) (hdg : decode cc pc = .ok (.ireturn, 1)) : VX p l e R s m args below meth c nL D (AD ad) 0 0 (MQ below (va_Qi (fun (r0 : Int32) (_ : Unit) => r0 = r) (fun _ t => ∃ M', CG M' g ∧ Wd D cs ad M' t) (AD ad)) args s 0 0 (AD ad)) (gW cs ad g []) pc lv [.int r] := by
  rintro ws H locs ls ⟨M, hC, rfl⟩ hS hD hP hl
  have hlk := C.2.2.2.2.2.2
  exact W.zret C.1 C.2.1 hr hv (fun t ht hW => ⟨⟨_, (), rfl, rfl, M, hC, by rw [ht]; exact P_wd hP, va_K.moved hW.alike C.2.2.2.2.2.1, hI⟩, hS.F ht⟩) hS.2.2 hdg hlk
theorem q_lret (C : CQ p s m args meth c cc nL D cs) {ad : Nat → Nat} {g : Gh} {r : Int64} (hr : meth.sig.returnType = some .long) (hI : Inj ad) (hdg : decode cc pc = .ok (.lreturn, 1)) : VX p l e R s m args below meth c nL D (AD ad) 0 0 (MQ below (va_Ql (fun (r0 : Int64) (_ : Unit) => r0 = r) (fun _ t => ∃ M', CG M' g ∧ Wd D cs ad M' t) (AD ad)) args s 0 0 (AD ad)) (gW cs ad g []) pc lv [.long r] := by
  rintro ws H locs ls ⟨M, hC, rfl⟩ hS hD hP hl
  have hlk := C.2.2.2.2.2.2
  exact W.lret C.1 C.2.1 hr (fun t ht hW => ⟨⟨_, (), rfl, rfl, M, hC, by rw [ht]; exact P_wd hP, va_K.moved hW.alike C.2.2.2.2.2.1, hI⟩, hS.F ht⟩) hS.2.2 hdg hlk
end QR
theorem q_metI {y : MethodName} {ws1 : List Cond} {cc : ByteArray} {maxL fr : Nat} {ret : FieldType} {av : (Nat → Nat) → List Value} {g g' : Gh} {r : Int32} (hcls : y.cls = RL) (hy : plainName y.cls = true) (hw : ws1 = Cond.code y cc maxL (some ret) :: lw_g) (hn : ∀ ad, (lg_sl (av ad)).length ≤ maxL)
    (body : ∀ (p : Program) (l : Launch) (e : Env) (s : State) (m : MethodId) (args : Array Value) (below : List Frame) (meth : Method) (c : Code) (D : va_G) (cs : Nat → ClassId) (ad : Nat → Nat), CQ p s m args meth c cc maxL D cs → meth.sig.returnType = some ret → Inj ad → VX p l e (rmk fr) s m args below meth c maxL D (AD ad) 0 0 (MQ below (va_Qi (fun (r0 : Int32) (_ : Unit) => r0 = r) (fun _ t => ∃ M', CG M' g' ∧ Wd D cs ad M' t) (AD ad)) args s 0 0 (AD ad)) (gW cs ad g []) 0 (lv_args 0 (av ad)) []) : CmI y ws1 fr av g r g' := by
  intro l D cs ad M hC
  refine Met.ofW (cc := cc) (maxL := maxL) (ret := some ret) hy hw ?_
  intro p e s m args below meth c s₁ B hml hv
  obtain ⟨rfl, hP, hK, hI⟩ := hv
  have hts := atoms_spec (ws := ws1) B.pre
  have hown : s.vm.findClass y.cls = some m.cls := findClass_of_methodNamed B.named
  rw [hcls] at hown
  have hlocks := B.notSynchronized
  rw [lg_entry_eq]
  exact body p l e s m _ below meth c D cs ad ⟨B.exec, B.bytes, hml, hown, fun w h => hts w (by rw [hw]; exact List.mem_cons_of_mem _ h), hK, hlocks⟩ B.returns hI _ s.heap [] _ ⟨M, hC, (List.append_nil _).symm⟩ va_S.rf (wd_D hI) hP (lv_entry _ (hn ad))
theorem q_metL {y : MethodName} {ws1 : List Cond} {cc : ByteArray} {maxL fr : Nat} {ret : FieldType} {av : (Nat → Nat) → List Value} {g g' : Gh} {r : Int64} (hcls : y.cls = RL) (hy : plainName y.cls = true) (hw : ws1 = Cond.code y cc maxL (some ret) :: lw_g) (hn : ∀ ad, (lg_sl (av ad)).length ≤ maxL)
    (body : ∀ (p : Program) (l : Launch) (e : Env) (s : State) (m : MethodId) (args : Array Value) (below : List Frame) (meth : Method) (c : Code) (D : va_G) (cs : Nat → ClassId) (ad : Nat → Nat), CQ p s m args meth c cc maxL D cs → meth.sig.returnType = some ret → Inj ad → VX p l e (rmk fr) s m args below meth c maxL D (AD ad) 0 0 (MQ below (va_Ql (fun (r0 : Int64) (_ : Unit) => r0 = r) (fun _ t => ∃ M', CG M' g' ∧ Wd D cs ad M' t) (AD ad)) args s 0 0 (AD ad)) (gW cs ad g []) 0 (lv_args 0 (av ad)) []) : CmL y ws1 fr av g r g' := by
  intro l D cs ad M hC
  refine Met.ofW (cc := cc) (maxL := maxL) (ret := some ret) hy hw ?_
  intro p e s m args below meth c s₁ B hml hv
  obtain ⟨rfl, hP, hK, hI⟩ := hv
  have hts := atoms_spec (ws := ws1) B.pre
  have hown : s.vm.findClass y.cls = some m.cls := findClass_of_methodNamed B.named
  rw [hcls] at hown
  have hlocks := B.notSynchronized
  rw [lg_entry_eq]
  exact body p l e s m _ below meth c D cs ad ⟨B.exec, B.bytes, hml, hown, fun w h => hts w (by rw [hw]; exact List.mem_cons_of_mem _ h), hK, hlocks⟩ B.returns hI _ s.heap [] _ ⟨M, hC, (List.append_nil _).symm⟩ va_S.rf (wd_D hI) hP (lv_entry _ (hn ad))
