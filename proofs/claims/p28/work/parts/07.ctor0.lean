/-! CONSTRUCTORS: a world that grows: n cells, their addresses, what they hold -/
def wl (n : Nat) (ad : Nat → Nat) (ce : Nat → va_E) : va_W := (List.range n).map (fun i => (ad i, ce i))
def fset {α : Type} (f : Nat → α) (i : Nat) (v : α) : Nat → α := fun j => if j = i then v else f j
theorem fset_eq {α : Type} {f : Nat → α} {i : Nat} {v : α} : fset f i v i = v := if_pos rfl
theorem fset_ne {α : Type} {f : Nat → α} {i j : Nat} {v : α} (h : j ≠ i) : fset f i v j = f j := if_neg h
theorem wl_len {n : Nat} {ad : Nat → Nat} {ce : Nat → va_E} : (wl n ad ce).length = n := by simp [wl]
theorem wl_at {n : Nat} {ad : Nat → Nat} {ce : Nat → va_E} {i : Nat} (h : i < n) : (wl n ad ce)[i]? = some (ad i, ce i) := by simp [wl, h]
theorem wl_of {n : Nat} {ad : Nat → Nat} {ce : Nat → va_E} {i : Nat} {q : Nat × va_E} (h : (wl n ad ce)[i]? = some q) : i < n ∧ q = (ad i, ce i) := by
  have h1 : i < n := by
    have := (List.getElem?_eq_some_iff.mp h).1
    rwa [wl_len] at this
  rw [wl_at h1] at h
  cases h
  exact ⟨h1, rfl⟩
theorem wl_set {n : Nat} {ad : Nat → Nat} {ce : Nat → va_E} {i : Nat} {e : va_E} (h : i < n) : (wl n ad ce).set i (ad i, e) = wl n ad (fset ce i e) := by
  refine List.ext_getElem? fun j => ?_
  by_cases hj : j = i
  · subst hj
    rw [List.getElem?_set_self (by rw [wl_len]; exact h), wl_at h, fset_eq]
  · rw [List.getElem?_set_ne (Ne.symm hj)]
    rcases Nat.lt_or_ge j n with h1 | h1
    · rw [wl_at h1, wl_at h1, fset_ne hj]
    · rw [List.getElem?_eq_none (by rw [wl_len]; exact h1), List.getElem?_eq_none (by rw [wl_len]; exact h1)]
theorem wl_push {n : Nat} {ad : Nat → Nat} {ce : Nat → va_E} {q : Nat} {e : va_E} : wl n ad ce ++ [(q, e)] = wl (n + 1) (fset ad n q) (fset ce n e) := by
  refine List.ext_getElem? fun j => ?_
  rcases Nat.lt_or_ge j n with h1 | h1
  · rw [List.getElem?_append_left (by rw [wl_len]; exact h1), wl_at h1, wl_at (by omega), fset_ne (by omega), fset_ne (by omega)]
  · rw [List.getElem?_append_right (by rw [wl_len]; exact h1), wl_len]
    by_cases hj : j = n
    · subst hj
      rw [Nat.sub_self, wl_at (by omega), fset_eq, fset_eq]
      rfl
    · rw [List.getElem?_eq_none (by simp only [List.length_cons, List.length_nil]; omega), List.getElem?_eq_none (by rw [wl_len]; omega)]
def CxC (p : Program) (s : State) (m : MethodId) (args : Array Value) (meth : Method) (c : Code) (own : String) (cc : ByteArray) (nL : Nat) (Ts : List Cond) (D : va_G) (cs : Nat → ClassId) (A : Nat → Prop) : Prop :=
  p.tables.exec = Jvm.exec ∧ c.code = cc ∧ c.maxLocals = nL ∧ s.vm.findClass own = some m.cls ∧ (∀ w ∈ Ts, w.before args s = true) ∧ va_K D vwCl (tys cs) s ∧ (∀ q, s.heap.size ≤ q → A q) ∧ meth.locks = false ∧ meth.name = "<init>"
def VC (p : Program) (l : Launch) (e : Env) (R : Room) (s : State) (m : MethodId) (args : Array Value) (below : List Frame) (meth : Method) (c : Code) (nL : Nat) (D : va_G) (A : Nat → Prop) (Q : State → Prop) (cells slots pc : Nat) (lv : List (Option Value)) (st : List Value) (n : Nat) (ad : Nat → Nat) (ce : Nat → va_E) : Prop :=
  ∀ (H : Heap) (locs : List Loc) (ls : Array Slot), va_S A s.heap H locs → va_P D vwCl (wl n ad ce) H → va_D A (wl n ad ce) → lvp ls nL lv → W p l e R s m args below meth c H locs cells slots Q (F0 m pc ls st)
section YR
variable {p : Program} {l : Launch} {e : Env} {R : Room} {s : State} {m : MethodId} {args : Array Value} {below : List Frame} {meth : Method} {c : Code} {nL : Nat} {D : va_G} {cs : Nat → ClassId} {A : Nat → Prop} {Q : State → Prop} {cells slots pc : Nat} {lv lv' : List (Option Value)} {st : List Value} {n : Nat} {ad : Nat → Nat} {ce : Nat → va_E} {own : String} {cc : ByteArray} {Ts : List Cond}
theorem y_iconst (C : CxC p s m args meth c own cc nL Ts D cs A) {z : Int} {v : Int32} (hdg : decode cc pc = .ok (.iconst z, 1)) (hv : Int32.ofInt z = v) (k : VC p l e R s m args below meth c nL D A Q cells slots (pc + 1) lv (.int v :: st) n ad ce) : VC p l e R s m args below meth c nL D A Q cells slots pc lv st n ad ce :=
  fun H locs ls hS hP hD hl => lv_iconst C.1 C.2.1 hdg hv (k H locs ls hS hP hD hl)
theorem y_bipush (C : CxC p s m args meth c own cc nL Ts D cs A) {z : Int} {v : Int32} (hdg : decode cc pc = .ok (.bipush z, 2)) (hv : (Int8.ofInt z).toInt32 = v) (k : VC p l e R s m args below meth c nL D A Q cells slots (pc + 2) lv (.int v :: st) n ad ce) : VC p l e R s m args below meth c nL D A Q cells slots pc lv st n ad ce :=
  fun H locs ls hS hP hD hl => lv_bipush C.1 C.2.1 hdg hv (k H locs ls hS hP hD hl)
theorem y_sipush (C : CxC p s m args meth c own cc nL Ts D cs A) {z : Int} {v : Int32} (hdg : decode cc pc = .ok (.sipush z, 3)) (hv : (Int16.ofInt z).toInt32 = v) (k : VC p l e R s m args below meth c nL D A Q cells slots (pc + 3) lv (.int v :: st) n ad ce) : VC p l e R s m args below meth c nL D A Q cells slots pc lv st n ad ce :=
  fun H locs ls hS hP hD hl => lv_sipush C.1 C.2.1 hdg hv (k H locs ls hS hP hD hl)
theorem y_iload_n (C : CxC p s m args meth c own cc nL Ts D cs A) {k : Fin 4} {i : Nat} {x : Int32} (hdg : decode cc pc = .ok (.iload_n k, 1)) (hi : (k : Nat) = i) (hx : lv[i]? = some (some (.int x))) (kk : VC p l e R s m args below meth c nL D A Q cells slots (pc + 1) lv (.int x :: st) n ad ce) : VC p l e R s m args below meth c nL D A Q cells slots pc lv st n ad ce :=
  fun H locs ls hS hP hD hl => lv_iload_n C.1 C.2.1 hdg hi (hl.2.2 _ _ hx).1 (kk H locs ls hS hP hD hl)
theorem y_aload_n (C : CxC p s m args meth c own cc nL Ts D cs A) {k : Fin 4} {i x : Nat} (hdg : decode cc pc = .ok (.aload_n k, 1)) (hi : (k : Nat) = i) (hx : lv[i]? = some (some (.ref x))) (kk : VC p l e R s m args below meth c nL D A Q cells slots (pc + 1) lv (.ref x :: st) n ad ce) : VC p l e R s m args below meth c nL D A Q cells slots pc lv st n ad ce :=
  fun H locs ls hS hP hD hl => lv_aload_n C.1 C.2.1 hdg hi (hl.2.2 _ _ hx).1 (kk H locs ls hS hP hD hl)
theorem y_istore_n (C : CxC p s m args meth c own cc nL Ts D cs A) {k : Fin 4} {i : Nat} {x : Int32} (hdg : decode cc pc = .ok (.istore_n k, 1)) (hi : (k : Nat) = i) (hn : i < nL) (hl : lv.set i (some (.int x)) = lv') (kk : VC p l e R s m args below meth c nL D A Q cells slots (pc + 1) lv' st n ad ce) : VC p l e R s m args below meth c nL D A Q cells slots pc lv (.int x :: st) n ad ce :=
  fun H locs ls hS hP hD h => lv_istore_n C.1 C.2.1 hdg hi (lvp_has h) hn rfl (fun ls' h' => kk H locs ls' hS hP hD (lvp_set h rfl hl h'))
theorem y_iinc (C : CxC p s m args meth c own cc nL Ts D cs A) {i : Nat} {z : Int} {x v d : Int32} (hdg : decode cc pc = .ok (.iinc i z, 3)) (hx : lv[i]? = some (some (.int x))) (hd : Int32.ofInt z = d) (hv : x + d = v) (hn : i < nL) (hl : lv.set i (some (.int v)) = lv') (kk : VC p l e R s m args below meth c nL D A Q cells slots (pc + 3) lv' st n ad ce) : VC p l e R s m args below meth c nL D A Q cells slots pc lv st n ad ce := by
  intro H locs ls hS hP hD h
  obtain ⟨k, hk⟩ := List.getElem?_of_mem (prs_mem.mpr hx)
  exact lv_iinc C.1 C.2.1 hdg (lvp_has h) hk (by rw [hd]; exact hv) hn rfl (fun ls' h' => kk H locs ls' hS hP hD (lvp_set h rfl hl h'))
theorem y_dup (C : CxC p s m args meth c own cc nL Ts D cs A) {v : Value} (hdg : decode cc pc = .ok (.dup, 1)) (hv : v.category = 1) (k : VC p l e R s m args below meth c nL D A Q cells slots (pc + 1) lv (v :: v :: st) n ad ce) : VC p l e R s m args below meth c nL D A Q cells slots pc lv (v :: st) n ad ce :=
  fun H locs ls hS hP hD hl => lv_dup C.1 C.2.1 hdg hv (k H locs ls hS hP hD hl)
theorem y_goto (C : CxC p s m args meth c own cc nL Ts D cs A) {off : Int} {tgt : Nat} (hdg : decode cc pc = .ok (.goto off, 3)) (ht : (pc : Int) + off = (tgt : Int)) (k : VC p l e R s m args below meth c nL D A Q cells slots tgt lv st n ad ce) : VC p l e R s m args below meth c nL D A Q cells slots pc lv st n ad ce :=
  fun H locs ls hS hP hD hl => lv_goto C.1 C.2.1 hdg ht (k H locs ls hS hP hD hl)
theorem y_icmp_ge (C : CxC p s m args meth c own cc nL Ts D cs A) {x y : Int32} {off : Int} {tgt : Nat} (hdg : decode cc pc = .ok (.if_icmp .ge off, 3)) (ht : (pc : Int) + off = (tgt : Int)) (kt : y ≤ x → VC p l e R s m args below meth c nL D A Q cells slots tgt lv st n ad ce) (kf : ¬ y ≤ x → VC p l e R s m args below meth c nL D A Q cells slots (pc + 3) lv st n ad ce) : VC p l e R s m args below meth c nL D A Q cells slots pc lv (.int y :: .int x :: st) n ad ce :=
  fun H locs ls hS hP hD hl => lv_icmp_ge C.1 C.2.1 hdg ht (fun q => kt q H locs ls hS hP hD hl) (fun q => kf q H locs ls hS hP hD hl)
theorem y_widen {c2 s2 : Nat} (h1 : cells ≤ c2) (h2 : slots ≤ s2) (k : VC p l e R s m args below meth c nL D A Q c2 s2 pc lv st n ad ce) : VC p l e R s m args below meth c nL D A Q cells slots pc lv st n ad ce :=
  fun H locs ls hS hP hD hl => W.widen h1 h2 (k H locs ls hS hP hD hl)
/-- Object's constructor -/
theorem y_obj (C : CxC p s m args meth c own cc nL Ts D cs A) {idx a : Nat} (hlink : Cond.methodLink own idx objectInit ∈ Ts) (hinst : Cond.instanceMethod objectInit ∈ Ts) (hcode : Cond.code objectInit ⟨#[0xb1]⟩ 1 none ∈ Ts) (hdg : decode cc pc = .ok (.invokespecial idx, 3)) (hR : 1 ≤ R.frames ∧ 12 ≤ R.locals)
    (kk : VC p l e R s m args below meth c nL D A Q cells slots (pc + 3) lv [] n ad ce) : VC p l e R s m args below meth c nL D A Q cells slots pc lv [.ref a] n ad ce :=
  fun H locs ls hS hP hD hl => W.objInit C.1 C.2.1 C.2.2.2.1 (C.2.2.2.2.1 _ hlink) (C.2.2.2.2.1 _ hinst) (C.2.2.2.2.1 _ hcode) rfl (by rw [C.2.2.1]; exact hl.1) rfl hdg hR.1 (by show 2 * 0 + 0 + 12 ≤ _; omega) (kk H locs ls hS hP hD hl)
theorem y_get (C : CxC p s m args meth c own cc nL Ts D cs A) {ref Cn : String} {T : u_T} {N i t index a : Nat} {fs : List Value} (hi : i < n) (ha : ad i = a) (he : ce i = .inr (t, fs)) (hc : vwCl[t]? = some (Cn, T, N)) (hin : ∀ w ∈ u_ws Cn T N, w ∈ Ts) (k : Nat) (hk : k < N) {v : Value} (hv : fs[k]? = some v) (hlink : Cond.fieldLink own index ref (T k).2.1 (T k).2.2.1 ∈ Ts) (href : (T k).1 = ref) (hdg : decode cc pc = .ok (.getfield index, 3))
    (kk : VC p l e R s m args below meth c nL D A Q cells slots (pc + 3) lv (v :: st) n ad ce) : VC p l e R s m args below meth c nL D A Q cells slots pc lv (.ref a :: st) n ad ce := by
  subst href
  subst ha
  exact fun H locs ls hS hP hD hl => va_get C.1 C.2.1 C.2.2.2.2.1 hin C.2.2.2.1 C.2.2.2.2.2.1 hP i ((wl_at hi).trans (by rw [he])) hc k hk (C.2.2.2.2.1 _ hlink) (fun _ h => h) hv hdg (kk H locs ls hS hP hD hl)
theorem y_putF (C : CxC p s m args meth c own cc nL Ts D cs A) {ref Cn : String} {T : u_T} {N i t index a : Nat} {fs : List Value} {v : Value} (hi : i < n) (ha : ad i = a) (he : ce i = .inr (t, fs)) (hc : vwCl[t]? = some (Cn, T, N)) (hin : ∀ w ∈ u_ws Cn T N, w ∈ Ts) (ty0 : Nat → FieldType) (hty : ∀ k, k < N → parseFieldDescriptor (T k).2.2.1 = some (ty0 k)) (hnm : ∀ a, a < N → ∀ b, b < N → a ≠ b → (T a).2.1 ≠ (T b).2.1) (k : Nat) (hk : k < N) (hlink : Cond.fieldLink own index ref (T k).2.1 (T k).2.2.1 ∈ Ts) (href : (T k).1 = ref) (hfin : (T k).2.2.2 = true) (hdecl : (T k).1 = own) {ty : FieldType} (hd : parseFieldDescriptor (T k).2.2.1 = some ty) (hn : narrow ty v = v) (hfit : fits ty v = true) (hlen : k < fs.length) (hdg : decode cc pc = .ok (.putfield index, 3))
    (kk : VC p l e R s m args below meth c nL D A Q cells slots (pc + 3) lv st n ad (fset ce i (.inr (t, fs.set k v)))) : VC p l e R s m args below meth c nL D A Q cells slots pc lv (v :: .ref a :: st) n ad ce := by
  subst href
  subst ha
  intro H locs ls hS hP hD hl
  refine va_putF C.1 C.2.1 C.2.2.2.2.1 hin ty0 hty hnm C.2.2.2.1 C.2.2.2.2.2.1 hP hD hS i ((wl_at hi).trans (by rw [he])) hc k hk (C.2.2.2.2.1 _ hlink) (fun _ h => h) hfin C.2.2.2.2.2.2.2.2 hdecl hd hn hfit hlen hdg (fun H1 locs1 hP1 hD1 hS1 => ?_)
  rw [wl_set hi] at hP1 hD1
  exact kk H1 locs1 ls hS1 hP1 hD1 hl
theorem y_put (C : CxC p s m args meth c own cc nL Ts D cs A) {ref Cn : String} {T : u_T} {N i t index a : Nat} {fs : List Value} {v : Value} (hi : i < n) (ha : ad i = a) (he : ce i = .inr (t, fs)) (hc : vwCl[t]? = some (Cn, T, N)) (hin : ∀ w ∈ u_ws Cn T N, w ∈ Ts) (ty0 : Nat → FieldType) (hty : ∀ k, k < N → parseFieldDescriptor (T k).2.2.1 = some (ty0 k)) (hnm : ∀ a, a < N → ∀ b, b < N → a ≠ b → (T a).2.1 ≠ (T b).2.1) (k : Nat) (hk : k < N) (hlink : Cond.fieldLink own index ref (T k).2.1 (T k).2.2.1 ∈ Ts) (href : (T k).1 = ref) (hfin : (T k).2.2.2 = false) {ty : FieldType} (hd : parseFieldDescriptor (T k).2.2.1 = some ty) (hn : narrow ty v = v) (hfit : fits ty v = true) (hlen : k < fs.length) (hdg : decode cc pc = .ok (.putfield index, 3))
    (kk : VC p l e R s m args below meth c nL D A Q cells slots (pc + 3) lv st n ad (fset ce i (.inr (t, fs.set k v)))) : VC p l e R s m args below meth c nL D A Q cells slots pc lv (v :: .ref a :: st) n ad ce := by
  subst href
  subst ha
  intro H locs ls hS hP hD hl
  refine va_put C.1 C.2.1 C.2.2.2.2.1 hin ty0 hty hnm C.2.2.2.1 C.2.2.2.2.2.1 hP hD hS i ((wl_at hi).trans (by rw [he])) hc k hk (C.2.2.2.2.1 _ hlink) (fun _ h => h) hfin hd hn hfit hlen hdg (fun H1 locs1 hP1 hD1 hS1 => ?_)
  rw [wl_set hi] at hP1 hD1
  exact kk H1 locs1 ls hS1 hP1 hD1 hl
theorem y_new (C : CxC p s m args meth c own cc nL Ts D cs A) {Cn : String} {T : u_T} {N t index : Nat} {fs : List Value} (hc : vwCl[t]? = some (Cn, T, N)) (hin : ∀ w ∈ u_ws Cn T N, w ∈ Ts) (ty : Nat → FieldType) (hty : ∀ k, k < N → parseFieldDescriptor (T k).2.2.1 = some (ty k)) (hcl : Cond.classLink own index Cn ∈ Ts) (hinst : Cond.instantiable Cn N ∈ Ts) (hini : Cond.initialized Cn ∈ Ts) (hfs : ∀ j, j < N → defaultValue (ty j) = vp_V fs j) (hcells : cells + 1 ≤ R.cells) (hslots : slots + N ≤ R.slots) (hdg : decode cc pc = .ok (.new index, 3))
    (kk : ∀ q : Nat, VC p l e R s m args below meth c nL D A Q (cells + 1) (slots + N) (pc + 3) lv (.ref q :: st) (n + 1) (fset ad n q) (fset ce n (.inr (t, fs)))) : VC p l e R s m args below meth c nL D A Q cells slots pc lv st n ad ce := by
  intro H locs ls hS hP hD hl
  refine va_new C.1 C.2.1 C.2.2.2.2.1 hin ty hty C.2.2.2.1 (C.2.2.2.2.1 _ hcl) (C.2.2.2.2.1 _ hinst) (C.2.2.2.2.1 _ hini) C.2.2.2.2.2.1 hP hD hS C.2.2.2.2.2.2.1 hc hfs hcells hslots hdg (fun q H1 hP1 hD1 hS1 => ?_)
  rw [wl_push] at hP1 hD1
  exact kk q H1 locs ls hS1 hP1 hD1 hl
theorem tys_eq {t : Nat} {ty : FieldType} (h : (tys cs)[t]? = some (cs t, ty)) (hK : va_K D vwCl (tys cs) s) {cA : ClassId} (hK2 : va_K D vwCl (tys cs ++ [(cA, ty)]) s) : cA = cs t := by
  have h1 := (hK.2 t _ h).2
  have h2 := (hK2.2 6 (cA, ty) rfl).2
  have fc : ∀ {c : ClassId}, va_RA s c ty → s.vm.findClass ("[" ++ ty.toString) = some c := by
    intro c hc
    cases ty with
    | object C =>
      obtain ⟨_, _, _, _, _, h4⟩ := hc
      exact h4
    | _ => exact hc
  exact Option.some.inj ((fc h2).symm.trans (fc h1))
theorem y_newa (C : CxC p s m args meth c own cc nL Ts D cs A) {atype : ArrayType} {ty : FieldType} (t : Nat) (hat : (tys cs)[t]? = some (cs t, ty)) (hty : newarray.typeOf atype = ty) (harr : Cond.arrayClass ty ∈ Ts) (hdv : defaultValue ty = .int 0) {z : Int32} {N : Nat} (hz : ¬ z < 0) (hN : z.toNatClampNeg = N) (hbytes : N * componentBytes ty ≤ 536870912) (hcells : cells + 1 ≤ R.cells) (hslots : slots + N ≤ R.slots) (hdg : decode cc pc = .ok (.newarray atype, 2))
    (kk : ∀ q : Nat, VC p l e R s m args below meth c nL D A Q (cells + 1) (slots + N) (pc + 2) lv (.ref q :: st) (n + 1) (fset ad n q) (fset ce n (.inl (cs t, N, .inl (fun _ => 0))))) : VC p l e R s m args below meth c nL D A Q cells slots pc lv (.int z :: st) n ad ce := by
  intro H locs ls hS hP hD hl
  refine va_newa (atype := atype) C.1 C.2.1 (by rw [hty]; exact C.2.2.2.2.1 _ harr) hty C.2.2.2.2.2.1 hP hD hS C.2.2.2.2.2.2.1 (a0 := (N, .inl (fun _ => 0))) (fun cA => by rw [hdv]; rfl) hz hN hbytes hcells hslots hdg (fun q cA H1 hK1 hP1 hD1 hS1 => ?_)
  rw [tys_eq hat C.2.2.2.2.2.1 hK1, wl_push] at hP1 hD1
  exact kk q H1 locs ls hS1 hP1 hD1 hl
theorem y_newq (C : CxC p s m args meth c own cc nL Ts D cs A) {Cn : String} {index : Nat} (t : Nat) (hat : (tys cs)[t]? = some (cs t, .object Cn)) (hcl : Cond.classLink own index Cn ∈ Ts) (hao : va_AO Cn s) {z : Int32} {N : Nat} (hz : ¬ z < 0) (hN : z.toNatClampNeg = N) (hbytes : N * 4 ≤ 536870912) (hcells : cells + 1 ≤ R.cells) (hslots : slots + N ≤ R.slots) (hdg : decode cc pc = .ok (.anewarray index, 3))
    (kk : ∀ q : Nat, VC p l e R s m args below meth c nL D A Q (cells + 1) (slots + N) (pc + 3) lv (.ref q :: st) (n + 1) (fset ad n q) (fset ce n (.inl (cs t, N, .inr (.inr (.inr (.inr (fun _ => none)))))))) : VC p l e R s m args below meth c nL D A Q cells slots pc lv (.int z :: st) n ad ce := by
  intro H locs ls hS hP hD hl
  refine va_newq C.1 C.2.1 C.2.2.2.1 (C.2.2.2.2.1 _ hcl) hao C.2.2.2.2.2.1 hP hD hS C.2.2.2.2.2.2.1 hz hN hbytes hcells hslots hdg (fun q cA H1 hK1 hP1 hD1 hS1 => ?_)
  rw [tys_eq hat C.2.2.2.2.2.1 hK1, wl_push] at hP1 hD1
  exact kk q H1 locs ls hS1 hP1 hD1 hl
theorem y_astq (C : CxC p s m args meth c own cc nL Ts D cs A) {i v ia iv t tc N : Nat} {r : vw_C} {x : Int32} {vs : List Value} {f : Nat → Option Nat} (hi : i < n) (hia : ad i = ia) (he : ce i = .inl (cs t, N, .inr (.inr (.inr (.inr f))))) (ht : (tys cs)[t]? = some (cs t, .object r.1)) (hv : v < n) (hiv : ad v = iv) (hev : ce v = .inr (tc, vs)) (hc : vwCl[tc]? = some r) (hin : vp_in x N) (hdg : decode cc pc = .ok (.aastore, 1))
    (kk : VC p l e R s m args below meth c nL D A Q cells slots (pc + 1) lv st n ad (fset ce i (.inl (cs t, N, .inr (.inr (.inr (.inr (va_up f x.toNatClampNeg (some iv))))))))) : VC p l e R s m args below meth c nL D A Q cells slots pc lv (.ref iv :: .int x :: .ref ia :: st) n ad ce := by
  subst hia
  subst hiv
  intro H locs ls hS hP hD hl
  refine va_astq C.1 C.2.1 C.2.2.2.2.2.1 hP hD hS i t v tc ((wl_at hi).trans (by rw [he])) ht ((wl_at hv).trans (by rw [hev])) hc hin hdg (fun H1 locs1 hP1 hD1 hS1 => ?_)
  rw [wl_set hi] at hP1 hD1
  exact kk H1 locs1 ls hS1 hP1 hD1 hl
end YR
