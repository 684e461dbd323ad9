/-- what a cell is to be, its kind and length given -/
def celg (cs : Nat → ClassId) (ad : Nat → Nat) (i t len : Nat) (row : Nat → Int32) : va_E :=
  if t < 9 then .inr (t, fls ad i row t)
  else if t < 13 then .inl (cs (t - 10), len, .inl row)
  else .inl (cs (t - 10), len, .inr (.inr (.inr (.inr (fun j => some (ad (rfo i t row j)))))))
theorem cel_g {cs : Nat → ClassId} {ad : Nat → Nat} {i : Nat} {row : Nat → Int32} : cel cs ad i row = celg cs ad i (tg i) (ln i) row := rfl
/-- a cell is what it is to be, however the addresses go on behind n -/
def okc (cs : Nat → ClassId) (n : Nat) (ad : Nat → Nat) (e : va_E) (i t len : Nat) (row : Nat → Int32) : Prop :=
  ∀ ad' : Nat → Nat, (∀ k, k < n → ad' k = ad k) → ∀ (D : va_G) (q : Nat) (H : Heap), va_at D vwCl (q, e) H → va_at D vwCl (q, celg cs ad' i t len row) H
theorem okc.mono {cs : Nat → ClassId} {n n2 : Nat} {ad ad2 : Nat → Nat} {e : va_E} {i t len : Nat} {row : Nat → Int32} (h : okc cs n ad e i t len row) (hn : n ≤ n2) (ha : ∀ k, k < n → ad2 k = ad k) : okc cs n2 ad2 e i t len row :=
  fun ad' h' => h ad' (fun k hk => (h' k (by omega)).trans (ha k hk))
theorem okc_eq {cs : Nat → ClassId} {n : Nat} {ad : Nat → Nat} {e : va_E} {i t len : Nat} {row : Nat → Int32} (h : ∀ ad' : Nat → Nat, (∀ k, k < n → ad' k = ad k) → e = celg cs ad' i t len row) : okc cs n ad e i t len row :=
  fun ad' h' D q H hx => by rw [← h ad' h']; exact hx
theorem okc_int {cs : Nat → ClassId} {n : Nat} {ad : Nat → Nat} {i t len : Nat} {row : Nat → Int32} (ht : 10 ≤ t ∧ t < 13) : okc cs n ad (.inl (cs (t - 10), len, .inl row)) i t len row :=
  okc_eq fun ad' _ => by rw [celg, if_neg (by omega), if_pos (by omega)]
theorem okc_int' {cs : Nat → ClassId} {n : Nat} {ad : Nat → Nat} {e : va_E} {i t len : Nat} {row : Nat → Int32} (h : e = .inl (cs (t - 10), len, .inl row)) (ht : 10 ≤ t ∧ t < 13) : okc cs n ad e i t len row := by
  subst h
  exact okc_int ht
theorem okc_ref {cs : Nat → ClassId} {n : Nat} {ad : Nat → Nat} {i t len : Nat} {row : Nat → Int32} {f : Nat → Option Nat} (ht : 13 ≤ t) (hf : ∀ j, j < len → rfo i t row j < n ∧ f j = some (ad (rfo i t row j))) : okc cs n ad (.inl (cs (t - 10), len, .inr (.inr (.inr (.inr f))))) i t len row := by
  intro ad' h' D q H hx
  rw [celg, if_neg (by omega), if_neg (by omega)]
  show H[q]? = some (vp_cell _ _)
  have hx1 : H[q]? = some (vp_cell (cs (t - 10)) (len, .inr (.inr (.inr (.inr f))))) := hx
  rw [hx1, vp_cell_q, vp_cell_q]
  refine congrArg some ?_
  unfold arrV
  refine congrArg (fun z => ({ cls := cs (t - 10), slots := z, vm := .none } : Cell)) ?_
  refine congrArg Array.ofFn ?_
  funext j
  obtain ⟨h1, h2⟩ := hf j.val j.isLt
  show va_rf (f j.val) = va_rf (some (ad' (rfo i t row j.val)))
  rw [h2, h' _ h1]
def sgm (cs : Nat → ClassId) (n : Nat) (ad : Nat → Nat) (ce : Nat → va_E) (b : Nat) (L : List (Nat × Nat)) (row : Nat → Nat → Int32) : Prop :=
  ∀ (k : Nat) (x : Nat × Nat), L[k]? = some x → okc cs n ad (ce (b + k)) (b + k) x.1 x.2 (row (b + k))
theorem sgm.mono {cs : Nat → ClassId} {n n2 : Nat} {ad ad2 : Nat → Nat} {ce ce2 : Nat → va_E} {b : Nat} {L : List (Nat × Nat)} {row : Nat → Nat → Int32} (h : sgm cs n ad ce b L row) (hn : n ≤ n2) (ha : ∀ k, k < n → ad2 k = ad k) (hc : ∀ k, k < L.length → ce2 (b + k) = ce (b + k)) : sgm cs n2 ad2 ce2 b L row := by
  intro k x hx
  rw [hc k (List.getElem?_eq_some_iff.mp hx).1]
  exact (h k x hx).mono hn ha
theorem sgm.app {cs : Nat → ClassId} {n : Nat} {ad : Nat → Nat} {ce : Nat → va_E} {b b2 : Nat} {L1 L2 : List (Nat × Nat)} {row : Nat → Nat → Int32} (h1 : sgm cs n ad ce b L1 row) (h2 : sgm cs n ad ce b2 L2 row) (hb : b + L1.length = b2) : sgm cs n ad ce b (L1 ++ L2) row := by
  subst hb
  intro k x hx
  rcases Nat.lt_or_ge k L1.length with hk | hk
  · rw [List.getElem?_append_left hk] at hx
    exact h1 k x hx
  · rw [List.getElem?_append_right hk] at hx
    have h3 := h2 (k - L1.length) x hx
    rwa [show b + L1.length + (k - L1.length) = b + k by omega] at h3
theorem sgm.one {cs : Nat → ClassId} {n : Nat} {ad : Nat → Nat} {ce : Nat → va_E} {b t len : Nat} {row : Nat → Nat → Int32} (h : okc cs n ad (ce b) b t len (row b)) : sgm cs n ad ce b [(t, len)] row := by
  intro k x hx
  have hk : k < 1 := (List.getElem?_eq_some_iff.mp hx).1
  have h0 : k = 0 := by omega
  subst h0
  cases hx
  exact h
theorem sgm.nil {cs : Nat → ClassId} {n : Nat} {ad : Nat → Nat} {ce : Nat → va_E} {b : Nat} {row : Nat → Nat → Int32} : sgm cs n ad ce b [] row := fun k x hx => by cases hx
abbrev rmC (fr mc ms : Nat) : Room := { frames := fr, cells := mc, slots := ms, locals := 36 * fr }
def XB (X : State → Prop) : Prop := (∀ s U : State, s.WarmedH U.vm → X s → X U) ∧ ∀ U U' : State, U.vm = U'.vm → X U → X U'
/-- a constructor's contract: its world is the whole world so far -/
def CnC (y : MethodName) (ws : List Cond) (fr mc ms : Nat) (X : State → Prop) (b n : Nat) (ad : Nat → Nat) (ce : Nat → va_E) (n2 : Nat) (L : List (Nat × Nat)) (row : Nat → Nat → Int32) : Prop :=
  ∀ (l : Launch) (D : va_G) (cs : Nat → ClassId) (sz : Nat), Met l y ws (rmC fr mc ms) (va_Pc [.ref (ad b)] (fun U => U.heap.size = sz ∧ va_P D vwCl (wl n ad ce) U.heap ∧ va_K D vwCl (tys cs) U ∧ va_D (fun _ => True) (wl n ad ce) ∧ X U))
    (va_Qv (fun u : (Nat → Nat) × (Nat → va_E) => (∀ i, i < n → u.1 i = ad i) ∧ (∀ i, i < n → i ≠ b → u.2 i = ce i) ∧ sgm cs n2 u.1 u.2 b L row ∧ ∃ vs, u.2 b = .inr ((L.getD 0 (99, 0)).1, vs)) (fun u t => va_P D vwCl (wl n2 u.1 u.2) t.heap ∧ va_K D vwCl (tys cs) t ∧ va_D (va_A (wl n ad ce) sz) (wl n2 u.1 u.2)) (va_A (wl n ad ce) sz)) mc ms (va_A (wl n ad ce) sz)
theorem cnc_blind {D : va_G} {cs : Nat → ClassId} {n sz : Nat} {ad : Nat → Nat} {ce : Nat → va_E} {X : State → Prop} {av : List Value} (hX : XB X) : FrameBlind (va_Pc av (fun U => U.heap.size = sz ∧ va_P D vwCl (wl n ad ce) U.heap ∧ va_K D vwCl (tys cs) U ∧ va_D (fun _ => True) (wl n ad ce) ∧ X U)) :=
  fun a U g mk q => ⟨q.1, q.2.1, q.2.2.1, va_K.moved (u := U) (U := U.calling g mk a) (Vm.Alike.refl U.vm) q.2.2.2.1, q.2.2.2.2.1, hX.2 U (U.calling g mk a) rfl q.2.2.2.2.2⟩
section YC
variable {p : Program} {l : Launch} {e : Env} {R : Room} {s : State} {m : MethodId} {args : Array Value} {below : List Frame} {meth : Method} {c : Code} {nL : Nat} {D : va_G} {cs : Nat → ClassId} {A : Nat → Prop} {Q : State → Prop} {cells slots pc : Nat} {lv lv' : List (Option Value)} {n : Nat} {ad : Nat → Nat} {ce : Nat → va_E} {own : String} {cc : ByteArray} {Ts : List Cond}
theorem cnc_free (C : CxC p s m args meth c own cc nL Ts D cs A) {H : Heap} {locs : List Loc} (hS : va_S A s.heap H locs) (hD : va_D A (wl n ad ce)) : ∀ q, va_A (wl n ad ce) H.size q → A q := by
  rintro q (⟨k, z, hz⟩ | hz)
  · exact hD.2 k (q, z) hz
  · exact C.2.2.2.2.2.2.1 q (Nat.le_trans hS.1 hz)
theorem y_callI (C : CxC p s m args meth c own cc nL Ts D cs A) {y : MethodName} {ws ws' : List Cond} {bytes : ByteArray} {maxL fr mc ms b n2 idx a : Nat} {X : State → Prop} {L : List (Nat × Nat)} {row : Nat → Nat → Int32} {rest : List Value} (hM : CnC y ws fr mc ms X b n ad ce n2 L row) (hG : GoodIn Ts ws) (hw : ws = Cond.code y bytes maxL none :: ws') (hini : Cond.initialized y.cls ∈ Ts) (hlink : Cond.methodLink own idx y ∈ Ts) (hinst : Cond.instanceMethod y ∈ Ts) (hy1 : y.name = "<init>") (hd : y.cls ≠ "java/lang/invoke/MethodHandle" ∧ y.cls ≠ "java/lang/invoke/VarHandle" ∧ (parseMethodDescriptor y.desc).map (fun d => d.parameters.length) = some 0) (hR : fr + 1 ≤ R.frames ∧ 8 + (maxL + 11) + 36 * fr ≤ R.locals) (hX : XB X) (hXs : X s) (ha : ad b = a) (hW : (rest.map fun v => v.category).sum ≤ 8) (hdg : decode cc pc = .ok (.invokespecial idx, 3)) (hf : cells + mc ≤ R.cells ∧ slots + ms ≤ R.slots)
    (kk : ∀ (ad2 : Nat → Nat) (ce2 : Nat → va_E), (∀ i, i < n → ad2 i = ad i) → (∀ i, i < n → i ≠ b → ce2 i = ce i) → sgm cs n2 ad2 ce2 b L row → (∃ vs, ce2 b = .inr ((L.getD 0 (99, 0)).1, vs)) → VC p l e R s m args below meth c nL D A Q (cells + mc) (slots + ms) (pc + 3) lv rest n2 ad2 ce2) : VC p l e R s m args below meth c nL D A Q cells slots pc lv (.ref a :: rest) n ad ce := by
  intro H locs ls hS hP hD hl
  subst ha
  have hFc := cnc_free C hS hD
  obtain ⟨hx, hbb, hml, hown, hts, hK, hA, -, -⟩ := C
  refine va_callv (va_runI (nL := nL) (As := []) (rest := rest) ⟨hx, hbb, hml, hown, hts⟩ (hM l D cs H.size) (cwI 0 hts hG hw rfl rfl (hts _ hini) (hts _ hlink) (hts _ hinst) hy1 hd hR) ⟨cnc_blind hX, fun U hU hW2 => ⟨rfl, by rw [hU], by rw [hU]; exact hP, va_K.moved hW2.alike hK, hD.weaken (fun _ _ _ _ => trivial), hX.1 _ _ hW2 hXs⟩⟩ rfl rfl hl.1 rfl (lv_room hW) hdg hf) hS (fun q _ h => hFc q h) hFc (fun u t H1 locs1 ht hvm hw1 hB hz1 hk1 hS1 => ?_)
  obtain ⟨e1, e2, e3, e4⟩ := hw1
  obtain ⟨hP1, -, hD1⟩ := hB
  rw [ht] at hP1
  exact kk u.1 u.2 e1 e2 e3 e4 H1 locs1 ls hS1 hP1 (hD1.weaken (fun _ q _ h => hFc q.1 h)) hl
theorem y_callN (C : CxC p s m args meth c own cc nL Ts D cs A) {y : MethodName} {ws ws' : List Cond} {bytes : ByteArray} {maxL fr mc ms b n2 idx a : Nat} {host : String} {X : State → Prop} {L : List (Nat × Nat)} {row : Nat → Nat → Int32} {rest : List Value} (hM : CnC y ws fr mc ms X b n ad ce n2 L row) (hG : GoodIn Ts ws) (hw : ws = Cond.code y bytes maxL none :: ws') (hini : Cond.initialized y.cls ∈ Ts) (hlink : va_Nw (.methodLinkNest own idx y host) s) (hinst : Cond.instanceMethod y ∈ Ts) (hy1 : y.name = "<init>") (hd : y.cls ≠ "java/lang/invoke/MethodHandle" ∧ y.cls ≠ "java/lang/invoke/VarHandle" ∧ (parseMethodDescriptor y.desc).map (fun d => d.parameters.length) = some 0) (hR : fr + 1 ≤ R.frames ∧ 8 + (maxL + 11) + 36 * fr ≤ R.locals) (hX : XB X) (hXs : X s) (ha : ad b = a) (hW : (rest.map fun v => v.category).sum ≤ 8) (hdg : decode cc pc = .ok (.invokespecial idx, 3)) (hf : cells + mc ≤ R.cells ∧ slots + ms ≤ R.slots)
    (kk : ∀ (ad2 : Nat → Nat) (ce2 : Nat → va_E), (∀ i, i < n → ad2 i = ad i) → (∀ i, i < n → i ≠ b → ce2 i = ce i) → sgm cs n2 ad2 ce2 b L row → (∃ vs, ce2 b = .inr ((L.getD 0 (99, 0)).1, vs)) → VC p l e R s m args below meth c nL D A Q (cells + mc) (slots + ms) (pc + 3) lv rest n2 ad2 ce2) : VC p l e R s m args below meth c nL D A Q cells slots pc lv (.ref a :: rest) n ad ce := by
  intro H locs ls hS hP hD hl
  subst ha
  have hFc := cnc_free C hS hD
  obtain ⟨hx, hbb, hml, hown, hts, hK, hA, -, -⟩ := C
  refine va_callv (va_runIN (nL := nL) (As := []) (rest := rest) ⟨hx, hbb, hml, hown, hts⟩ (hM l D cs H.size) ⟨va_cnB 0 hts hG hw rfl rfl hlink (hts _ hini) hd hR, hy1, hts _ hinst⟩ ⟨cnc_blind hX, fun U hU hW2 => ⟨rfl, by rw [hU], by rw [hU]; exact hP, va_K.moved hW2.alike hK, hD.weaken (fun _ _ _ _ => trivial), hX.1 _ _ hW2 hXs⟩⟩ rfl rfl hl.1 rfl (lv_room hW) hdg hf) hS (fun q _ h => hFc q h) hFc (fun u t H1 locs1 ht hvm hw1 hB hz1 hk1 hS1 => ?_)
  obtain ⟨e1, e2, e3, e4⟩ := hw1
  obtain ⟨hP1, -, hD1⟩ := hB
  rw [ht] at hP1
  exact kk u.1 u.2 e1 e2 e3 e4 H1 locs1 ls hS1 hP1 (hD1.weaken (fun _ q _ h => hFc q.1 h)) hl
def QC (below : List Frame) (s : State) (args : Array Value) (D : va_G) (cs : Nat → ClassId) (A : Nat → Prop) (mc ms b n : Nat) (ad : Nat → Nat) (ce : Nat → va_E) (n2 : Nat) (L : List (Nat × Nat)) (row : Nat → Nat → Int32) : State → Prop :=
  MQ below (va_Qv (fun u : (Nat → Nat) × (Nat → va_E) => (∀ i, i < n → u.1 i = ad i) ∧ (∀ i, i < n → i ≠ b → u.2 i = ce i) ∧ sgm cs n2 u.1 u.2 b L row ∧ ∃ vs, u.2 b = .inr ((L.getD 0 (99, 0)).1, vs)) (fun u t => va_P D vwCl (wl n2 u.1 u.2) t.heap ∧ va_K D vwCl (tys cs) t ∧ va_D A (wl n2 u.1 u.2)) A) args s mc ms A
theorem y_vret (C : CxC p s m args meth c own cc nL Ts D cs A) (hr : meth.sig.returnType = none) {b n0 mc ms : Nat} {ad0 : Nat → Nat} {ce0 : Nat → va_E} {L : List (Nat × Nat)} {row : Nat → Nat → Int32} (h1 : ∀ i, i < n0 → ad i = ad0 i) (h2 : ∀ i, i < n0 → i ≠ b → ce i = ce0 i) (h3 : sgm cs n ad ce b L row) (h4 : ∃ vs, ce b = .inr ((L.getD 0 (99, 0)).1, vs)) (hc : cells = mc) (hs : slots = ms) (hdg : decode cc pc = .ok (.return_, 1)) : VC p l e R s m args below meth c nL D A (QC below s args D cs A mc ms b n0 ad0 ce0 n L row) cells slots pc lv [] n ad ce := by
  subst hc
  subst hs
  intro H locs ls hS hP hD hl
  have hlk := C.2.2.2.2.2.2.2.1
  exact W.vret C.1 C.2.1 hr (fun t ht hW => ⟨⟨(ad, ce), rfl, ⟨h1, h2, h3, h4⟩, by rw [ht]; exact hP, va_K.moved hW.alike C.2.2.2.2.2.1, hD⟩, hS.F ht⟩) hS.2.2 hdg hlk
end YC
theorem y_met {y : MethodName} {ws ws' : List Cond} {cc : ByteArray} {maxL fr mc ms b n n2 : Nat} {X : State → Prop} {ad : Nat → Nat} {ce : Nat → va_E} {L : List (Nat × Nat)} {row : Nat → Nat → Int32} (own : String) (hcls : y.cls = own) (hyn : y.name = "<init>") (hy : plainName y.cls = true) (hw : ws = Cond.code y cc maxL none :: ws') (hn : 1 ≤ maxL)
    (body : ∀ (p : Program) (l : Launch) (e : Env) (s : State) (m : MethodId) (args : Array Value) (below : List Frame) (meth : Method) (c : Code) (D : va_G) (cs : Nat → ClassId) (A : Nat → Prop), CxC p s m args meth c own cc maxL ws D cs A → meth.sig.returnType = none → X s → VC p l e (rmC fr mc ms) s m args below meth c maxL D A (QC below s args D cs A mc ms b n ad ce n2 L row) 0 0 0 (some (.ref (ad b)) :: List.replicate (maxL - 1) none) [] n ad ce) : CnC y ws fr mc ms X b n ad ce n2 L row := by
  intro l D cs sz
  refine Met.ofW (cc := cc) (maxL := maxL) (ret := none) hy hw ?_
  intro p e s m args below meth c s₁ B hml hv
  obtain ⟨rfl, hsz, hP, hK, hD0, hX⟩ := hv
  have hts := atoms_spec (ws := ws) B.pre
  have hown : s.vm.findClass y.cls = some m.cls := findClass_of_methodNamed B.named
  rw [hcls] at hown
  have hlocks := B.notSynchronized
  have hin := (name_of_methodNamed B.named B.method).1
  rw [hyn] at hin
  subst hsz
  have hD : va_D (va_A (wl n ad ce) s.heap.size) (wl n ad ce) := hD0.self
  rw [lg_entry_eq]
  exact body p l e s m _ below meth c D cs (va_A (wl n ad ce) s.heap.size) ⟨B.exec, B.bytes, hml, hown, hts, hK, fun q h => Or.inr h, hlocks, hin⟩ B.returns hX s.heap [] _ va_S.rf hP hD (lvp_entry (vs := [.ref (ad b)]) hn (fun v hv => by simp only [List.mem_cons, List.not_mem_nil, or_false] at hv; rw [hv]; rfl) rfl)
