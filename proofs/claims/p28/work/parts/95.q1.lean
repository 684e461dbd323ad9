/-! A RULE FOR EACH CALL OF THE CLASS, over the ghost (written by wip/p28/tools/mk_q1.py) -/
def StG (F : Mem → Option (Int32 × Mem)) (g : Gh) (r : Int32) (g' : Gh) : Prop := ∀ M, CG M g → ∃ M', F M = some (r, M') ∧ CG M' g'
theorem stG_of {F : Mem → Option (Int32 × Mem)} {g g' : Gh} {t : Int32 × Gh} {r : Int32} (h : ∀ M, GO g → CL M g → OkC M F t) (e : t = (r, g')) : StG F g r g' := by
  subst e
  rintro M ⟨G, C⟩
  obtain ⟨h1, M', h2, h3⟩ := h M G C
  exact ⟨M', h2, h1, h3⟩
section QO
variable {p : Program} {l : Launch} {e : Env} {R : Room} {s : State} {m : MethodId} {args : Array Value} {below : List Frame} {meth : Method} {c : Code} {nL : Nat} {D : va_G} {cs : Nat → ClassId} {A : Nat → Prop} {cells slots : Nat} {Q : State → Prop} {pc : Nat} {lv : List (Nat × Value)} {cc : ByteArray} {ad : Nat → Nat} {g g' : Gh} {wr : va_W} {rest : List Value} {r : Int32}
theorem o_addFlat (C : CQ p s m args meth c cc nL D cs) {a : Int32} {b : Int32} (h : StG (f_X7_addFlat a b) g r g') (hR : 3 + 1 ≤ R.frames ∧ 8 + (4 + 11) + 36 * 3 ≤ R.locals) (hcs : cells ≤ R.cells ∧ slots ≤ R.slots) (hW : (rest.map fun v => v.category).sum ≤ 8) (hdg : decode cc pc = .ok (.invokevirtual 33, 3)) (kk : VX p l e R s m args below meth c nL D A cells slots Q (gW cs ad g' wr) (pc + 3) lv (.int r :: rest)) : VX p l e R s m args below meth c nL D A cells slots Q (gW cs ad g wr) pc lv (.int b :: .int a :: .ref (ad 0) :: rest) :=
  q_callV (n := 2) (As := [.int a, .int b]) (rest := rest) (maxL := 4) (ret := (some .int)) C (fun M hC => by
    obtain ⟨M', e, hC'⟩ := h M hC
    exact ⟨M', c_X7_addFlat e, hC'⟩) qG_addFlat rfl (by decide +kernel) hR hcs rfl rfl rfl hW hdg kk
theorem o_addHousehold (C : CQ p s m args meth c cc nL D cs) {a : Int32} {b : Int32} (h : StG (f_X7_addHousehold a b) g r g') (hR : 3 + 1 ≤ R.frames ∧ 8 + (3 + 11) + 36 * 3 ≤ R.locals) (hcs : cells ≤ R.cells ∧ slots ≤ R.slots) (hW : (rest.map fun v => v.category).sum ≤ 8) (hdg : decode cc pc = .ok (.invokevirtual 38, 3)) (kk : VX p l e R s m args below meth c nL D A cells slots Q (gW cs ad g' wr) (pc + 3) lv (.int r :: rest)) : VX p l e R s m args below meth c nL D A cells slots Q (gW cs ad g wr) pc lv (.int b :: .int a :: .ref (ad 0) :: rest) :=
  q_callV (n := 2) (As := [.int a, .int b]) (rest := rest) (maxL := 3) (ret := (some .int)) C (fun M hC => by
    obtain ⟨M', e, hC'⟩ := h M hC
    exact ⟨M', c_X7_addHousehold e, hC'⟩) qG_addHousehold rfl (by decide +kernel) hR hcs rfl rfl rfl hW hdg kk
theorem o_appeal (C : CQ p s m args meth c cc nL D cs) {a : Int32} {b : Int32} (h : StG (f_X7_appeal a b) g r g') (hR : 5 + 1 ≤ R.frames ∧ 8 + (5 + 11) + 36 * 5 ≤ R.locals) (hcs : cells ≤ R.cells ∧ slots ≤ R.slots) (hW : (rest.map fun v => v.category).sum ≤ 8) (hdg : decode cc pc = .ok (.invokevirtual 57, 3)) (kk : VX p l e R s m args below meth c nL D A cells slots Q (gW cs ad g' wr) (pc + 3) lv (.int r :: rest)) : VX p l e R s m args below meth c nL D A cells slots Q (gW cs ad g wr) pc lv (.int b :: .int a :: .ref (ad 0) :: rest) :=
  q_callV (n := 2) (As := [.int a, .int b]) (rest := rest) (maxL := 5) (ret := (some .int)) C (fun M hC => by
    obtain ⟨M', e, hC'⟩ := h M hC
    exact ⟨M', c_X7_appeal e, hC'⟩) qG_appeal rfl (by decide +kernel) hR hcs rfl rfl rfl hW hdg kk
theorem o_change (C : CQ p s m args meth c cc nL D cs) {a : Int32} {b : Int32} {z : Int32} (h : StG (f_X7_change a b z) g r g') (hR : 3 + 1 ≤ R.frames ∧ 8 + (6 + 11) + 36 * 3 ≤ R.locals) (hcs : cells ≤ R.cells ∧ slots ≤ R.slots) (hW : (rest.map fun v => v.category).sum ≤ 8) (hdg : decode cc pc = .ok (.invokevirtual 41, 3)) (kk : VX p l e R s m args below meth c nL D A cells slots Q (gW cs ad g' wr) (pc + 3) lv (.int r :: rest)) : VX p l e R s m args below meth c nL D A cells slots Q (gW cs ad g wr) pc lv (.int z :: .int b :: .int a :: .ref (ad 0) :: rest) :=
  q_callV (n := 3) (As := [.int a, .int b, .int z]) (rest := rest) (maxL := 6) (ret := (some .int)) C (fun M hC => by
    obtain ⟨M', e, hC'⟩ := h M hC
    exact ⟨M', c_X7_change e, hC'⟩) qG_change rfl (by decide +kernel) hR hcs rfl rfl rfl hW hdg kk
theorem o_clearText (C : CQ p s m args meth c cc nL D cs) (h : StG f_X7_clearText g r g') (hR : 0 + 1 ≤ R.frames ∧ 8 + (2 + 11) + 36 * 0 ≤ R.locals) (hcs : cells ≤ R.cells ∧ slots ≤ R.slots) (hW : (rest.map fun v => v.category).sum ≤ 8) (hdg : decode cc pc = .ok (.invokevirtual 154, 3)) (kk : VX p l e R s m args below meth c nL D A cells slots Q (gW cs ad g' wr) (pc + 3) lv (.int r :: rest)) : VX p l e R s m args below meth c nL D A cells slots Q (gW cs ad g wr) pc lv (.ref (ad 0) :: rest) :=
  q_callV (n := 0) (As := []) (rest := rest) (maxL := 2) (ret := (some .int)) C (fun M hC => by
    obtain ⟨M', e, hC'⟩ := h M hC
    exact ⟨M', c_X7_clearText e, hC'⟩) qG_clearText rfl (by decide +kernel) hR hcs rfl rfl rfl hW hdg kk
theorem o_count (C : CQ p s m args meth c cc nL D cs) {a : Int32} (h : StG (f_X7_count a) g r g') (hR : 4 + 1 ≤ R.frames ∧ 8 + (2 + 11) + 36 * 4 ≤ R.locals) (hcs : cells ≤ R.cells ∧ slots ≤ R.slots) (hW : (rest.map fun v => v.category).sum ≤ 8) (hdg : decode cc pc = .ok (.invokevirtual 13, 3)) (kk : VX p l e R s m args below meth c nL D A cells slots Q (gW cs ad g' wr) (pc + 3) lv (.int r :: rest)) : VX p l e R s m args below meth c nL D A cells slots Q (gW cs ad g wr) pc lv (.int a :: .ref (ad 0) :: rest) :=
  q_callV (n := 1) (As := [.int a]) (rest := rest) (maxL := 2) (ret := (some .int)) C (fun M hC => by
    obtain ⟨M', e, hC'⟩ := h M hC
    exact ⟨M', c_X7_count e, hC'⟩) qG_count rfl (by decide +kernel) hR hcs rfl rfl rfl hW hdg kk
theorem o_decline (C : CQ p s m args meth c cc nL D cs) {a : Int32} (h : StG (f_X7_decline a) g r g') (hR : 3 + 1 ≤ R.frames ∧ 8 + (4 + 11) + 36 * 3 ≤ R.locals) (hcs : cells ≤ R.cells ∧ slots ≤ R.slots) (hW : (rest.map fun v => v.category).sum ≤ 8) (hdg : decode cc pc = .ok (.invokevirtual 54, 3)) (kk : VX p l e R s m args below meth c nL D A cells slots Q (gW cs ad g' wr) (pc + 3) lv (.int r :: rest)) : VX p l e R s m args below meth c nL D A cells slots Q (gW cs ad g wr) pc lv (.int a :: .ref (ad 0) :: rest) :=
  q_callV (n := 1) (As := [.int a]) (rest := rest) (maxL := 4) (ret := (some .int)) C (fun M hC => by
    obtain ⟨M', e, hC'⟩ := h M hC
    exact ⟨M', c_X7_decline e, hC'⟩) qG_decline rfl (by decide +kernel) hR hcs rfl rfl rfl hW hdg kk
theorem o_draw (C : CQ p s m args meth c cc nL D cs) {a : Int32} {b : Int32} (h : StG (f_X7_draw a b) g r g') (hR : 3 + 1 ≤ R.frames ∧ 8 + (4 + 11) + 36 * 3 ≤ R.locals) (hcs : cells ≤ R.cells ∧ slots ≤ R.slots) (hW : (rest.map fun v => v.category).sum ≤ 8) (hdg : decode cc pc = .ok (.invokevirtual 51, 3)) (kk : VX p l e R s m args below meth c nL D A cells slots Q (gW cs ad g' wr) (pc + 3) lv (.int r :: rest)) : VX p l e R s m args below meth c nL D A cells slots Q (gW cs ad g wr) pc lv (.int b :: .int a :: .ref (ad 0) :: rest) :=
  q_callV (n := 2) (As := [.int a, .int b]) (rest := rest) (maxL := 4) (ret := (some .int)) C (fun M hC => by
    obtain ⟨M', e, hC'⟩ := h M hC
    exact ⟨M', c_X7_draw e, hC'⟩) qG_draw rfl (by decide +kernel) hR hcs rfl rfl rfl hW hdg kk
theorem o_envies (C : CQ p s m args meth c cc nL D cs) {a : Int32} {b : Int32} (h : StG (f_X7_envies a b) g r g') (hR : 3 + 1 ≤ R.frames ∧ 8 + (3 + 11) + 36 * 3 ≤ R.locals) (hcs : cells ≤ R.cells ∧ slots ≤ R.slots) (hW : (rest.map fun v => v.category).sum ≤ 8) (hdg : decode cc pc = .ok (.invokevirtual 66, 3)) (kk : VX p l e R s m args below meth c nL D A cells slots Q (gW cs ad g' wr) (pc + 3) lv (.int r :: rest)) : VX p l e R s m args below meth c nL D A cells slots Q (gW cs ad g wr) pc lv (.int b :: .int a :: .ref (ad 0) :: rest) :=
  q_callV (n := 2) (As := [.int a, .int b]) (rest := rest) (maxL := 3) (ret := (some .int)) C (fun M hC => by
    obtain ⟨M', e, hC'⟩ := h M hC
    exact ⟨M', c_X7_envies e, hC'⟩) qG_envies rfl (by decide +kernel) hR hcs rfl rfl rfl hW hdg kk
theorem o_flat (C : CQ p s m args meth c cc nL D cs) {a : Int32} {b : Int32} (h : StG (f_X7_flat a b) g r g') (hR : 3 + 1 ≤ R.frames ∧ 8 + (3 + 11) + 36 * 3 ≤ R.locals) (hcs : cells ≤ R.cells ∧ slots ≤ R.slots) (hW : (rest.map fun v => v.category).sum ≤ 8) (hdg : decode cc pc = .ok (.invokevirtual 19, 3)) (kk : VX p l e R s m args below meth c nL D A cells slots Q (gW cs ad g' wr) (pc + 3) lv (.int r :: rest)) : VX p l e R s m args below meth c nL D A cells slots Q (gW cs ad g wr) pc lv (.int b :: .int a :: .ref (ad 0) :: rest) :=
  q_callV (n := 2) (As := [.int a, .int b]) (rest := rest) (maxL := 3) (ret := (some .int)) C (fun M hC => by
    obtain ⟨M', e, hC'⟩ := h M hC
    exact ⟨M', c_X7_flat e, hC'⟩) qG_flat rfl (by decide +kernel) hR hcs rfl rfl rfl hW hdg kk
theorem o_household (C : CQ p s m args meth c cc nL D cs) {a : Int32} {b : Int32} (h : StG (f_X7_household a b) g r g') (hR : 3 + 1 ≤ R.frames ∧ 8 + (4 + 11) + 36 * 3 ≤ R.locals) (hcs : cells ≤ R.cells ∧ slots ≤ R.slots) (hW : (rest.map fun v => v.category).sum ≤ 8) (hdg : decode cc pc = .ok (.invokevirtual 23, 3)) (kk : VX p l e R s m args below meth c nL D A cells slots Q (gW cs ad g' wr) (pc + 3) lv (.int r :: rest)) : VX p l e R s m args below meth c nL D A cells slots Q (gW cs ad g wr) pc lv (.int b :: .int a :: .ref (ad 0) :: rest) :=
  q_callV (n := 2) (As := [.int a, .int b]) (rest := rest) (maxL := 4) (ret := (some .int)) C (fun M hC => by
    obtain ⟨M', e, hC'⟩ := h M hC
    exact ⟨M', c_X7_household e, hC'⟩) qG_household rfl (by decide +kernel) hR hcs rfl rfl rfl hW hdg kk
theorem o_keep (C : CQ p s m args meth c cc nL D cs) (h : StG f_X7_keep g r g') (hR : 2 + 1 ≤ R.frames ∧ 8 + (1 + 11) + 36 * 2 ≤ R.locals) (hcs : cells ≤ R.cells ∧ slots ≤ R.slots) (hW : (rest.map fun v => v.category).sum ≤ 8) (hdg : decode cc pc = .ok (.invokevirtual 179, 3)) (kk : VX p l e R s m args below meth c nL D A cells slots Q (gW cs ad g' wr) (pc + 3) lv (.int r :: rest)) : VX p l e R s m args below meth c nL D A cells slots Q (gW cs ad g wr) pc lv (.ref (ad 0) :: rest) :=
  q_callV (n := 0) (As := []) (rest := rest) (maxL := 1) (ret := (some .int)) C (fun M hC => by
    obtain ⟨M', e, hC'⟩ := h M hC
    exact ⟨M', c_X7_keep e, hC'⟩) qG_keep rfl (by decide +kernel) hR hcs rfl rfl rfl hW hdg kk
theorem o_most (C : CQ p s m args meth c cc nL D cs) (h : StG f_X7_most g r g') (hR : 4 + 1 ≤ R.frames ∧ 8 + (1 + 11) + 36 * 4 ≤ R.locals) (hcs : cells ≤ R.cells ∧ slots ≤ R.slots) (hW : (rest.map fun v => v.category).sum ≤ 8) (hdg : decode cc pc = .ok (.invokevirtual 29, 3)) (kk : VX p l e R s m args below meth c nL D A cells slots Q (gW cs ad g' wr) (pc + 3) lv (.int r :: rest)) : VX p l e R s m args below meth c nL D A cells slots Q (gW cs ad g wr) pc lv (.ref (ad 0) :: rest) :=
  q_callV (n := 0) (As := []) (rest := rest) (maxL := 1) (ret := (some .int)) C (fun M hC => by
    obtain ⟨M', e, hC'⟩ := h M hC
    exact ⟨M', c_X7_most e, hC'⟩) qG_most rfl (by decide +kernel) hR hcs rfl rfl rfl hW hdg kk
theorem o_moveOut (C : CQ p s m args meth c cc nL D cs) {a : Int32} (h : StG (f_X7_moveOut a) g r g') (hR : 3 + 1 ≤ R.frames ∧ 8 + (4 + 11) + 36 * 3 ≤ R.locals) (hcs : cells ≤ R.cells ∧ slots ≤ R.slots) (hW : (rest.map fun v => v.category).sum ≤ 8) (hdg : decode cc pc = .ok (.invokevirtual 60, 3)) (kk : VX p l e R s m args below meth c nL D A cells slots Q (gW cs ad g' wr) (pc + 3) lv (.int r :: rest)) : VX p l e R s m args below meth c nL D A cells slots Q (gW cs ad g wr) pc lv (.int a :: .ref (ad 0) :: rest) :=
  q_callV (n := 1) (As := [.int a]) (rest := rest) (maxL := 4) (ret := (some .int)) C (fun M hC => by
    obtain ⟨M', e, hC'⟩ := h M hC
    exact ⟨M', c_X7_moveOut e, hC'⟩) qG_moveOut rfl (by decide +kernel) hR hcs rfl rfl rfl hW hdg kk
theorem o_ordered (C : CQ p s m args meth c cc nL D cs) {a : Int32} (h : StG (f_X7_ordered a) g r g') (hR : 3 + 1 ≤ R.frames ∧ 8 + (2 + 11) + 36 * 3 ≤ R.locals) (hcs : cells ≤ R.cells ∧ slots ≤ R.slots) (hW : (rest.map fun v => v.category).sum ≤ 8) (hdg : decode cc pc = .ok (.invokevirtual 63, 3)) (kk : VX p l e R s m args below meth c nL D A cells slots Q (gW cs ad g' wr) (pc + 3) lv (.int r :: rest)) : VX p l e R s m args below meth c nL D A cells slots Q (gW cs ad g wr) pc lv (.int a :: .ref (ad 0) :: rest) :=
  q_callV (n := 1) (As := [.int a]) (rest := rest) (maxL := 2) (ret := (some .int)) C (fun M hC => by
    obtain ⟨M', e, hC'⟩ := h M hC
    exact ⟨M', c_X7_ordered e, hC'⟩) qG_ordered rfl (by decide +kernel) hR hcs rfl rfl rfl hW hdg kk
theorem o_readLists (C : CQ p s m args meth c cc nL D cs) (h : StG f_X7_readLists g r g') (hR : 5 + 1 ≤ R.frames ∧ 8 + (2 + 11) + 36 * 5 ≤ R.locals) (hcs : cells ≤ R.cells ∧ slots ≤ R.slots) (hW : (rest.map fun v => v.category).sum ≤ 8) (hdg : decode cc pc = .ok (.invokevirtual 109, 3)) (kk : VX p l e R s m args below meth c nL D A cells slots Q (gW cs ad g' wr) (pc + 3) lv (.int r :: rest)) : VX p l e R s m args below meth c nL D A cells slots Q (gW cs ad g wr) pc lv (.ref (ad 0) :: rest) :=
  q_callV (n := 0) (As := []) (rest := rest) (maxL := 2) (ret := (some .int)) C (fun M hC => by
    obtain ⟨M', e, hC'⟩ := h M hC
    exact ⟨M', c_X7_readLists e, hC'⟩) qG_readLists rfl (by decide +kernel) hR hcs rfl rfl rfl hW hdg kk
theorem o_restore (C : CQ p s m args meth c cc nL D cs) (h : StG f_X7_restore g r g') (hR : 3 + 1 ≤ R.frames ∧ 8 + (1 + 11) + 36 * 3 ≤ R.locals) (hcs : cells ≤ R.cells ∧ slots ≤ R.slots) (hW : (rest.map fun v => v.category).sum ≤ 8) (hdg : decode cc pc = .ok (.invokevirtual 90, 3)) (kk : VX p l e R s m args below meth c nL D A cells slots Q (gW cs ad g' wr) (pc + 3) lv (.int r :: rest)) : VX p l e R s m args below meth c nL D A cells slots Q (gW cs ad g wr) pc lv (.ref (ad 0) :: rest) :=
  q_callV (n := 0) (As := []) (rest := rest) (maxL := 1) (ret := (some .int)) C (fun M hC => by
    obtain ⟨M', e, hC'⟩ := h M hC
    exact ⟨M', c_X7_restore e, hC'⟩) qG_restore rfl (by decide +kernel) hR hcs rfl rfl rfl hW hdg kk
theorem o_round (C : CQ p s m args meth c cc nL D cs) (h : StG f_X7_round g r g') (hR : 4 + 1 ≤ R.frames ∧ 8 + (1 + 11) + 36 * 4 ≤ R.locals) (hcs : cells ≤ R.cells ∧ slots ≤ R.slots) (hW : (rest.map fun v => v.category).sum ≤ 8) (hdg : decode cc pc = .ok (.invokevirtual 93, 3)) (kk : VX p l e R s m args below meth c nL D A cells slots Q (gW cs ad g' wr) (pc + 3) lv (.int r :: rest)) : VX p l e R s m args below meth c nL D A cells slots Q (gW cs ad g wr) pc lv (.ref (ad 0) :: rest) :=
  q_callV (n := 0) (As := []) (rest := rest) (maxL := 1) (ret := (some .int)) C (fun M hC => by
    obtain ⟨M', e, hC'⟩ := h M hC
    exact ⟨M', c_X7_round e, hC'⟩) qG_round rfl (by decide +kernel) hR hcs rfl rfl rfl hW hdg kk
theorem o_swap (C : CQ p s m args meth c cc nL D cs) (h : StG f_X7_swap g r g') (hR : 5 + 1 ≤ R.frames ∧ 8 + (1 + 11) + 36 * 5 ≤ R.locals) (hcs : cells ≤ R.cells ∧ slots ≤ R.slots) (hW : (rest.map fun v => v.category).sum ≤ 8) (hdg : decode cc pc = .ok (.invokevirtual 96, 3)) (kk : VX p l e R s m args below meth c nL D A cells slots Q (gW cs ad g' wr) (pc + 3) lv (.int r :: rest)) : VX p l e R s m args below meth c nL D A cells slots Q (gW cs ad g wr) pc lv (.ref (ad 0) :: rest) :=
  q_callV (n := 0) (As := []) (rest := rest) (maxL := 1) (ret := (some .int)) C (fun M hC => by
    obtain ⟨M', e, hC'⟩ := h M hC
    exact ⟨M', c_X7_swap e, hC'⟩) qG_swap rfl (by decide +kernel) hR hcs rfl rfl rfl hW hdg kk
theorem o_type (C : CQ p s m args meth c cc nL D cs) {a : Int32} (h : StG (f_X7_type a) g r g') (hR : 1 + 1 ≤ R.frames ∧ 8 + (2 + 11) + 36 * 1 ≤ R.locals) (hcs : cells ≤ R.cells ∧ slots ≤ R.slots) (hW : (rest.map fun v => v.category).sum ≤ 8) (hdg : decode cc pc = .ok (.invokevirtual 82, 3)) (kk : VX p l e R s m args below meth c nL D A cells slots Q (gW cs ad g' wr) (pc + 3) lv (.int r :: rest)) : VX p l e R s m args below meth c nL D A cells slots Q (gW cs ad g wr) pc lv (.int a :: .ref (ad 0) :: rest) :=
  q_callV (n := 1) (As := [.int a]) (rest := rest) (maxL := 2) (ret := (some .int)) C (fun M hC => by
    obtain ⟨M', e, hC'⟩ := h M hC
    exact ⟨M', c_X7_type e, hC'⟩) qG_type rfl (by decide +kernel) hR hcs rfl rfl rfl hW hdg kk
theorem o_undo (C : CQ p s m args meth c cc nL D cs) (h : StG f_X7_undo g r g') (hR : 3 + 1 ≤ R.frames ∧ 8 + (1 + 11) + 36 * 3 ≤ R.locals) (hcs : cells ≤ R.cells ∧ slots ≤ R.slots) (hW : (rest.map fun v => v.category).sum ≤ 8) (hdg : decode cc pc = .ok (.invokevirtual 87, 3)) (kk : VX p l e R s m args below meth c nL D A cells slots Q (gW cs ad g' wr) (pc + 3) lv (.int r :: rest)) : VX p l e R s m args below meth c nL D A cells slots Q (gW cs ad g wr) pc lv (.ref (ad 0) :: rest) :=
  q_callV (n := 0) (As := []) (rest := rest) (maxL := 1) (ret := (some .int)) C (fun M hC => by
    obtain ⟨M', e, hC'⟩ := h M hC
    exact ⟨M', c_X7_undo e, hC'⟩) qG_undo rfl (by decide +kernel) hR hcs rfl rfl rfl hW hdg kk
theorem o_unwish (C : CQ p s m args meth c cc nL D cs) {a : Int32} {b : Int32} (h : StG (f_X7_unwish a b) g r g') (hR : 3 + 1 ≤ R.frames ∧ 8 + (5 + 11) + 36 * 3 ≤ R.locals) (hcs : cells ≤ R.cells ∧ slots ≤ R.slots) (hW : (rest.map fun v => v.category).sum ≤ 8) (hdg : decode cc pc = .ok (.invokevirtual 48, 3)) (kk : VX p l e R s m args below meth c nL D A cells slots Q (gW cs ad g' wr) (pc + 3) lv (.int r :: rest)) : VX p l e R s m args below meth c nL D A cells slots Q (gW cs ad g wr) pc lv (.int b :: .int a :: .ref (ad 0) :: rest) :=
  q_callV (n := 2) (As := [.int a, .int b]) (rest := rest) (maxL := 5) (ret := (some .int)) C (fun M hC => by
    obtain ⟨M', e, hC'⟩ := h M hC
    exact ⟨M', c_X7_unwish e, hC'⟩) qG_unwish rfl (by decide +kernel) hR hcs rfl rfl rfl hW hdg kk
theorem o_wish (C : CQ p s m args meth c cc nL D cs) {a : Int32} {b : Int32} (h : StG (f_X7_wish a b) g r g') (hR : 3 + 1 ≤ R.frames ∧ 8 + (4 + 11) + 36 * 3 ≤ R.locals) (hcs : cells ≤ R.cells ∧ slots ≤ R.slots) (hW : (rest.map fun v => v.category).sum ≤ 8) (hdg : decode cc pc = .ok (.invokevirtual 45, 3)) (kk : VX p l e R s m args below meth c nL D A cells slots Q (gW cs ad g' wr) (pc + 3) lv (.int r :: rest)) : VX p l e R s m args below meth c nL D A cells slots Q (gW cs ad g wr) pc lv (.int b :: .int a :: .ref (ad 0) :: rest) :=
  q_callV (n := 2) (As := [.int a, .int b]) (rest := rest) (maxL := 4) (ret := (some .int)) C (fun M hC => by
    obtain ⟨M', e, hC'⟩ := h M hC
    exact ⟨M', c_X7_wish e, hC'⟩) qG_wish rfl (by decide +kernel) hR hcs rfl rfl rfl hW hdg kk
theorem o_wished (C : CQ p s m args meth c cc nL D cs) {a : Int32} {b : Int32} (h : StG (f_X7_wished a b) g r g') (hR : 1 + 1 ≤ R.frames ∧ 8 + (4 + 11) + 36 * 1 ≤ R.locals) (hcs : cells ≤ R.cells ∧ slots ≤ R.slots) (hW : (rest.map fun v => v.category).sum ≤ 8) (hdg : decode cc pc = .ok (.invokevirtual 26, 3)) (kk : VX p l e R s m args below meth c nL D A cells slots Q (gW cs ad g' wr) (pc + 3) lv (.int r :: rest)) : VX p l e R s m args below meth c nL D A cells slots Q (gW cs ad g wr) pc lv (.int b :: .int a :: .ref (ad 0) :: rest) :=
  q_callV (n := 2) (As := [.int a, .int b]) (rest := rest) (maxL := 4) (ret := (some .int)) C (fun M hC => by
    obtain ⟨M', e, hC'⟩ := h M hC
    exact ⟨M', c_X7_wished e, hC'⟩) qG_wished rfl (by decide +kernel) hR hcs rfl rfl rfl hW hdg kk
theorem o_wouldGet (C : CQ p s m args meth c cc nL D cs) {a : Int32} {b : Int32} (h : StG (f_X7_wouldGet a b) g r g') (hR : 4 + 1 ≤ R.frames ∧ 8 + (3 + 11) + 36 * 4 ≤ R.locals) (hcs : cells ≤ R.cells ∧ slots ≤ R.slots) (hW : (rest.map fun v => v.category).sum ≤ 8) (hdg : decode cc pc = .ok (.invokevirtual 69, 3)) (kk : VX p l e R s m args below meth c nL D A cells slots Q (gW cs ad g' wr) (pc + 3) lv (.int r :: rest)) : VX p l e R s m args below meth c nL D A cells slots Q (gW cs ad g wr) pc lv (.int b :: .int a :: .ref (ad 0) :: rest) :=
  q_callV (n := 2) (As := [.int a, .int b]) (rest := rest) (maxL := 3) (ret := (some .int)) C (fun M hC => by
    obtain ⟨M', e, hC'⟩ := h M hC
    exact ⟨M', c_X7_wouldGet e, hC'⟩) qG_wouldGet rfl (by decide +kernel) hR hcs rfl rfl rfl hW hdg kk
end QO
