/-! HAND-MADE RUNS: one step of the ghost at written numbers -/
theorem stG_of2 {F : Mem → Option (Int32 × Mem)} {g g' : Gh} {t : Int32 × Gh} {r : Int32} (h : ∀ M, GO g → CL M g → OkC M F t) (e : GO g → GO t.2 → t = (r, g')) : StG F g r g' := by
  rintro M ⟨G, C⟩
  obtain ⟨h1, M', h2, h3⟩ := h M G C
  have e1 := e G h1
  rw [e1] at h1 h2 h3
  exact ⟨M', h2, h1, h3⟩
theorem step_p {F : Mem → Option (Int32 × Mem)} {g : Gh} {t : Int32 × Gh} {r : Int32} (h : ∀ M, GO g → CL M g → OkC M F t) (a : GO g → Act0 g t) (e : t.1 = r) (hr : (0 : Int32) ≤ r) {l : List Int32} (hl : l.length ≤ 198) (hs : allN (fun i => decide (t.2.1 i = lk l i)) 198 = true) : StG F g r (setS (psh g) (lk l)) :=
  stG_of2 h (fun G G' => tp (a G) e hr (row_l G'.1.2 hl hs))
theorem step_n {F : Mem → Option (Int32 × Mem)} {g : Gh} {t : Int32 × Gh} {r : Int32} (h : ∀ M, GO g → CL M g → OkC M F t) (a : GO g → Act0 g t) (e : t.1 = r) (hr : r < 0) : StG F g r g := stG_of2 h (fun G _ => tn (a G) e hr)
theorem step_read {g : Gh} {r : Int32} (h1 : (txS (gN g) (gX g) 16 0 []).1 = none) (h2 : knA g.1 (txS (gN g) (gX g) 16 0 []).2 = true) (h3 : twA (txS (gN g) (gX g) 16 0 []).2 = false) (e : nI (txS (gN g) (gX g) 16 0 []).2.length = r) {l : List Int32} (hl : l.length ≤ 198) (hs : allN (fun i => decide (layA g.1 (txS (gN g) (gX g) 16 0 []).2 i = lk l i)) 198 = true) : StG f_X7_readLists g r (setS (psh g) (lk l)) := by
  refine stG_of2 (t := tRead g) (fun M G C => st_readLists G C) (fun G G' => ?_)
  have e0 : tRead g = (nI (txS (gN g) (gX g) 16 0 []).2.length, setS (psh g) (layA g.1 (txS (gN g) (gX g) 16 0 []).2)) := by
    unfold tRead
    rw [h1]
    show (if knA g.1 _ = true then (if twA _ = true then ((-2 : Int32), g) else _) else (-1, g)) = _
    rw [if_pos h2, if_neg (by rw [h3]; exact Bool.false_ne_true)]
  rw [e0] at G' ⊢
  have hz : layA g.1 (txS (gN g) (gX g) 16 0 []).2 = lk l := row_l (show Zr (layA g.1 (txS (gN g) (gX g) 16 0 []).2) from G'.1.2) hl hs
  rw [e, hz]
theorem step_fault {g : Gh} {q : Nat} {r : Int32} (h1 : (txS (gN g) (gX g) 16 0 []).1 = some q) (e : -100 - nI q = r) : StG f_X7_readLists g r g := stG_of (t := tRead g) (fun M G C => st_readLists G C) (by
  unfold tRead
  rw [h1]
  subst e
  rfl)
theorem step_unk {g : Gh} (h1 : (txS (gN g) (gX g) 16 0 []).1 = none) (h2 : knA g.1 (txS (gN g) (gX g) 16 0 []).2 = false) : StG f_X7_readLists g (-1) g := stG_of (t := tRead g) (fun M G C => st_readLists G C) (by
  unfold tRead
  rw [h1]
  show (if knA g.1 _ = true then _ else ((-1 : Int32), g)) = _
  rw [if_neg (by rw [h2]; exact Bool.false_ne_true)])
theorem step_twice {g : Gh} (h1 : (txS (gN g) (gX g) 16 0 []).1 = none) (h2 : knA g.1 (txS (gN g) (gX g) 16 0 []).2 = true) (h3 : twA (txS (gN g) (gX g) 16 0 []).2 = true) : StG f_X7_readLists g (-2) g := stG_of (t := tRead g) (fun M G C => st_readLists G C) (by
  unfold tRead
  rw [h1]
  show (if knA g.1 _ = true then (if twA _ = true then ((-2 : Int32), g) else _) else (-1, g)) = _
  rw [if_pos h2, if_pos h3])
theorem gK_s {g : Gh} {s : Row} {n : Nat} (h : gK g = n) : gK (setS (psh g) s) = if n < 4 then n + 1 else 4 := by
  subst h
  rfl
theorem gK_tyc {g : Gh} {c : Int32} : gK (tyc g c) = gK g ∧ (tyc g c).1 = g.1 := by
  unfold tyc
  by_cases h : c = 0
  · rw [if_pos h]
    exact ⟨rfl, rfl⟩
  · rw [if_neg h]
    exact ⟨rfl, rfl⟩
theorem gK_tyW {g : Gh} {w : Int64} {n : Nat} (h : gK g = n) : gK (tyW g w) = n := by
  unfold tyW
  rw [gK_tyc.1, gK_tyc.1, gK_tyc.1, gK_tyc.1, gK_tyc.1, gK_tyc.1, gK_tyc.1, gK_tyc.1]
  exact h
theorem step_undo {g : Gh} {s : Row} (hk : gK g = 4) : StG f_X7_undo (setS (psh g) s) 3 (g.1, 3, (psh g).2.2) := by
  refine stG_of (t := tUndo (setS (psh g) s)) (fun M G C => st_undo G C) ?_
  have e : gK (setS (psh g) s) = 4 := gK_s hk
  have e2 : gT (setS (psh g) s) 3 = g.1 := by
    show (if gK g < 4 then (fun j => if j = gK g then g.1 else gT g j) else (fun j => if j = 3 then g.1 else gT g (j + 1))) 3 = g.1
    rw [if_neg (by omega)]
    rfl
  unfold tUndo
  rw [if_neg (by rw [e]; decide)]
  unfold udg
  rw [e, e2]
  rfl
theorem step_count11 {g : Gh} {n : Nat} (h : gK g = n) : StG (f_X7_count 11) g (nI n) g := by
  subst h
  exact f_count_11
theorem tp_all {s : Row} {c : Nat} (N : Nat → Option Nat) (hN : Mat (gdB s) (nh s) N) (hc : msz N (nh s) = c) (hle : c = nh s) : tpM (gdB s) (nh s) c := ⟨⟨N, hN, hc⟩, fun N' _ => by rw [hle]; exact cntN_le⟩
theorem step_most {g : Gh} {c : Nat} (h : tpM (gdB g.1) (nh g.1) c) : StG f_X7_most g (nI c) g := stG_of (fun M G C => st_most G C) (by rw [moN_eq h])
section QG
variable {p : Program} {l : Launch} {e : Env} {R : Room} {s : State} {m : MethodId} {args : Array Value} {below : List Frame} {meth : Method} {c : Code} {nL : Nat} {D : va_G} {cs : Nat → ClassId} {A : Nat → Prop} {cells slots : Nat} {Q : State → Prop} {pc : Nat} {lv : List (Nat × Value)} {st : List Value} {ad : Nat → Nat} {g : Gh} {wr : va_W}
theorem q_go (k : GO g → VX p l e R s m args below meth c nL D A cells slots Q (gW cs ad g wr) pc lv st) : VX p l e R s m args below meth c nL D A cells slots Q (gW cs ad g wr) pc lv st := by
  rintro ws H locs ls ⟨M, hC, rfl⟩
  exact k hC.1 _ H locs ls ⟨M, hC, rfl⟩
end QG
