/-! EVERY CALL OF THE CLASS AS A STEP OF THE GHOST: what it answers, what it leaves -/
def OkC (M : Mem) (F : Mem → Option (Int32 × Mem)) (q : Int32 × Gh) : Prop := GO q.2 ∧ ∃ M1, F M = some (q.1, M1) ∧ CL M1 q.2
theorem k_mk {M : Mem} {F : Mem → Option (Int32 × Mem)} {g' : Gh} {r : Int32} {t : Int32 × Gh} (e : t = (r, g')) (hG : GO g') (hc : ∃ M1, F M = some (r, M1) ∧ CL M1 g' ∧ ∀ q, 255 ≤ q → M1 q = M q) : OkC M F t := by
  subst e
  obtain ⟨M1, h1, h2, -⟩ := hc
  exact ⟨hG, M1, h1, h2⟩
theorem k_b {M : Mem} {F : Mem → Option (Int32 × Mem)} {g' : Gh} {r : Int32} {t : Int32 × Gh} (e : t = (r, g')) (hG : GO g') (hc : ∃ M1, F M = some (r, M1) ∧ CL M1 g') : OkC M F t := by
  subst e
  exact ⟨hG, hc⟩
theorem k_q0 {M : Mem} {F : Mem → Option (Int32 × Mem)} {g : Gh} {r : Int32} {t : Int32 × Gh} (e : t = (r, g)) (hG : GO g) (hC : CL M g) (hc : F M = some (r, M)) : OkC M F t := k_b e hG ⟨M, hc, hC⟩
theorem k_q {M : Mem} {F : Mem → Option (Int32 × Mem)} {g : Gh} {r : Int32} {t : Int32 × Gh} (e : t = (r, g)) (hG : GO g) (hC : CL M g) (hc : ∃ M1, F M = some (r, M1) ∧ (∀ q, q ≠ 4 → q < 248 ∨ 255 ≤ q → M1 q = M q)) : OkC M F t := by
  obtain ⟨M1, f1, f2⟩ := hc
  exact k_b e hG ⟨M1, f1, hC.co hG (fun q h1 h2 _ => f2 q h2 (by omega)) (by rw [f2 243 (by omega) (by omega)])⟩
theorem k_st {M : Mem} {F : Mem → Option (Int32 × Mem)} {g : Gh} {s' : Row} {r : Int32} {t : Int32 × Gh} (e : t = (r, setS (psh g) s')) (G : GO g) (hI' : Inv s') (hZ' : Zr s') (hc : ∃ M1 M2, F M = some (r, M2) ∧ CL M1 (psh g) ∧ RS M2 1 s' ∧ (∀ q, q = 0 ∨ 41 ≤ q → q < 245 → q ≠ 243 → M2 q = M1 q) ∧ M2 243 1 = M1 243 1 ∧ ∀ q, 255 ≤ q → M2 q = M q) : OkC M F t := by
  obtain ⟨M1, M2, f1, f2, f3, f4, f5, -⟩ := hc
  exact k_b e (setS_GO (psh_GO G) hI' hZ') ⟨M2, f1, f2.set (psh_GO G) f3 f4 f5⟩
def rFlat (s : Row) (a b : Int32) : Int32 := if inb a (nf s) = true then (if b = 0 then s (6 + 2 * a.toNatClampNeg) else if b = 1 then s (6 + 2 * a.toNatClampNeg + 1) else if b = 2 then oI (hoO s a) else if b = 3 then wsI s a else if b = 4 then esI s a.toNatClampNeg else -2) else -1
def rHouse (s : Row) (a b : Int32) : Int32 := if inb a (nh s) = true then (if b = 0 then s (30 + 14 * a.toNatClampNeg + 0) else if b = 1 then s (30 + 14 * a.toNatClampNeg + 1) else if b = 2 then noI s a.toNatClampNeg else if b = 3 then s (30 + 14 * a.toNatClampNeg + 3) else if b = 4 then hd s a.toNatClampNeg else if b = 5 then s (30 + 14 * a.toNatClampNeg + 7) else if b = 6 then s (30 + 14 * a.toNatClampNeg + 5) else if b = 7 then (if drB s a.toNatClampNeg = true then nI (poN s a.toNatClampNeg) else -5) else if b = 8 then oI (ptO s a.toNatClampNeg) else if b = 9 then s (30 + 14 * a.toNatClampNeg + 6) else -2) else -1
def rWished (s : Row) (a b : Int32) : Int32 := if inb a (nh s) = true then (if (0 : Int32) ≤ b then (if b < nI (fP s a.toNatClampNeg 7) then s (30 + 14 * a.toNatClampNeg + 8 + b.toNatClampNeg) else -5) else -2) else -1
def rOrd (s : Row) (a : Int32) : Int32 := if (0 : Int32) ≤ a then oI (atO s a) else -2
def rEnv (s : Row) (a b : Int32) : Int32 := if inb a (nh s) = true then (if inb b (nh s) = true then (if a = b then -2 else evI s a.toNatClampNeg b.toNatClampNeg) else -1) else -1
def rWould (s : Row) (a b : Int32) : Int32 := if inb a (nh s) = true then (if b = -5 then wgL s a b (drN s) 0 0 else if inb b (nh s) = true then wgL s a b (drN s) 0 0 else -1) else -1
def rCount (g : Gh) (b : Int32) : Int32 := if b = 0 then g.1 0 else if b = 1 then g.1 1 else if b = 2 then nI (hdN g.1) else if b = 3 then g.1 2 else if b = 4 then nI (drN g.1) else if b = 5 then nI (prN g.1 1 0 (nh g.1 * nh g.1)) else if b = 6 then nI (prN g.1 2 0 (nh g.1 * nh g.1)) else if b = 7 then nI (cntN (rgB g.1) 0 (nh g.1)) else if b = 8 then g.1 3 else if b = 9 then g.1 4 else if b = 10 then g.1 5 else if b = 11 then nI (gK g) else if b = 12 then nI (gN g) else -2
def tMoveOut (g : Gh) (a : Int32) : Int32 × Gh := if inb a (nh g.1) = true then (if hd g.1 a.toNatClampNeg = -5 then (-5, g) else (hd g.1 a.toNatClampNeg, setS (psh g) (ur g.1 (30 + 14 * a.toNatClampNeg + 4) (-5)))) else (-1, g)
def tKeep (g : Gh) : Int32 × Gh := (nI (hdN g.1), kpg g)
def tRestore (g : Gh) : Int32 × Gh := if gB g = true then (nI (hdN (gS g)), setS (psh g) (gS g)) else (-5, g)
def tUndo (g : Gh) : Int32 × Gh := if gK g = 0 then (-5, g) else (nI (gK g - 1), udg g)
def tRound (g : Gh) : Int32 × Gh := if drN g.1 = 0 then (-4, g) else (nI (rdL (drN g.1) 0 g.1 0).2, setS (psh g) (ur (rdL (drN g.1) 0 g.1 0).1 2 (g.1 2 + 1)))
def tSwap (g : Gh) : Int32 × Gh := if loO g.1 = none then (-5, g) else (nI (swA 73 g.1 0).2, setS (psh g) (swA 73 g.1 0).1)
def tChange (g : Gh) (a b v : Int32) : Int32 × Gh := if inb a (nh g.1) = true then (if b = 0 then (if (1 : Int32) ≤ v ∧ v ≤ 9 then (if g.1 (30 + 14 * a.toNatClampNeg + 0) = v then (-5, g) else (g.1 (30 + 14 * a.toNatClampNeg + 0), setS (psh g) (ur g.1 (30 + 14 * a.toNatClampNeg + 0) v))) else (-2, g)) else (if (1 : Int32) ≤ v ∧ v ≤ 9999 then (if g.1 (30 + 14 * a.toNatClampNeg + 1) = v then (-5, g) else (g.1 (30 + 14 * a.toNatClampNeg + 1), setS (psh g) (ur g.1 (30 + 14 * a.toNatClampNeg + 1) v))) else (-2, g))) else (-1, g)
def tDraw (g : Gh) (a b : Int32) : Int32 × Gh := if inb a (nh g.1) = true then (if (1 : Int32) ≤ b ∧ b ≤ 999 then (match owO g.1 b with | none => (nI (drN (ur g.1 (30 + 14 * a.toNatClampNeg + 2) b)), setS (psh g) (ur g.1 (30 + 14 * a.toNatClampNeg + 2) b)) | some o => if o = a.toNatClampNeg then (-5, g) else (-4, g)) else (-2, g)) else (-1, g)
def tAddFlat (g : Gh) (a b : Int32) : Int32 × Gh := if (1 : Int32) ≤ a ∧ a ≤ 5 then (if (1 : Int32) ≤ b ∧ b ≤ 999 then (if nf g.1 < 12 then (nI (nf g.1), setS (psh g) (adF g.1 a b)) else (-3, g)) else (-2, g)) else (-2, g)
def tAddHouse (g : Gh) (a b : Int32) : Int32 × Gh := if (1 : Int32) ≤ a ∧ a ≤ 9 then (if (1 : Int32) ≤ b ∧ b ≤ 9999 then (if nh g.1 < 12 then (nI (nh g.1), setS (psh g) (adH g.1 a b)) else (-3, g)) else (-2, g)) else (-2, g)
def tWish (g : Gh) (a b : Int32) : Int32 × Gh := if inb a (nh g.1) = true then (if inb b (nf g.1) = true then (if fP g.1 a.toNatClampNeg 7 < 6 then (match plO g.1 a.toNatClampNeg b with | none => (nI (fP g.1 a.toNatClampNeg 7 + 1), setS (psh g) (adW g.1 a.toNatClampNeg b.toNatClampNeg)) | some _ => (-4, g)) else (-3, g)) else (-1, g)) else (-1, g)
def tUnwish (g : Gh) (a b : Int32) : Int32 × Gh := if inb a (nh g.1) = true then (if inb b (nf g.1) = true then (match plO g.1 a.toNatClampNeg b with | none => (-5, g) | some p => (nI p, setS (psh g) (rmW g.1 a.toNatClampNeg p))) else (-1, g)) else (-1, g)
def tReadE (g : Gh) (o : Option Nat) (ls : List (Nat × List Nat)) : Int32 × Gh := match o with
  | some q => (-100 - nI q, g)
  | none => if knA g.1 ls = true then (if twA ls = true then (-2, g) else (nI ls.length, setS (psh g) (layA g.1 ls))) else (-1, g)
def tRead (g : Gh) : Int32 × Gh := tReadE g (txS (gN g) (gX g) 16 0 []).1 (txS (gN g) (gX g) 16 0 []).2
def tDecline (g : Gh) (a : Int32) : Int32 × Gh := if inb a (nh g.1) = true then (if hd g.1 a.toNatClampNeg = -5 then (-4, g) else (hd g.1 a.toNatClampNeg, setS (psh g) (ur (ur (rmO (ur g.1 (30 + 14 * a.toNatClampNeg + 4) (-5)) a.toNatClampNeg (hd g.1 a.toNatClampNeg)) (30 + 14 * a.toNatClampNeg + 3) (nI (fP g.1 a.toNatClampNeg 3 - 1))) 5 (g.1 5 + 1)))) else (-1, g)
def tAppeal (g : Gh) (a b : Int32) : Int32 × Gh := if inb a (nh g.1) = true then (if (0 : Int32) ≤ b ∧ b ≤ 2 then (if fP g.1 a.toNatClampNeg 5 < 2 then (if rsB g.1 a.toNatClampNeg b.toNatClampNeg = true then (nI (fP g.1 a.toNatClampNeg 3 + (1 + b.toNatClampNeg)) + 100, setS (psh g) (apY g.1 a.toNatClampNeg b.toNatClampNeg)) else (nI (fP g.1 a.toNatClampNeg 3), setS (psh g) (apN g.1 a.toNatClampNeg))) else (-3, g)) else (-2, g)) else (-1, g)
def tClear (g : Gh) : Int32 × Gh := (nI (gN g), txg g 0 (gX g))
def tType (g : Gh) (a : Int32) : Int32 × Gh := if gN g < 60 then (nI (gN g + 1), txg g (gN g + 1) (fun i => if i = gN g then vp_nar .char a else gX g i)) else (-3, g)
/-- how many could be housed at most -/
noncomputable def moN (s : Row) : Nat := Classical.epsilon (fun c => tpM (gdB s) (nh s) c)
theorem moN_eq {s : Row} {c : Nat} (h : tpM (gdB s) (nh s) c) : moN s = c := tpM_uq (Classical.epsilon_spec ⟨c, h⟩) h
theorem st_most {M : Mem} {g : Gh} (G : GO g) (C : CL M g) : OkC M f_X7_most (nI (moN g.1), g) := by
  obtain ⟨c, M1, e1, e2, e3⟩ := k_greatest G.1.1 C.1
  exact k_q (r := nI c) (by rw [moN_eq e2]) G C ⟨M1, by unfold f_X7_most; rw [e1, bd_s], fun q h1 h2 => e3 q (by omega)⟩
