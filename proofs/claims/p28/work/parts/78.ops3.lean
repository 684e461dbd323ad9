/-! WHAT CHANGES THE STATE -/
def setS (g : Gh) (s : Row) : Gh := (s, g.2)
theorem setS_GO {g : Gh} (G : GO g) {s : Row} (hI : Inv s) (hZ : Zr s) : GO (setS g s) := ⟨⟨hI, hZ⟩, G.2⟩
theorem CL.set {M M' : Mem} {g : Gh} {s : Row} (C : CL M g) (G : GO g) (R : RS M' 1 s) (h : ∀ q, q = 0 ∨ 41 ≤ q → q < 245 → q ≠ 243 → M' q = M q) (h1 : M' 243 1 = M 243 1) : CL M' (setS g s) := by
  obtain ⟨-, ⟨c2, π, c3, c4, c5⟩, ⟨c6, c7⟩, c8, c9⟩ := C
  refine ⟨R, ⟨by rw [h 81 (by omega) (by omega) (by omega)]; exact c2, π, fun j hj => by rw [h 82 (by omega) (by omega) (by omega)]; exact c3 j hj, c4, fun j hj => ?_⟩, ⟨by rw [h 0 (by omega) (by omega) (by omega)]; exact c6, fun hb => ?_⟩, by rw [h1]; exact c8, fun i hi => by rw [h 244 (by omega) (by omega) (by omega)]; exact c9 i hi⟩
  · have hk := G.2.1.1
    have hj2 : j < gK g := hj
    have := (c3 j (by omega)).2
    exact (c5 j hj).co (G.2.1.2 j hj).1 (fun i _ _ _ => h i (by omega) (by omega) (by omega))
  · exact (c7 hb).co (G.2.2.1 hb).1 (fun i _ _ _ => h i (by omega) (by omega) (by omega))
theorem row_eq {a b : Row} (h : ∀ k, k < 198 → a k = b k) (ha : Zr a) (hb : Zr b) : a = b := by
  funext k
  by_cases c : k < 198
  · exact h k c
  · rw [ha k (by omega), hb k (by omega)]
theorem Inv.ag {s s' : Row} (hI : Inv s) (g : ∀ i, i ≠ 2 → i ≠ 4 → i ≠ 5 → s' i = s i) : Inv s' := by
  have e0 : nf s' = nf s := by
    unfold nf
    rw [g 0 (by omega) (by omega) (by omega)]
  have e1 : nh s' = nh s := by
    unfold nh
    rw [g 1 (by omega) (by omega) (by omega)]
  have hb : ∀ o k, k < 14 → s' (30 + 14 * o + k) = s (30 + 14 * o + k) := fun o k hk => g _ (by omega) (by omega) (by omega)
  have ef : ∀ o k, k < 14 → fP s' o k = fP s o k := fun o k hk => by
    unfold fP
    rw [hb o k hk]
  have eh : ∀ o, hd s' o = hd s o := fun o => hb o 4 (by omega)
  refine ⟨⟨⟨?_, ?_⟩, ?_, ?_⟩, ⟨fun f hf => ?_, fun o ho => ?_⟩, ⟨fun a b ha hb2 hq hne => ?_, fun a b ha hb2 hq hne => ?_⟩, ?_⟩
  · rw [e0, g 0 (by omega) (by omega) (by omega)]
    exact hI.h0
  · rw [e0]
    exact hI.h0l
  · rw [e1, g 1 (by omega) (by omega) (by omega)]
    exact hI.h1
  · rw [e1]
    exact hI.h1l
  · rw [e0] at hf
    have := hI.fl hf
    unfold FlOk rm rt at *
    rw [g (6 + 2 * f) (by omega) (by omega) (by omega), g (6 + 2 * f + 1) (by omega) (by omega) (by omega)]
    exact this
  · rw [e1] at ho
    exact ⟨(hI.nu ho).co (hb o), (hI.ls ho).co e0 (hb o), (hI.hdk ho).co e0 (hb o 4 (by omega))⟩
  · rw [e1] at ha hb2
    rw [eh, eh] at hq
    rw [eh] at hne
    exact hI.uh a b ha hb2 hq hne
  · rw [e1] at ha hb2
    rw [ef a 2 (by omega)] at hq hne
    rw [ef b 2 (by omega)] at hq
    exact hI.un a b ha hb2 hq hne
  · rw [e1, g 3 (by omega) (by omega) (by omega), hI.2.2.2]
    congr 1
    exact sumN_congr (fun i _ => (ef i 5 (by omega)).symm)
/-! moving out -/
theorem RSw {M : Mem} {s : Row} {h : Nat} {v : Int32} (R : RS M 1 s) (hI : Inv s) : RS (up M (17 + 2 * h) 6 v) 1 (ur s (30 + 14 * h + 4) v) := RS_held R hI.h0l hI.h1l (fun _ ho => (hI.ls ho).1.2)
/-! keeping, restoring, taking back -/
def kpg (g : Gh) : Gh := (g.1, g.2.1, g.2.2.1, true, g.1, g.2.2.2.2.2)
def udg (g : Gh) : Gh := (gT g (gK g - 1), gK g - 1, g.2.2)
