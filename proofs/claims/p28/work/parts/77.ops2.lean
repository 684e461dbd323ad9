/-! the text: typed and cleared -/
def txg (g : Gh) (n : Nat) (x : Nat → Int32) : Gh := (g.1, g.2.1, g.2.2.1, g.2.2.2.1, g.2.2.2.2.1, n, x)
theorem txg_GO {g : Gh} (G : GO g) {n : Nat} {x : Nat → Int32} (hn : n ≤ 60) (hx : ∀ i, i < n → x i ≠ -1) : GO (txg g n x) := ⟨G.1, G.2.1, G.2.2.1, hn, hx⟩
theorem CL.tx {M M' : Mem} {g : Gh} (C : CL M g) (G : GO g) {n : Nat} {x : Nat → Int32} (h : ∀ q, q ≠ 243 → q ≠ 244 → M' q = M q) (h1 : M' 243 1 = nI n) (h2 : ∀ i, i < n → M' 244 i = x i) : CL M' (txg g n x) := by
  obtain ⟨c1, ⟨c2, π, c3, c4, c5⟩, ⟨c6, c7⟩, c8, c9⟩ := C
  refine ⟨c1.co G.1.1 (fun i _ _ _ => h i (by omega) (by omega)), ⟨by rw [h 81 (by omega) (by omega)]; exact c2, π, fun j hj => by rw [h 82 (by omega) (by omega)]; exact c3 j hj, c4, fun j hj => ?_⟩, ⟨by rw [h 0 (by omega) (by omega)]; exact c6, fun hb => ?_⟩, h1, h2⟩
  · have hk := G.2.1.1
    have hj2 : j < gK g := hj
    have := (c3 j (by omega)).2
    exact (c5 j hj).co (G.2.1.2 j hj).1 (fun i _ _ _ => h i (by omega) (by omega))
  · exact (c7 hb).co (G.2.2.1 hb).1 (fun i _ _ _ => h i (by omega) (by omega))
theorem nar_char (a : Int32) : vp_nar .char a ≠ -1 := by
  show a.toUInt32.toUInt16.toUInt32.toInt32 ≠ -1
  intro q
  have h1 := congrArg Int32.toBitVec q
  have h2 := congrArg BitVec.toNat h1
  have h3 : (a.toUInt32.toUInt16.toUInt32.toInt32).toBitVec.toNat < 65536 := by
    show a.toUInt32.toUInt16.toUInt32.toNat < 65536
    rw [UInt16.toNat_toUInt32]
    exact a.toUInt32.toUInt16.toNat_lt
  rw [h2] at h3
  revert h3
  decide
