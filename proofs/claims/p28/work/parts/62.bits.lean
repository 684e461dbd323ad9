/-! sets as ints: the bit of a number -/
def bt (x : Int32) (j : Nat) : Bool := x.toBitVec.getLsbD j
theorem bt_or {x y : Int32} {j : Nat} : bt (x ||| y) j = (bt x j || bt y j) := by
  unfold bt
  rw [Int32.toBitVec_or, BitVec.getLsbD_or]
theorem bt_and {x y : Int32} {j : Nat} : bt (x &&& y) j = (bt x j && bt y j) := by
  unfold bt
  rw [Int32.toBitVec_and, BitVec.getLsbD_and]
theorem bt_zero {j : Nat} : bt 0 j = false := by
  unfold bt
  exact BitVec.getLsbD_zero
theorem bt_shl : ∀ k, k < 12 → ∀ j, j < 32 → bt ((1 : Int32) <<< (nI k &&& 31)) j = decide (j = k) := by
  decide +kernel
theorem bt_and1 (v : BitVec 32) : v &&& 1#32 = 0#32 ↔ v.getLsbD 0 = false := by
  constructor
  · intro h
    have := congrArg (fun z => z.getLsbD 0) h
    simpa using this
  · intro h
    refine BitVec.eq_of_getLsbD_eq (fun i hi => ?_)
    rw [BitVec.getLsbD_and, BitVec.getLsbD_zero]
    rcases Nat.eq_zero_or_pos i with e | e
    · subst e
      rw [h, Bool.false_and]
    · have : (1#32).getLsbD i = false := by
        rw [BitVec.getLsbD_one]
        simp
        omega
      rw [this, Bool.and_false]
theorem bt_amt : ∀ j, j < 12 → ((nI j &&& 31).toBitVec.smod 32).toNat = j := by
  decide +kernel
theorem bt_shr {x : Int32} {j : Nat} (hj : j < 12) : (x >>> (nI j &&& 31)) &&& 1 = 0 ↔ bt x j = false := by
  rw [← Int32.toBitVec_inj, Int32.toBitVec_and, Int32.toBitVec_shiftRight]
  show x.toBitVec.sshiftRight ((nI j &&& 31).toBitVec.smod 32).toNat &&& 1#32 = 0#32 ↔ _
  rw [bt_amt j hj, bt_and1, BitVec.getLsbD_sshiftRight]
  unfold bt
  simp
  intro _
  omega
theorem bt_eq {x y : Int32} (h : ∀ j, j < 32 → bt x j = bt y j) : x = y := by
  rw [← Int32.toBitVec_inj]
  exact BitVec.eq_of_getLsbD_eq h
theorem bt_m {x : Int32} {k : Nat} (hk : k < 12) : x &&& ((1 : Int32) <<< (nI k &&& 31)) = 0 ↔ bt x k = false := by
  constructor
  · intro h
    have h1 : bt (x &&& ((1 : Int32) <<< (nI k &&& 31))) k = false := by
      rw [h]
      exact bt_zero
    rw [bt_and, bt_shl k hk k (by omega), decide_eq_true rfl, Bool.and_true] at h1
    exact h1
  · intro h
    refine bt_eq (fun j hj => ?_)
    rw [bt_and, bt_shl k hk j hj, bt_zero]
    by_cases e : j = k
    · subst e
      rw [h, Bool.false_and]
    · rw [decide_eq_false e, Bool.and_false]
/-- the bit of a set that is gathered -/
theorem orI_bt {g : Nat → Int32} {j : Nat} : ∀ {d i : Nat} {a : Int32}, bt (orI g i d a) j = (bt a j || anyB (fun h => bt (g h) j) i d) := by
  intro d
  induction d with
  | zero =>
    intro i a
    exact (Bool.or_false _).symm
  | succ d ih =>
    intro i a
    unfold orI anyB
    rw [ih, bt_or, Bool.or_assoc]
theorem hsI_bt {s : Row} (hI : Inv s) {f : Nat} (hf : f < 12) : bt (hsI s) f = anyB (fun h => decide (hd s h = nI f)) 0 (nh s) := by
  have b0 := hI.h0l
  unfold hsI
  rw [orI_bt, bt_zero, Bool.false_or]
  have : ∀ (d i : Nat), i + d ≤ nh s → anyB (fun h => bt (if hd s h = -5 then 0 else (1 : Int32) <<< (hd s h &&& 31)) f) i d = anyB (fun h => decide (hd s h = nI f)) i d := by
    intro d
    induction d with
    | zero => intro i _; rfl
    | succ d ih =>
      intro i hi
      unfold anyB
      rw [ih (i + 1) (by omega)]
      congr 1
      rcases hd_cases hI (show i < nh s by omega) with c | ⟨k, c1, c2, c3, c4⟩
      · rw [if_pos c, bt_zero, c]
        exact (decide_eq_false (nIm5 (by omega))).symm
      · rw [if_neg c4, c2, bt_shl k (by omega) f (by omega)]
        refine decide_eq_decide.mpr ⟨fun q => by rw [q], fun q => (nI_inj (by omega) (by omega) q).symm⟩
  exact this (nh s) 0 (by omega)
