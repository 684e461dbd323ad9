/-! WHAT IS REFUSED ANYWAY -/
theorem inb_m1 {n : Nat} : inb (-1) n = false := decide_eq_false (fun q => absurd q.1 (by decide))
theorem inb_m4 {n : Nat} : inb (-4) n = false := decide_eq_false (fun q => absurd q.1 (by decide))
theorem inb_top {n : Nat} (h : n ≤ 12) : inb (nI n) n = false := decide_eq_false (fun q => by
  have h1 := q.2
  rw [nI_toInt (by omega)] at h1
  omega)
theorem inb_0 {n : Nat} (h : 1 ≤ n) (h2 : n ≤ 12) : inb 0 n = true := inbN (j := 0) (by omega) (by omega)
theorem nif {b : Bool} (h : b = false) : ¬ b = true := by rw [h]; exact Bool.false_ne_true
section RF
variable {g : Gh} {home flat x : Int32}
theorem f_addFlat1 (h : ¬ ((1 : Int32) ≤ x ∧ x ≤ 5)) : StG (f_X7_addFlat x 5) g (-2) g := stG_of (fun M G C => st_addFlat G C x 5) (by unfold tAddFlat; rw [if_neg h])
theorem f_addFlat2 (h : ¬ ((1 : Int32) ≤ x ∧ x ≤ 999)) : StG (f_X7_addFlat 3 x) g (-2) g := stG_of (fun M G C => st_addFlat G C 3 x) (by unfold tAddFlat; rw [if_pos (by decide), if_neg h])
theorem f_addHouse1 (h : ¬ ((1 : Int32) ≤ x ∧ x ≤ 9)) : StG (f_X7_addHousehold x 5) g (-2) g := stG_of (fun M G C => st_addHousehold G C x 5) (by unfold tAddHouse; rw [if_neg h])
theorem f_addHouse2 (h : ¬ ((1 : Int32) ≤ x ∧ x ≤ 9999)) : StG (f_X7_addHousehold 5 x) g (-2) g := stG_of (fun M G C => st_addHousehold G C 5 x) (by unfold tAddHouse; rw [if_pos (by decide), if_neg h])
theorem f_change_u {v : Int32} (hb : inb home (nh g.1) = false) : StG (f_X7_change home 1 v) g (-1) g := stG_of (fun M G C => st_change G C home 1 v (Or.inr rfl)) (by unfold tChange; rw [if_neg (nif hb)])
theorem f_change_1 (h0 : inb 0 (nh g.1) = true) (h : ¬ ((1 : Int32) ≤ x ∧ x ≤ 9999)) : StG (f_X7_change 0 1 x) g (-2) g := stG_of (fun M G C => st_change G C 0 1 x (Or.inr rfl)) (by unfold tChange; rw [if_pos h0, if_neg (by decide), if_neg h])
theorem f_change_0 (h0 : inb 0 (nh g.1) = true) (h : ¬ ((1 : Int32) ≤ x ∧ x ≤ 9)) : StG (f_X7_change 0 0 x) g (-2) g := stG_of (fun M G C => st_change G C 0 0 x (Or.inl rfl)) (by unfold tChange; rw [if_pos h0, if_pos rfl, if_neg h])
theorem f_house_0 (h0 : inb 0 (nh g.1) = true) : StG (f_X7_household 0 0) g (g.1 30) g := stG_of (fun M G C => st_household G C 0 0) (congrArg (fun z => (z, g)) (by unfold rHouse; rw [if_pos h0, if_pos rfl]; rfl))
theorem f_house_1 (h0 : inb 0 (nh g.1) = true) : StG (f_X7_household 0 1) g (g.1 31) g := stG_of (fun M G C => st_household G C 0 1) (congrArg (fun z => (z, g)) (by unfold rHouse; rw [if_pos h0, if_neg (by decide), if_pos rfl]; rfl))
theorem f_change_s0 (h0 : inb 0 (nh g.1) = true) (h : (1 : Int32) ≤ g.1 30 ∧ g.1 30 ≤ 9) : StG (f_X7_change 0 0 (g.1 30)) g (-5) g := stG_of (fun M G C => st_change G C 0 0 (g.1 30) (Or.inl rfl)) (by unfold tChange; rw [if_pos h0, if_pos rfl, if_pos h]; exact if_pos rfl)
theorem f_change_s1 (h0 : inb 0 (nh g.1) = true) (h : (1 : Int32) ≤ g.1 31 ∧ g.1 31 ≤ 9999) : StG (f_X7_change 0 1 (g.1 31)) g (-5) g := stG_of (fun M G C => st_change G C 0 1 (g.1 31) (Or.inr rfl)) (by unfold tChange; rw [if_pos h0, if_neg (by decide), if_pos h]; exact if_pos rfl)
theorem f_wish_u1 (hb : inb home (nh g.1) = false) : StG (f_X7_wish home 0) g (-1) g := stG_of (fun M G C => st_wish G C home 0) (by unfold tWish; rw [if_neg (nif hb)])
theorem f_wish_u2 (h0 : inb 0 (nh g.1) = true) (hf : inb flat (nf g.1) = false) : StG (f_X7_wish 0 flat) g (-1) g := stG_of (fun M G C => st_wish G C 0 flat) (by unfold tWish; rw [if_pos h0, if_neg (nif hf)])
theorem f_unwish_u1 (hb : inb home (nh g.1) = false) : StG (f_X7_unwish home 0) g (-1) g := stG_of (fun M G C => st_unwish G C home 0) (by unfold tUnwish; rw [if_neg (nif hb)])
theorem f_unwish_u2 (h0 : inb 0 (nh g.1) = true) (hf : inb flat (nf g.1) = false) : StG (f_X7_unwish 0 flat) g (-1) g := stG_of (fun M G C => st_unwish G C 0 flat) (by unfold tUnwish; rw [if_pos h0, if_neg (nif hf)])
theorem f_draw_u (hb : inb home (nh g.1) = false) : StG (f_X7_draw home 0) g (-1) g := stG_of (fun M G C => st_draw G C home 0) (by unfold tDraw; rw [if_neg (nif hb)])
theorem f_draw_b (h0 : inb 0 (nh g.1) = true) (h : ¬ ((1 : Int32) ≤ x ∧ x ≤ 999)) : StG (f_X7_draw 0 x) g (-2) g := stG_of (fun M G C => st_draw G C 0 x) (by unfold tDraw; rw [if_pos h0, if_neg h])
theorem f_decline_u (hb : inb home (nh g.1) = false) : StG (f_X7_decline home) g (-1) g := stG_of (fun M G C => st_decline G C home) (by unfold tDecline; rw [if_neg (nif hb)])
theorem f_appeal_u (hb : inb home (nh g.1) = false) : StG (f_X7_appeal home 9) g (-1) g := stG_of (fun M G C => st_appeal G C home 9) (by unfold tAppeal; rw [if_neg (nif hb)])
theorem f_appeal_b (h0 : inb 0 (nh g.1) = true) (h : ¬ ((0 : Int32) ≤ x ∧ x ≤ 2)) : StG (f_X7_appeal 0 x) g (-2) g := stG_of (fun M G C => st_appeal G C 0 x) (by unfold tAppeal; rw [if_pos h0, if_neg h])
theorem f_moveOut_u (hb : inb home (nh g.1) = false) : StG (f_X7_moveOut home) g (-1) g := stG_of (fun M G C => st_moveOut G C home) (by unfold tMoveOut; rw [if_neg (nif hb)])
theorem f_flat_u (hf : inb flat (nf g.1) = false) : StG (f_X7_flat flat 9) g (-1) g := stG_of (fun M G C => st_flat G C flat 9) (congrArg (fun z => (z, g)) (by unfold rFlat; rw [if_neg (nif hf)]))
theorem f_flat_b (h0 : inb 0 (nf g.1) = true) (h : x = -1 ∨ x = 5) : StG (f_X7_flat 0 x) g (-2) g := stG_of (fun M G C => st_flat G C 0 x) (congrArg (fun z => (z, g)) (by unfold rFlat; rcases h with rfl | rfl <;> rw [if_pos h0, if_neg (by decide), if_neg (by decide), if_neg (by decide), if_neg (by decide), if_neg (by decide)]))
theorem f_house_u (hb : inb home (nh g.1) = false) : StG (f_X7_household home 99) g (-1) g := stG_of (fun M G C => st_household G C home 99) (congrArg (fun z => (z, g)) (by unfold rHouse; rw [if_neg (nif hb)]))
theorem f_house_b (h0 : inb 0 (nh g.1) = true) (h : x = -1 ∨ x = 10) : StG (f_X7_household 0 x) g (-2) g := stG_of (fun M G C => st_household G C 0 x) (congrArg (fun z => (z, g)) (by unfold rHouse; rcases h with rfl | rfl <;> rw [if_pos h0, if_neg (by decide), if_neg (by decide), if_neg (by decide), if_neg (by decide), if_neg (by decide), if_neg (by decide), if_neg (by decide), if_neg (by decide), if_neg (by decide), if_neg (by decide)]))
theorem f_wished_u (hb : inb home (nh g.1) = false) : StG (f_X7_wished home (-1)) g (-1) g := stG_of (fun M G C => st_wished G C home (-1)) (congrArg (fun z => (z, g)) (by unfold rWished; rw [if_neg (nif hb)]))
theorem f_wished_b (h0 : inb 0 (nh g.1) = true) : StG (f_X7_wished 0 (-1)) g (-2) g := stG_of (fun M G C => st_wished G C 0 (-1)) (congrArg (fun z => (z, g)) (by unfold rWished; rw [if_pos h0, if_neg (by decide)]))
theorem f_wished_n (h0 : inb 0 (nh g.1) = true) (h6 : fP g.1 0 7 ≤ 6) : StG (f_X7_wished 0 6) g (-5) g := stG_of (fun M G C => st_wished G C 0 6) (congrArg (fun z => (z, g)) (by
  unfold rWished
  rw [if_pos h0, if_pos (by decide), if_neg (fun q => by
    have := (nIlt (a := 6) (b := fP g.1 0 7) (by omega) (by omega)).mp q
    omega)]))
theorem f_ordered_b : StG (f_X7_ordered (-1)) g (-2) g := stG_of (fun M G C => st_ordered G C (-1)) (congrArg (fun z => (z, g)) (by unfold rOrd; rw [if_neg (by decide)]))
theorem f_ordered_n (G : GO g) : StG (f_X7_ordered 12) g (-5) g := stG_of (fun M G C => st_ordered G C 12) (congrArg (fun z => (z, g)) (by
  have hI := G.1.1
  have b1 := hI.h1l
  have b2 := drN_le (s := g.1)
  unfold rOrd
  rw [if_pos (by decide), atO_none hI (by decide) (fun q => by
    have := (nIlt (a := 12) (b := drN g.1) (by omega) (by omega)).mp q
    omega)]
  rfl))
theorem f_envies_u1 (hb : inb home (nh g.1) = false) : StG (f_X7_envies home home) g (-1) g := stG_of (fun M G C => st_envies G C home home) (congrArg (fun z => (z, g)) (by unfold rEnv; rw [if_neg (nif hb)]))
theorem f_envies_u2 (h0 : inb 0 (nh g.1) = true) (hb : inb home (nh g.1) = false) : StG (f_X7_envies 0 home) g (-1) g := stG_of (fun M G C => st_envies G C 0 home) (congrArg (fun z => (z, g)) (by unfold rEnv; rw [if_pos h0, if_neg (nif hb)]))
theorem f_envies_s (h0 : inb 0 (nh g.1) = true) : StG (f_X7_envies 0 0) g (-2) g := stG_of (fun M G C => st_envies G C 0 0) (congrArg (fun z => (z, g)) (by unfold rEnv; rw [if_pos h0, if_pos h0, if_pos rfl]))
theorem f_would_u1 (hb : inb home (nh g.1) = false) : StG (f_X7_wouldGet home 0) g (-1) g := stG_of (fun M G C => st_would G C home 0) (congrArg (fun z => (z, g)) (by unfold rWould; rw [if_neg (nif hb)]))
theorem f_would_u2 (h0 : inb 0 (nh g.1) = true) (hb : inb x (nh g.1) = false) (h5 : ¬ x = -5) : StG (f_X7_wouldGet 0 x) g (-1) g := stG_of (fun M G C => st_would G C 0 x) (congrArg (fun z => (z, g)) (by unfold rWould; rw [if_pos h0, if_neg h5, if_neg (nif hb)]))
theorem f_would_n (h0 : inb 0 (nh g.1) = true) : StG (f_X7_wouldGet 0 0) g (-5) g := stG_of (fun M G C => st_would G C 0 0) (congrArg (fun z => (z, g)) (by unfold rWould; rw [if_pos h0, if_neg (by decide), if_pos h0, wgL_self]))
theorem f_count_b (h : x = -1 ∨ x = 13) : StG (f_X7_count x) g (-2) g := stG_of (fun M G C => st_count G C x) (congrArg (fun z => (z, g)) (by unfold rCount; rcases h with rfl | rfl <;> rw [if_neg (by decide), if_neg (by decide), if_neg (by decide), if_neg (by decide), if_neg (by decide), if_neg (by decide), if_neg (by decide), if_neg (by decide), if_neg (by decide), if_neg (by decide), if_neg (by decide), if_neg (by decide), if_neg (by decide)]))
theorem f_count_0 (G : GO g) : StG (f_X7_count 0) g (nI (nf g.1)) g := stG_of (fun M G C => st_count G C 0) (congrArg (fun z => (z, g)) (by unfold rCount; rw [if_pos rfl]; exact G.1.1.h0))
theorem f_count_1 (G : GO g) : StG (f_X7_count 1) g (nI (nh g.1)) g := stG_of (fun M G C => st_count G C 1) (congrArg (fun z => (z, g)) (by unfold rCount; rw [if_neg (by decide), if_pos rfl]; exact G.1.1.h1))
theorem f_count_11 : StG (f_X7_count 11) g (nI (gK g)) g := stG_of (fun M G C => st_count G C 11) (congrArg (fun z => (z, g)) (by unfold rCount; rw [if_neg (by decide), if_neg (by decide), if_neg (by decide), if_neg (by decide), if_neg (by decide), if_neg (by decide), if_neg (by decide), if_neg (by decide), if_neg (by decide), if_neg (by decide), if_neg (by decide), if_pos rfl]))
end RF
/-- the first household's numbers are in order -/
theorem m30 {g : Gh} (G : GO g) (h : 1 ≤ nh g.1) : (1 : Int32) ≤ g.1 30 ∧ g.1 30 ≤ 9 := by
  obtain ⟨⟨n1, n2, n3⟩, -⟩ := Inv.nu G.1.1 (show 0 < nh g.1 by omega)
  have e : g.1 30 = nI (fP g.1 0 0) := n1
  rw [e]
  exact ⟨(nIle (a := 1) (b := fP g.1 0 0) (by omega) (by omega)).mpr n2, (nIle (a := fP g.1 0 0) (b := 9) (by omega) (by omega)).mpr n3⟩
theorem m31 {g : Gh} (G : GO g) (h : 1 ≤ nh g.1) (h1 : 1 ≤ fP g.1 0 1) : (1 : Int32) ≤ g.1 31 ∧ g.1 31 ≤ 9999 := by
  obtain ⟨-, ⟨n1, n2⟩, -⟩ := Inv.nu G.1.1 (show 0 < nh g.1 by omega)
  have e : g.1 31 = nI (fP g.1 0 1) := n1
  rw [e]
  exact ⟨(nIle (a := 1) (b := fP g.1 0 1) (by omega) (by omega)).mpr h1, (nIle (a := fP g.1 0 1) (b := 9999) (by omega) (by omega)).mpr n2⟩
