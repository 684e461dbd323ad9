/-! homes: the states and the steps (written by wip/p28/tools/mk_h.py) -/
def hg0 : Gh := g0
theorem hk0 : gK hg0 = 0 := rfl
theorem hs1 : StG f_X7_undo hg0 (-5 : Int32) hg0 := stG_of (t := tUndo hg0) (fun M G C => st_undo G C) (by unfold tUndo; rw [if_pos hk0])
theorem hs2 : StG f_X7_restore hg0 (-5 : Int32) hg0 := stG_of (t := tRestore hg0) (fun M G C => st_restore G C) (by unfold tRestore; rw [if_neg (by decide +kernel)])
theorem hs3 : StG f_X7_round hg0 (-4 : Int32) hg0 := step_n (fun M G C => st_round G C) (fun G => (a_round G).a0) (by decide +kernel) (by decide)
theorem hs4 : StG f_X7_swap hg0 (-5 : Int32) hg0 := step_n (fun M G C => st_swap G C) (fun G => (a_swap G).a0) (by decide +kernel) (by decide)
theorem ht5 : tpM (gdB hg0.1) (nh hg0.1) 0 := tp_all (fun _ => none) Mat_0 rfl rfl
theorem hs5 : StG f_X7_most hg0 (0 : Int32) hg0 := step_most ht5
def hl1 : List Int32 := [1, 0, 0, 0, 0, 0, 2, 100]
def hg1 : Gh := setS (psh hg0) (lk hl1)
theorem hk1 : gK hg1 = 1 := gK_s hk0
theorem hs6 : StG (f_X7_addFlat (2 : Int32) (100 : Int32)) hg0 (0 : Int32) hg1 := step_p (l := hl1) (fun M G C => st_addFlat G C (2 : Int32) (100 : Int32)) (fun G => (a_addFlat G (2 : Int32) (100 : Int32)).a0) (by decide +kernel) (by decide) (by decide +kernel) (by decide +kernel)
def hl2 : List Int32 := [2, 0, 0, 0, 0, 0, 2, 100, 3, 200]
def hg2 : Gh := setS (psh hg1) (lk hl2)
theorem hk2 : gK hg2 = 2 := gK_s hk1
theorem hs7 : StG (f_X7_addFlat (3 : Int32) (200 : Int32)) hg1 (1 : Int32) hg2 := step_p (l := hl2) (fun M G C => st_addFlat G C (3 : Int32) (200 : Int32)) (fun G => (a_addFlat G (3 : Int32) (200 : Int32)).a0) (by decide +kernel) (by decide) (by decide +kernel) (by decide +kernel)
def hl3 : List Int32 := [3, 0, 0, 0, 0, 0, 2, 100, 3, 200, 1, 50]
def hg3 : Gh := setS (psh hg2) (lk hl3)
theorem hk3 : gK hg3 = 3 := gK_s hk2
theorem hs8 : StG (f_X7_addFlat (1 : Int32) (50 : Int32)) hg2 (2 : Int32) hg3 := step_p (l := hl3) (fun M G C => st_addFlat G C (1 : Int32) (50 : Int32)) (fun G => (a_addFlat G (1 : Int32) (50 : Int32)).a0) (by decide +kernel) (by decide) (by decide +kernel) (by decide +kernel)
def hl4 : List Int32 := [3, 1, 0, 0, 0, 0, 2, 100, 3, 200, 1, 50, 0, 0, 0, 0, 0, 0, 0, 0, 0, 0, 0, 0, 0, 0, 0, 0, 0, 0, 2, 900, 0, 0, -5]
def hg4 : Gh := setS (psh hg3) (lk hl4)
theorem hk4 : gK hg4 = 4 := gK_s hk3
theorem hs9 : StG (f_X7_addHousehold (2 : Int32) (900 : Int32)) hg3 (0 : Int32) hg4 := step_p (l := hl4) (fun M G C => st_addHousehold G C (2 : Int32) (900 : Int32)) (fun G => (a_addHouse G (2 : Int32) (900 : Int32)).a0) (by decide +kernel) (by decide) (by decide +kernel) (by decide +kernel)
def hl5 : List Int32 := [3, 2, 0, 0, 0, 0, 2, 100, 3, 200, 1, 50, 0, 0, 0, 0, 0, 0, 0, 0, 0, 0, 0, 0, 0, 0, 0, 0, 0, 0, 2, 900, 0, 0, -5, 0, 0, 0, 0, 0, 0, 0, 0, 0, 3, 900, 0, 0, -5]
def hg5 : Gh := setS (psh hg4) (lk hl5)
theorem hk5 : gK hg5 = 4 := gK_s hk4
theorem hs10 : StG (f_X7_addHousehold (3 : Int32) (900 : Int32)) hg4 (1 : Int32) hg5 := step_p (l := hl5) (fun M G C => st_addHousehold G C (3 : Int32) (900 : Int32)) (fun G => (a_addHouse G (3 : Int32) (900 : Int32)).a0) (by decide +kernel) (by decide) (by decide +kernel) (by decide +kernel)
def hl6 : List Int32 := [3, 3, 0, 0, 0, 0, 2, 100, 3, 200, 1, 50, 0, 0, 0, 0, 0, 0, 0, 0, 0, 0, 0, 0, 0, 0, 0, 0, 0, 0, 2, 900, 0, 0, -5, 0, 0, 0, 0, 0, 0, 0, 0, 0, 3, 900, 0, 0, -5, 0, 0, 0, 0, 0, 0, 0, 0, 0, 2, 500, 0, 0, -5]
def hg6 : Gh := setS (psh hg5) (lk hl6)
theorem hk6 : gK hg6 = 4 := gK_s hk5
theorem hs11 : StG (f_X7_addHousehold (2 : Int32) (500 : Int32)) hg5 (2 : Int32) hg6 := step_p (l := hl6) (fun M G C => st_addHousehold G C (2 : Int32) (500 : Int32)) (fun G => (a_addHouse G (2 : Int32) (500 : Int32)).a0) (by decide +kernel) (by decide) (by decide +kernel) (by decide +kernel)
theorem hs12 : StG (f_X7_flat (0 : Int32) (4 : Int32)) hg6 (7 : Int32) hg6 := stG_of (fun M G C => st_flat G C (0 : Int32) (4 : Int32)) (congrArg (fun z => (z, hg6)) (by decide +kernel))
theorem hs13 : StG (f_X7_flat (1 : Int32) (4 : Int32)) hg6 (3 : Int32) hg6 := stG_of (fun M G C => st_flat G C (1 : Int32) (4 : Int32)) (congrArg (fun z => (z, hg6)) (by decide +kernel))
theorem hs14 : StG (f_X7_flat (2 : Int32) (4 : Int32)) hg6 (5 : Int32) hg6 := stG_of (fun M G C => st_flat G C (2 : Int32) (4 : Int32)) (congrArg (fun z => (z, hg6)) (by decide +kernel))
theorem hs15 : StG (f_X7_flat (0 : Int32) (2 : Int32)) hg6 (-5 : Int32) hg6 := stG_of (fun M G C => st_flat G C (0 : Int32) (2 : Int32)) (congrArg (fun z => (z, hg6)) (by decide +kernel))
def hg7 : Gh := tyW hg6 (3475143028832416058 : Int64)
theorem hk7 : gK hg7 = 4 := gK_tyW hk6
def hg8 : Gh := tyW hg7 (3543260037637615660 : Int64)
theorem hk8 : gK hg8 = 4 := gK_tyW hk7
def hg9 : Gh := tyW hg8 (50 : Int64)
theorem hk9 : gK hg9 = 4 := gK_tyW hk8
def hl10 : List Int32 := [3, 3, 0, 0, 0, 0, 2, 100, 3, 200, 1, 50, 0, 0, 0, 0, 0, 0, 0, 0, 0, 0, 0, 0, 0, 0, 0, 0, 0, 0, 2, 900, 0, 0, -5, 0, 0, 2, 0, 1, 0, 0, 0, 0, 3, 900, 0, 0, -5, 0, 0, 2, 1, 0, 0, 0, 0, 0, 2, 500, 0, 0, -5, 0, 0, 2, 0, 2]
def hg10 : Gh := setS (psh hg9) (lk hl10)
theorem hk10 : gK hg10 = 4 := gK_s hk9
theorem hs16 : StG f_X7_readLists hg9 (3 : Int32) hg10 := step_read (l := hl10) (by decide +kernel) (by decide +kernel) (by decide +kernel) (by decide +kernel) (by decide +kernel) (by decide +kernel)
theorem hs17 : StG (f_X7_count (12 : Int32)) hg10 (17 : Int32) hg10 := stG_of (fun M G C => st_count G C (12 : Int32)) (congrArg (fun z => (z, hg10)) (by decide +kernel))
theorem hs18 : StG (f_X7_count (11 : Int32)) hg10 (4 : Int32) hg10 := step_count11 hk10
theorem hs19 : StG (f_X7_flat (0 : Int32) (3 : Int32)) hg10 (7 : Int32) hg10 := stG_of (fun M G C => st_flat G C (0 : Int32) (3 : Int32)) (congrArg (fun z => (z, hg10)) (by decide +kernel))
theorem hs20 : StG (f_X7_flat (1 : Int32) (3 : Int32)) hg10 (3 : Int32) hg10 := stG_of (fun M G C => st_flat G C (1 : Int32) (3 : Int32)) (congrArg (fun z => (z, hg10)) (by decide +kernel))
theorem hs21 : StG (f_X7_household (0 : Int32) (7 : Int32)) hg10 (-5 : Int32) hg10 := stG_of (fun M G C => st_household G C (0 : Int32) (7 : Int32)) (congrArg (fun z => (z, hg10)) (by decide +kernel))
theorem hs22 : StG (f_X7_household (0 : Int32) (2 : Int32)) hg10 (-5 : Int32) hg10 := stG_of (fun M G C => st_household G C (0 : Int32) (2 : Int32)) (congrArg (fun z => (z, hg10)) (by decide +kernel))
def hl11 : List Int32 := [3, 3, 0, 0, 0, 0, 2, 100, 3, 200, 1, 50, 0, 0, 0, 0, 0, 0, 0, 0, 0, 0, 0, 0, 0, 0, 0, 0, 0, 0, 2, 900, 50, 0, -5, 0, 0, 2, 0, 1, 0, 0, 0, 0, 3, 900, 0, 0, -5, 0, 0, 2, 1, 0, 0, 0, 0, 0, 2, 500, 0, 0, -5, 0, 0, 2, 0, 2]
def hg11 : Gh := setS (psh hg10) (lk hl11)
theorem hk11 : gK hg11 = 4 := gK_s hk10
theorem hs23 : StG (f_X7_draw (0 : Int32) (50 : Int32)) hg10 (1 : Int32) hg11 := step_p (l := hl11) (fun M G C => st_draw G C (0 : Int32) (50 : Int32)) (fun G => (a_draw G (0 : Int32) (50 : Int32)).a0) (by decide +kernel) (by decide) (by decide +kernel) (by decide +kernel)
def hl12 : List Int32 := [3, 3, 0, 0, 0, 0, 2, 100, 3, 200, 1, 50, 0, 0, 0, 0, 0, 0, 0, 0, 0, 0, 0, 0, 0, 0, 0, 0, 0, 0, 2, 900, 50, 0, -5, 0, 0, 2, 0, 1, 0, 0, 0, 0, 3, 900, 20, 0, -5, 0, 0, 2, 1, 0, 0, 0, 0, 0, 2, 500, 0, 0, -5, 0, 0, 2, 0, 2]
def hg12 : Gh := setS (psh hg11) (lk hl12)
theorem hk12 : gK hg12 = 4 := gK_s hk11
theorem hs24 : StG (f_X7_draw (1 : Int32) (20 : Int32)) hg11 (2 : Int32) hg12 := step_p (l := hl12) (fun M G C => st_draw G C (1 : Int32) (20 : Int32)) (fun G => (a_draw G (1 : Int32) (20 : Int32)).a0) (by decide +kernel) (by decide) (by decide +kernel) (by decide +kernel)
theorem hs25 : StG (f_X7_draw (2 : Int32) (50 : Int32)) hg12 (-4 : Int32) hg12 := step_n (fun M G C => st_draw G C (2 : Int32) (50 : Int32)) (fun G => (a_draw G (2 : Int32) (50 : Int32)).a0) (by decide +kernel) (by decide)
def hl13 : List Int32 := [3, 3, 0, 0, 0, 0, 2, 100, 3, 200, 1, 50, 0, 0, 0, 0, 0, 0, 0, 0, 0, 0, 0, 0, 0, 0, 0, 0, 0, 0, 2, 900, 50, 0, -5, 0, 0, 2, 0, 1, 0, 0, 0, 0, 3, 900, 20, 0, -5, 0, 0, 2, 1, 0, 0, 0, 0, 0, 2, 500, 10, 0, -5, 0, 0, 2, 0, 2]
def hg13 : Gh := setS (psh hg12) (lk hl13)
theorem hk13 : gK hg13 = 4 := gK_s hk12
theorem hs26 : StG (f_X7_draw (2 : Int32) (10 : Int32)) hg12 (3 : Int32) hg13 := step_p (l := hl13) (fun M G C => st_draw G C (2 : Int32) (10 : Int32)) (fun G => (a_draw G (2 : Int32) (10 : Int32)).a0) (by decide +kernel) (by decide) (by decide +kernel) (by decide +kernel)
theorem hs27 : StG (f_X7_draw (2 : Int32) (10 : Int32)) hg13 (-5 : Int32) hg13 := step_n (fun M G C => st_draw G C (2 : Int32) (10 : Int32)) (fun G => (a_draw G (2 : Int32) (10 : Int32)).a0) (by decide +kernel) (by decide)
theorem hs28 : StG (f_X7_ordered (0 : Int32)) hg13 (2 : Int32) hg13 := stG_of (fun M G C => st_ordered G C (0 : Int32)) (congrArg (fun z => (z, hg13)) (by decide +kernel))
theorem hs29 : StG (f_X7_ordered (1 : Int32)) hg13 (1 : Int32) hg13 := stG_of (fun M G C => st_ordered G C (1 : Int32)) (congrArg (fun z => (z, hg13)) (by decide +kernel))
theorem hs30 : StG (f_X7_ordered (2 : Int32)) hg13 (0 : Int32) hg13 := stG_of (fun M G C => st_ordered G C (2 : Int32)) (congrArg (fun z => (z, hg13)) (by decide +kernel))
theorem hs31 : StG (f_X7_ordered (3 : Int32)) hg13 (-5 : Int32) hg13 := stG_of (fun M G C => st_ordered G C (3 : Int32)) (congrArg (fun z => (z, hg13)) (by decide +kernel))
