/-! homes: the states and the steps (written by wip/p28/tools/mk_h.py) -/
theorem hs72 : StG (f_X7_household (1 : Int32) (9 : Int32)) hg23 (1 : Int32) hg23 := stG_of (fun M G C => st_household G C (1 : Int32) (9 : Int32)) (congrArg (fun z => (z, hg23)) (by decide +kernel))
theorem hs73 : StG (f_X7_household (0 : Int32) (8 : Int32)) hg23 (2 : Int32) hg23 := stG_of (fun M G C => st_household G C (0 : Int32) (8 : Int32)) (congrArg (fun z => (z, hg23)) (by decide +kernel))
theorem hs74 : StG (f_X7_household (2 : Int32) (8 : Int32)) hg23 (-5 : Int32) hg23 := stG_of (fun M G C => st_household G C (2 : Int32) (8 : Int32)) (congrArg (fun z => (z, hg23)) (by decide +kernel))
theorem hs75 : StG f_X7_swap hg23 (-5 : Int32) hg23 := step_n (fun M G C => st_swap G C) (fun G => (a_swap G).a0) (by decide +kernel) (by decide)
def hl24 : List Int32 := [3, 3, 3, 4, 2, 1, 2, 100, 3, 200, 1, 50, 0, 0, 0, 0, 0, 0, 0, 0, 0, 0, 0, 0, 0, 0, 0, 0, 0, 0, 2, 900, 50, 4, 1, 2, 2, 2, 0, 1, 0, 0, 0, 0, 3, 900, 20, 0, -5, 1, 1, 1, 0, 0, 0, 0, 0, 0, 2, 500, 10, 0, 0, 1, 0, 1, 2, 2]
def hg24 : Gh := setS (psh hg23) (lk hl24)
theorem hk24 : gK hg24 = 4 := gK_s hk23
theorem hs76 : StG (f_X7_unwish (2 : Int32) (0 : Int32)) hg23 (0 : Int32) hg24 := step_p (l := hl24) (fun M G C => st_unwish G C (2 : Int32) (0 : Int32)) (fun G => a_unwish G (2 : Int32) (0 : Int32)) (by decide +kernel) (by decide) (by decide +kernel) (by decide +kernel)
theorem hs77 : StG (f_X7_unwish (2 : Int32) (0 : Int32)) hg24 (-5 : Int32) hg24 := step_n (fun M G C => st_unwish G C (2 : Int32) (0 : Int32)) (fun G => a_unwish G (2 : Int32) (0 : Int32)) (by decide +kernel) (by decide)
theorem hs78 : StG (f_X7_household (2 : Int32) (8 : Int32)) hg24 (-5 : Int32) hg24 := stG_of (fun M G C => st_household G C (2 : Int32) (8 : Int32)) (congrArg (fun z => (z, hg24)) (by decide +kernel))
def hl25 : List Int32 := [3, 3, 3, 4, 2, 1, 2, 100, 3, 200, 1, 50, 0, 0, 0, 0, 0, 0, 0, 0, 0, 0, 0, 0, 0, 0, 0, 0, 0, 0, 2, 900, 50, 4, 1, 2, 2, 2, 0, 1, 0, 0, 0, 0, 3, 900, 20, 0, -5, 1, 1, 1, 0, 0, 0, 0, 0, 0, 2, 500, 10, 0, 0, 1, 0, 2, 2, 1]
def hg25 : Gh := setS (psh hg24) (lk hl25)
theorem hk25 : gK hg25 = 4 := gK_s hk24
theorem hs79 : StG (f_X7_wish (2 : Int32) (1 : Int32)) hg24 (2 : Int32) hg25 := step_p (l := hl25) (fun M G C => st_wish G C (2 : Int32) (1 : Int32)) (fun G => (a_wish G (2 : Int32) (1 : Int32)).a0) (by decide +kernel) (by decide) (by decide +kernel) (by decide +kernel)
theorem hs80 : StG (f_X7_wish (2 : Int32) (1 : Int32)) hg25 (-4 : Int32) hg25 := step_n (fun M G C => st_wish G C (2 : Int32) (1 : Int32)) (fun G => (a_wish G (2 : Int32) (1 : Int32)).a0) (by decide +kernel) (by decide)
theorem hs81 : StG (f_X7_household (2 : Int32) (8 : Int32)) hg25 (-5 : Int32) hg25 := stG_of (fun M G C => st_household G C (2 : Int32) (8 : Int32)) (congrArg (fun z => (z, hg25)) (by decide +kernel))
def hl26 : List Int32 := [3, 3, 3, 4, 2, 1, 2, 100, 3, 200, 1, 50, 0, 0, 0, 0, 0, 0, 0, 0, 0, 0, 0, 0, 0, 0, 0, 0, 0, 0, 2, 900, 50, 4, 1, 2, 2, 2, 0, 1, 0, 0, 0, 0, 3, 900, 20, 0, -5, 1, 1, 1, 0, 0, 0, 0, 0, 0, 2, 700, 10, 0, 0, 1, 0, 2, 2, 1]
def hg26 : Gh := setS (psh hg25) (lk hl26)
theorem hk26 : gK hg26 = 4 := gK_s hk25
theorem hs82 : StG (f_X7_change (2 : Int32) (1 : Int32) (700 : Int32)) hg25 (500 : Int32) hg26 := step_p (l := hl26) (fun M G C => st_change G C (2 : Int32) (1 : Int32) (700 : Int32) (Or.inr rfl)) (fun G => (a_change G (2 : Int32) (1 : Int32) (700 : Int32)).a0) (by decide +kernel) (by decide) (by decide +kernel) (by decide +kernel)
theorem hs83 : StG (f_X7_household (2 : Int32) (8 : Int32)) hg26 (0 : Int32) hg26 := stG_of (fun M G C => st_household G C (2 : Int32) (8 : Int32)) (congrArg (fun z => (z, hg26)) (by decide +kernel))
theorem hs84 : StG (f_X7_count (7 : Int32)) hg26 (2 : Int32) hg26 := stG_of (fun M G C => st_count G C (7 : Int32)) (congrArg (fun z => (z, hg26)) (by decide +kernel))
def hl27 : List Int32 := [3, 3, 3, 4, 2, 1, 2, 100, 3, 200, 1, 50, 0, 0, 0, 0, 0, 0, 0, 0, 0, 0, 0, 0, 0, 0, 0, 0, 0, 0, 2, 900, 50, 4, 0, 2, 2, 2, 0, 1, 0, 0, 0, 0, 3, 900, 20, 0, -5, 1, 1, 1, 0, 0, 0, 0, 0, 0, 2, 700, 10, 0, 1, 1, 0, 2, 2, 1]
def hg27 : Gh := setS (psh hg26) (lk hl27)
theorem hk27 : gK hg27 = 4 := gK_s hk26
theorem hs85 : StG f_X7_swap hg26 (2 : Int32) hg27 := step_p (l := hl27) (fun M G C => st_swap G C) (fun G => (a_swap G).a0) (by decide +kernel) (by decide) (by decide +kernel) (by decide +kernel)
theorem hs86 : StG (f_X7_household (0 : Int32) (4 : Int32)) hg27 (0 : Int32) hg27 := stG_of (fun M G C => st_household G C (0 : Int32) (4 : Int32)) (congrArg (fun z => (z, hg27)) (by decide +kernel))
theorem hs87 : StG (f_X7_household (2 : Int32) (4 : Int32)) hg27 (1 : Int32) hg27 := stG_of (fun M G C => st_household G C (2 : Int32) (4 : Int32)) (congrArg (fun z => (z, hg27)) (by decide +kernel))
theorem hs88 : StG (f_X7_count (7 : Int32)) hg27 (0 : Int32) hg27 := stG_of (fun M G C => st_count G C (7 : Int32)) (congrArg (fun z => (z, hg27)) (by decide +kernel))
def hl28 : List Int32 := [3, 3, 3, 4, 2, 1, 2, 100, 3, 200, 1, 50, 0, 0, 0, 0, 0, 0, 0, 0, 0, 0, 0, 0, 0, 0, 0, 0, 0, 0, 2, 900, 50, 4, -5, 2, 2, 2, 0, 1, 0, 0, 0, 0, 3, 900, 20, 0, -5, 1, 1, 1, 0, 0, 0, 0, 0, 0, 2, 700, 10, 0, 1, 1, 0, 2, 2, 1]
def hg28 : Gh := setS (psh hg27) (lk hl28)
theorem hk28 : gK hg28 = 4 := gK_s hk27
theorem hs89 : StG (f_X7_moveOut (0 : Int32)) hg27 (0 : Int32) hg28 := step_p (l := hl28) (fun M G C => st_moveOut G C (0 : Int32)) (fun G => a_moveOut G (0 : Int32)) (by decide +kernel) (by decide) (by decide +kernel) (by decide +kernel)
theorem hs90 : StG (f_X7_moveOut (0 : Int32)) hg28 (-5 : Int32) hg28 := step_n (fun M G C => st_moveOut G C (0 : Int32)) (fun G => a_moveOut G (0 : Int32)) (by decide +kernel) (by decide)
theorem hs91 : StG (f_X7_decline (0 : Int32)) hg28 (-4 : Int32) hg28 := step_n (fun M G C => st_decline G C (0 : Int32)) (fun G => (a_decline G (0 : Int32)).a0) (by decide +kernel) (by decide)
def hl29 : List Int32 := [3, 3, 3, 4, 2, 2, 2, 100, 3, 200, 1, 50, 0, 0, 0, 0, 0, 0, 0, 0, 0, 0, 0, 0, 0, 0, 0, 0, 0, 0, 2, 900, 50, 4, -5, 2, 2, 2, 0, 1, 0, 0, 0, 0, 3, 900, 20, 0, -5, 1, 1, 1, 0, 0, 0, 0, 0, 0, 2, 700, 10, 0, -5, 1, 0, 1, 2, 1]
def hg29 : Gh := setS (psh hg28) (lk hl29)
theorem hk29 : gK hg29 = 4 := gK_s hk28
theorem hs92 : StG (f_X7_decline (2 : Int32)) hg28 (1 : Int32) hg29 := step_p (l := hl29) (fun M G C => st_decline G C (2 : Int32)) (fun G => (a_decline G (2 : Int32)).a0) (by decide +kernel) (by decide) (by decide +kernel) (by decide +kernel)
theorem hs93 : StG (f_X7_household (2 : Int32) (5 : Int32)) hg29 (1 : Int32) hg29 := stG_of (fun M G C => st_household G C (2 : Int32) (5 : Int32)) (congrArg (fun z => (z, hg29)) (by decide +kernel))
def hg30 : Gh := g0
theorem hk30 : gK hg30 = 0 := rfl
def hl31 : List Int32 := [1, 0, 0, 0, 0, 0, 1, 1]
def hg31 : Gh := setS (psh hg30) (lk hl31)
theorem hk31 : gK hg31 = 1 := gK_s hk30
theorem hs94 : StG (f_X7_addFlat (1 : Int32) (1 : Int32)) hg30 (0 : Int32) hg31 := step_p (l := hl31) (fun M G C => st_addFlat G C (1 : Int32) (1 : Int32)) (fun G => (a_addFlat G (1 : Int32) (1 : Int32)).a0) (by decide +kernel) (by decide) (by decide +kernel) (by decide +kernel)
def hl32 : List Int32 := [1, 1, 0, 0, 0, 0, 1, 1, 0, 0, 0, 0, 0, 0, 0, 0, 0, 0, 0, 0, 0, 0, 0, 0, 0, 0, 0, 0, 0, 0, 1, 3, 0, 0, -5]
def hg32 : Gh := setS (psh hg31) (lk hl32)
theorem hk32 : gK hg32 = 2 := gK_s hk31
theorem hs95 : StG (f_X7_addHousehold (1 : Int32) (3 : Int32)) hg31 (0 : Int32) hg32 := step_p (l := hl32) (fun M G C => st_addHousehold G C (1 : Int32) (3 : Int32)) (fun G => (a_addHouse G (1 : Int32) (3 : Int32)).a0) (by decide +kernel) (by decide) (by decide +kernel) (by decide +kernel)
def hl33 : List Int32 := [2, 1, 0, 0, 0, 0, 1, 1, 2, 2, 0, 0, 0, 0, 0, 0, 0, 0, 0, 0, 0, 0, 0, 0, 0, 0, 0, 0, 0, 0, 1, 3, 0, 0, -5]
def hg33 : Gh := setS (psh hg32) (lk hl33)
theorem hk33 : gK hg33 = 3 := gK_s hk32
theorem hs96 : StG (f_X7_addFlat (2 : Int32) (2 : Int32)) hg32 (1 : Int32) hg33 := step_p (l := hl33) (fun M G C => st_addFlat G C (2 : Int32) (2 : Int32)) (fun G => (a_addFlat G (2 : Int32) (2 : Int32)).a0) (by decide +kernel) (by decide) (by decide +kernel) (by decide +kernel)
def hl34 : List Int32 := [2, 2, 0, 0, 0, 0, 1, 1, 2, 2, 0, 0, 0, 0, 0, 0, 0, 0, 0, 0, 0, 0, 0, 0, 0, 0, 0, 0, 0, 0, 1, 3, 0, 0, -5, 0, 0, 0, 0, 0, 0, 0, 0, 0, 2, 6, 0, 0, -5]
def hg34 : Gh := setS (psh hg33) (lk hl34)
theorem hk34 : gK hg34 = 4 := gK_s hk33
theorem hs97 : StG (f_X7_addHousehold (2 : Int32) (6 : Int32)) hg33 (1 : Int32) hg34 := step_p (l := hl34) (fun M G C => st_addHousehold G C (2 : Int32) (6 : Int32)) (fun G => (a_addHouse G (2 : Int32) (6 : Int32)).a0) (by decide +kernel) (by decide) (by decide +kernel) (by decide +kernel)
def hl35 : List Int32 := [3, 2, 0, 0, 0, 0, 1, 1, 2, 2, 3, 3, 0, 0, 0, 0, 0, 0, 0, 0, 0, 0, 0, 0, 0, 0, 0, 0, 0, 0, 1, 3, 0, 0, -5, 0, 0, 0, 0, 0, 0, 0, 0, 0, 2, 6, 0, 0, -5]
def hg35 : Gh := setS (psh hg34) (lk hl35)
theorem hk35 : gK hg35 = 4 := gK_s hk34
theorem hs98 : StG (f_X7_addFlat (3 : Int32) (3 : Int32)) hg34 (2 : Int32) hg35 := step_p (l := hl35) (fun M G C => st_addFlat G C (3 : Int32) (3 : Int32)) (fun G => (a_addFlat G (3 : Int32) (3 : Int32)).a0) (by decide +kernel) (by decide) (by decide +kernel) (by decide +kernel)
def hl36 : List Int32 := [3, 3, 0, 0, 0, 0, 1, 1, 2, 2, 3, 3, 0, 0, 0, 0, 0, 0, 0, 0, 0, 0, 0, 0, 0, 0, 0, 0, 0, 0, 1, 3, 0, 0, -5, 0, 0, 0, 0, 0, 0, 0, 0, 0, 2, 6, 0, 0, -5, 0, 0, 0, 0, 0, 0, 0, 0, 0, 3, 9, 0, 0, -5]
def hg36 : Gh := setS (psh hg35) (lk hl36)
theorem hk36 : gK hg36 = 4 := gK_s hk35
theorem hs99 : StG (f_X7_addHousehold (3 : Int32) (9 : Int32)) hg35 (2 : Int32) hg36 := step_p (l := hl36) (fun M G C => st_addHousehold G C (3 : Int32) (9 : Int32)) (fun G => (a_addHouse G (3 : Int32) (9 : Int32)).a0) (by decide +kernel) (by decide) (by decide +kernel) (by decide +kernel)
def hl37 : List Int32 := [4, 3, 0, 0, 0, 0, 1, 1, 2, 2, 3, 3, 4, 4, 0, 0, 0, 0, 0, 0, 0, 0, 0, 0, 0, 0, 0, 0, 0, 0, 1, 3, 0, 0, -5, 0, 0, 0, 0, 0, 0, 0, 0, 0, 2, 6, 0, 0, -5, 0, 0, 0, 0, 0, 0, 0, 0, 0, 3, 9, 0, 0, -5]
def hg37 : Gh := setS (psh hg36) (lk hl37)
theorem hk37 : gK hg37 = 4 := gK_s hk36
theorem hs100 : StG (f_X7_addFlat (4 : Int32) (4 : Int32)) hg36 (3 : Int32) hg37 := step_p (l := hl37) (fun M G C => st_addFlat G C (4 : Int32) (4 : Int32)) (fun G => (a_addFlat G (4 : Int32) (4 : Int32)).a0) (by decide +kernel) (by decide) (by decide +kernel) (by decide +kernel)
