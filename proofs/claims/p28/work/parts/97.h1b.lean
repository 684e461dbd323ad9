/-! homes: the states and the steps (written by wip/p28/tools/mk_h.py) -/
theorem hs32 : StG (f_X7_wouldGet (2 : Int32) (-5 : Int32)) hg13 (0 : Int32) hg13 := stG_of (fun M G C => st_would G C (2 : Int32) (-5 : Int32)) (congrArg (fun z => (z, hg13)) (by decide +kernel))
theorem hs33 : StG (f_X7_wouldGet (1 : Int32) (-5 : Int32)) hg13 (1 : Int32) hg13 := stG_of (fun M G C => st_would G C (1 : Int32) (-5 : Int32)) (congrArg (fun z => (z, hg13)) (by decide +kernel))
theorem hs34 : StG (f_X7_wouldGet (0 : Int32) (-5 : Int32)) hg13 (-5 : Int32) hg13 := stG_of (fun M G C => st_would G C (0 : Int32) (-5 : Int32)) (congrArg (fun z => (z, hg13)) (by decide +kernel))
theorem hs35 : StG (f_X7_wouldGet (0 : Int32) (2 : Int32)) hg13 (0 : Int32) hg13 := stG_of (fun M G C => st_would G C (0 : Int32) (2 : Int32)) (congrArg (fun z => (z, hg13)) (by decide +kernel))
theorem hs36 : StG (f_X7_wouldGet (0 : Int32) (1 : Int32)) hg13 (1 : Int32) hg13 := stG_of (fun M G C => st_would G C (0 : Int32) (1 : Int32)) (congrArg (fun z => (z, hg13)) (by decide +kernel))
theorem ht37 : tpM (gdB hg13.1) (nh hg13.1) 3 := by
  refine tp_all (fun h => if h = 0 then some 0 else if h = 1 then some 1 else if h = 2 then some 2 else none) ⟨fun h f q => ?_, fun h h' f q q' => ?_⟩ (by decide +kernel) (by decide +kernel)
  · have q : (if h = 0 then some 0 else if h = 1 then some 1 else if h = 2 then some 2 else none : Option Nat) = some f := q
    by_cases e0 : h = 0
    · rw [if_pos e0] at q
      cases q
      subst e0
      exact ⟨by decide +kernel, by decide +kernel, 0, by decide +kernel, by decide +kernel, by decide +kernel⟩
    by_cases e1 : h = 1
    · rw [if_neg e0, if_pos e1] at q
      cases q
      subst e1
      exact ⟨by decide +kernel, by decide +kernel, 0, by decide +kernel, by decide +kernel, by decide +kernel⟩
    by_cases e2 : h = 2
    · rw [if_neg e0, if_neg e1, if_pos e2] at q
      cases q
      subst e2
      exact ⟨by decide +kernel, by decide +kernel, 1, by decide +kernel, by decide +kernel, by decide +kernel⟩
    rw [if_neg e0, if_neg e1, if_neg e2] at q
    cases q
  · have q : (if h = 0 then some 0 else if h = 1 then some 1 else if h = 2 then some 2 else none : Option Nat) = some f := q
    have q' : (if h' = 0 then some 0 else if h' = 1 then some 1 else if h' = 2 then some 2 else none : Option Nat) = some f := q'
    by_cases e0 : h = 0
    · rw [if_pos e0] at q
      cases q
      by_cases d0 : h' = 0
      · rw [if_pos d0] at q'
        omega
      by_cases d1 : h' = 1
      · rw [if_neg d0, if_pos d1] at q'
        cases q'
      by_cases d2 : h' = 2
      · rw [if_neg d0, if_neg d1, if_pos d2] at q'
        cases q'
      rw [if_neg d0, if_neg d1, if_neg d2] at q'
      cases q'
    by_cases e1 : h = 1
    · rw [if_neg e0, if_pos e1] at q
      cases q
      by_cases d0 : h' = 0
      · rw [if_pos d0] at q'
        cases q'
      by_cases d1 : h' = 1
      · rw [if_neg d0, if_pos d1] at q'
        omega
      by_cases d2 : h' = 2
      · rw [if_neg d0, if_neg d1, if_pos d2] at q'
        cases q'
      rw [if_neg d0, if_neg d1, if_neg d2] at q'
      cases q'
    by_cases e2 : h = 2
    · rw [if_neg e0, if_neg e1, if_pos e2] at q
      cases q
      by_cases d0 : h' = 0
      · rw [if_pos d0] at q'
        cases q'
      by_cases d1 : h' = 1
      · rw [if_neg d0, if_pos d1] at q'
        cases q'
      by_cases d2 : h' = 2
      · rw [if_neg d0, if_neg d1, if_pos d2] at q'
        omega
      rw [if_neg d0, if_neg d1, if_neg d2] at q'
      cases q'
    rw [if_neg e0, if_neg e1, if_neg e2] at q
    cases q
theorem hs37 : StG f_X7_most hg13 (3 : Int32) hg13 := step_most ht37
def hl14 : List Int32 := [3, 3, 0, 1, 1, 0, 2, 100, 3, 200, 1, 50, 0, 0, 0, 0, 0, 0, 0, 0, 0, 0, 0, 0, 0, 0, 0, 0, 0, 0, 2, 900, 50, 0, -5, 0, 0, 2, 0, 1, 0, 0, 0, 0, 3, 900, 20, 0, -5, 1, 0, 2, 1, 0, 0, 0, 0, 0, 2, 500, 10, 0, -5, 0, 0, 2, 0, 2]
def hg14 : Gh := setS (psh hg13) (lk hl14)
theorem hk14 : gK hg14 = 4 := gK_s hk13
theorem hs38 : StG (f_X7_appeal (1 : Int32) (0 : Int32)) hg13 (0 : Int32) hg14 := step_p (l := hl14) (fun M G C => st_appeal G C (1 : Int32) (0 : Int32)) (fun G => (a_appeal G (1 : Int32) (0 : Int32)).a0) (by decide +kernel) (by decide) (by decide +kernel) (by decide +kernel)
def hg15 : Gh := (lk hl13, 3, (psh hg13).2.2)
theorem hk15 : gK hg15 = 3 := rfl
theorem hs39 : StG f_X7_undo hg14 (3 : Int32) hg15 := step_undo hk13
def hl16 : List Int32 := [3, 3, 1, 0, 0, 0, 2, 100, 3, 200, 1, 50, 0, 0, 0, 0, 0, 0, 0, 0, 0, 0, 0, 0, 0, 0, 0, 0, 0, 0, 2, 900, 50, 0, -5, 0, 1, 2, 0, 1, 0, 0, 0, 0, 3, 900, 20, 0, 1, 0, 0, 2, 1, 0, 0, 0, 0, 0, 2, 500, 10, 0, 0, 0, 0, 2, 0, 2]
def hg16 : Gh := setS (psh hg15) (lk hl16)
theorem hk16 : gK hg16 = 4 := gK_s hk15
theorem hs40 : StG f_X7_round hg15 (2 : Int32) hg16 := step_p (l := hl16) (fun M G C => st_round G C) (fun G => (a_round G).a0) (by decide +kernel) (by decide) (by decide +kernel) (by decide +kernel)
theorem hs41 : StG (f_X7_count (2 : Int32)) hg16 (2 : Int32) hg16 := stG_of (fun M G C => st_count G C (2 : Int32)) (congrArg (fun z => (z, hg16)) (by decide +kernel))
theorem hs42 : StG (f_X7_count (3 : Int32)) hg16 (1 : Int32) hg16 := stG_of (fun M G C => st_count G C (3 : Int32)) (congrArg (fun z => (z, hg16)) (by decide +kernel))
theorem hs43 : StG (f_X7_household (0 : Int32) (9 : Int32)) hg16 (1 : Int32) hg16 := stG_of (fun M G C => st_household G C (0 : Int32) (9 : Int32)) (congrArg (fun z => (z, hg16)) (by decide +kernel))
theorem hs44 : StG (f_X7_household (2 : Int32) (9 : Int32)) hg16 (0 : Int32) hg16 := stG_of (fun M G C => st_household G C (2 : Int32) (9 : Int32)) (congrArg (fun z => (z, hg16)) (by decide +kernel))
theorem hs45 : StG (f_X7_flat (0 : Int32) (2 : Int32)) hg16 (2 : Int32) hg16 := stG_of (fun M G C => st_flat G C (0 : Int32) (2 : Int32)) (congrArg (fun z => (z, hg16)) (by decide +kernel))
theorem hs46 : StG (f_X7_flat (1 : Int32) (2 : Int32)) hg16 (1 : Int32) hg16 := stG_of (fun M G C => st_flat G C (1 : Int32) (2 : Int32)) (congrArg (fun z => (z, hg16)) (by decide +kernel))
theorem hs47 : StG (f_X7_envies (0 : Int32) (2 : Int32)) hg16 (1 : Int32) hg16 := stG_of (fun M G C => st_envies G C (0 : Int32) (2 : Int32)) (congrArg (fun z => (z, hg16)) (by decide +kernel))
theorem hs48 : StG (f_X7_envies (0 : Int32) (1 : Int32)) hg16 (1 : Int32) hg16 := stG_of (fun M G C => st_envies G C (0 : Int32) (1 : Int32)) (congrArg (fun z => (z, hg16)) (by decide +kernel))
theorem hs49 : StG (f_X7_envies (1 : Int32) (2 : Int32)) hg16 (0 : Int32) hg16 := stG_of (fun M G C => st_envies G C (1 : Int32) (2 : Int32)) (congrArg (fun z => (z, hg16)) (by decide +kernel))
theorem hs50 : StG (f_X7_count (5 : Int32)) hg16 (2 : Int32) hg16 := stG_of (fun M G C => st_count G C (5 : Int32)) (congrArg (fun z => (z, hg16)) (by decide +kernel))
theorem hs51 : StG (f_X7_count (6 : Int32)) hg16 (0 : Int32) hg16 := stG_of (fun M G C => st_count G C (6 : Int32)) (congrArg (fun z => (z, hg16)) (by decide +kernel))
def hl17 : List Int32 := [3, 3, 1, 1, 0, 0, 2, 100, 3, 200, 1, 50, 0, 0, 0, 0, 0, 0, 0, 0, 0, 0, 0, 0, 0, 0, 0, 0, 0, 0, 2, 900, 50, 1, -5, 1, 1, 2, 0, 1, 0, 0, 0, 0, 3, 900, 20, 0, 1, 0, 0, 2, 1, 0, 0, 0, 0, 0, 2, 500, 10, 0, 0, 0, 0, 2, 0, 2]
def hg17 : Gh := setS (psh hg16) (lk hl17)
theorem hk17 : gK hg17 = 4 := gK_s hk16
theorem hs52 : StG (f_X7_appeal (0 : Int32) (0 : Int32)) hg16 (101 : Int32) hg17 := step_p (l := hl17) (fun M G C => st_appeal G C (0 : Int32) (0 : Int32)) (fun G => (a_appeal G (0 : Int32) (0 : Int32)).a0) (by decide +kernel) (by decide) (by decide +kernel) (by decide +kernel)
theorem hs53 : StG (f_X7_household (0 : Int32) (7 : Int32)) hg17 (0 : Int32) hg17 := stG_of (fun M G C => st_household G C (0 : Int32) (7 : Int32)) (congrArg (fun z => (z, hg17)) (by decide +kernel))
theorem hs54 : StG (f_X7_envies (0 : Int32) (2 : Int32)) hg17 (2 : Int32) hg17 := stG_of (fun M G C => st_envies G C (0 : Int32) (2 : Int32)) (congrArg (fun z => (z, hg17)) (by decide +kernel))
theorem hs55 : StG (f_X7_count (6 : Int32)) hg17 (2 : Int32) hg17 := stG_of (fun M G C => st_count G C (6 : Int32)) (congrArg (fun z => (z, hg17)) (by decide +kernel))
def hl18 : List Int32 := [3, 3, 1, 2, 0, 0, 2, 100, 3, 200, 1, 50, 0, 0, 0, 0, 0, 0, 0, 0, 0, 0, 0, 0, 0, 0, 0, 0, 0, 0, 2, 900, 50, 4, -5, 2, 1, 2, 0, 1, 0, 0, 0, 0, 3, 900, 20, 0, 1, 0, 0, 2, 1, 0, 0, 0, 0, 0, 2, 500, 10, 0, 0, 0, 0, 2, 0, 2]
def hg18 : Gh := setS (psh hg17) (lk hl18)
theorem hk18 : gK hg18 = 4 := gK_s hk17
theorem hs56 : StG (f_X7_appeal (0 : Int32) (2 : Int32)) hg17 (104 : Int32) hg18 := step_p (l := hl18) (fun M G C => st_appeal G C (0 : Int32) (2 : Int32)) (fun G => (a_appeal G (0 : Int32) (2 : Int32)).a0) (by decide +kernel) (by decide) (by decide +kernel) (by decide +kernel)
theorem hs57 : StG (f_X7_appeal (0 : Int32) (1 : Int32)) hg18 (-3 : Int32) hg18 := step_n (fun M G C => st_appeal G C (0 : Int32) (1 : Int32)) (fun G => (a_appeal G (0 : Int32) (1 : Int32)).a0) (by decide +kernel) (by decide)
def hl19 : List Int32 := [3, 3, 1, 3, 1, 0, 2, 100, 3, 200, 1, 50, 0, 0, 0, 0, 0, 0, 0, 0, 0, 0, 0, 0, 0, 0, 0, 0, 0, 0, 2, 900, 50, 4, -5, 2, 1, 2, 0, 1, 0, 0, 0, 0, 3, 900, 20, 0, 1, 0, 0, 2, 1, 0, 0, 0, 0, 0, 2, 500, 10, 0, 0, 1, 0, 2, 0, 2]
def hg19 : Gh := setS (psh hg18) (lk hl19)
theorem hk19 : gK hg19 = 4 := gK_s hk18
theorem hs58 : StG (f_X7_appeal (2 : Int32) (1 : Int32)) hg18 (0 : Int32) hg19 := step_p (l := hl19) (fun M G C => st_appeal G C (2 : Int32) (1 : Int32)) (fun G => (a_appeal G (2 : Int32) (1 : Int32)).a0) (by decide +kernel) (by decide) (by decide +kernel) (by decide +kernel)
def hl20 : List Int32 := [3, 3, 1, 4, 2, 0, 2, 100, 3, 200, 1, 50, 0, 0, 0, 0, 0, 0, 0, 0, 0, 0, 0, 0, 0, 0, 0, 0, 0, 0, 2, 900, 50, 4, -5, 2, 1, 2, 0, 1, 0, 0, 0, 0, 3, 900, 20, 0, 1, 1, 0, 2, 1, 0, 0, 0, 0, 0, 2, 500, 10, 0, 0, 1, 0, 2, 0, 2]
def hg20 : Gh := setS (psh hg19) (lk hl20)
theorem hk20 : gK hg20 = 4 := gK_s hk19
theorem hs59 : StG (f_X7_appeal (1 : Int32) (0 : Int32)) hg19 (0 : Int32) hg20 := step_p (l := hl20) (fun M G C => st_appeal G C (1 : Int32) (0 : Int32)) (fun G => (a_appeal G (1 : Int32) (0 : Int32)).a0) (by decide +kernel) (by decide) (by decide +kernel) (by decide +kernel)
theorem hs60 : StG (f_X7_count (8 : Int32)) hg20 (4 : Int32) hg20 := stG_of (fun M G C => st_count G C (8 : Int32)) (congrArg (fun z => (z, hg20)) (by decide +kernel))
theorem hs61 : StG (f_X7_count (9 : Int32)) hg20 (2 : Int32) hg20 := stG_of (fun M G C => st_count G C (9 : Int32)) (congrArg (fun z => (z, hg20)) (by decide +kernel))
theorem hs62 : StG (f_X7_household (1 : Int32) (6 : Int32)) hg20 (1 : Int32) hg20 := stG_of (fun M G C => st_household G C (1 : Int32) (6 : Int32)) (congrArg (fun z => (z, hg20)) (by decide +kernel))
def hl21 : List Int32 := [3, 3, 2, 4, 2, 0, 2, 100, 3, 200, 1, 50, 0, 0, 0, 0, 0, 0, 0, 0, 0, 0, 0, 0, 0, 0, 0, 0, 0, 0, 2, 900, 50, 4, -5, 2, 2, 2, 0, 1, 0, 0, 0, 0, 3, 900, 20, 0, 1, 1, 0, 2, 1, 0, 0, 0, 0, 0, 2, 500, 10, 0, 0, 1, 0, 2, 0, 2]
def hg21 : Gh := setS (psh hg20) (lk hl21)
theorem hk21 : gK hg21 = 4 := gK_s hk20
theorem hs63 : StG f_X7_round hg20 (0 : Int32) hg21 := step_p (l := hl21) (fun M G C => st_round G C) (fun G => (a_round G).a0) (by decide +kernel) (by decide) (by decide +kernel) (by decide +kernel)
theorem hs64 : StG (f_X7_household (0 : Int32) (9 : Int32)) hg21 (2 : Int32) hg21 := stG_of (fun M G C => st_household G C (0 : Int32) (9 : Int32)) (congrArg (fun z => (z, hg21)) (by decide +kernel))
theorem hs65 : StG (f_X7_count (3 : Int32)) hg21 (2 : Int32) hg21 := stG_of (fun M G C => st_count G C (3 : Int32)) (congrArg (fun z => (z, hg21)) (by decide +kernel))
def hl22 : List Int32 := [3, 3, 2, 4, 2, 1, 2, 100, 3, 200, 1, 50, 0, 0, 0, 0, 0, 0, 0, 0, 0, 0, 0, 0, 0, 0, 0, 0, 0, 0, 2, 900, 50, 4, -5, 2, 2, 2, 0, 1, 0, 0, 0, 0, 3, 900, 20, 0, -5, 1, 0, 1, 0, 0, 0, 0, 0, 0, 2, 500, 10, 0, 0, 1, 0, 2, 0, 2]
def hg22 : Gh := setS (psh hg21) (lk hl22)
theorem hk22 : gK hg22 = 4 := gK_s hk21
theorem hs66 : StG (f_X7_decline (1 : Int32)) hg21 (1 : Int32) hg22 := step_p (l := hl22) (fun M G C => st_decline G C (1 : Int32)) (fun G => (a_decline G (1 : Int32)).a0) (by decide +kernel) (by decide) (by decide +kernel) (by decide +kernel)
theorem hs67 : StG (f_X7_household (1 : Int32) (3 : Int32)) hg22 (0 : Int32) hg22 := stG_of (fun M G C => st_household G C (1 : Int32) (3 : Int32)) (congrArg (fun z => (z, hg22)) (by decide +kernel))
theorem hs68 : StG (f_X7_household (1 : Int32) (5 : Int32)) hg22 (1 : Int32) hg22 := stG_of (fun M G C => st_household G C (1 : Int32) (5 : Int32)) (congrArg (fun z => (z, hg22)) (by decide +kernel))
theorem hs69 : StG (f_X7_count (10 : Int32)) hg22 (1 : Int32) hg22 := stG_of (fun M G C => st_count G C (10 : Int32)) (congrArg (fun z => (z, hg22)) (by decide +kernel))
def hl23 : List Int32 := [3, 3, 3, 4, 2, 1, 2, 100, 3, 200, 1, 50, 0, 0, 0, 0, 0, 0, 0, 0, 0, 0, 0, 0, 0, 0, 0, 0, 0, 0, 2, 900, 50, 4, 1, 2, 2, 2, 0, 1, 0, 0, 0, 0, 3, 900, 20, 0, -5, 1, 1, 1, 0, 0, 0, 0, 0, 0, 2, 500, 10, 0, 0, 1, 0, 2, 0, 2]
def hg23 : Gh := setS (psh hg22) (lk hl23)
theorem hk23 : gK hg23 = 4 := gK_s hk22
theorem hs70 : StG f_X7_round hg22 (1 : Int32) hg23 := step_p (l := hl23) (fun M G C => st_round G C) (fun G => (a_round G).a0) (by decide +kernel) (by decide) (by decide +kernel) (by decide +kernel)
theorem hs71 : StG (f_X7_household (0 : Int32) (4 : Int32)) hg23 (1 : Int32) hg23 := stG_of (fun M G C => st_household G C (0 : Int32) (4 : Int32)) (congrArg (fun z => (z, hg23)) (by decide +kernel))
