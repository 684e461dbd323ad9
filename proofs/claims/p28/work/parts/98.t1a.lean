/-! texts: the steps (written by wip/p28/tools/mk_t.py) -/
theorem tf0 : CoI yL_faultOf wq_faultOf 6 255 1762 [.long (0 : Int64), .long (0 : Int64)] (0 : Int32) := c_faultOf (told := (-100 : Int32)) (step_fault (q := 0) (by decide +kernel) (by decide)) (by decide)
theorem tf1 : CoI yL_faultOf wq_faultOf 6 255 1762 [.long (3224122 : Int64), .long (0 : Int64)] (1 : Int32) := c_faultOf (told := (-101 : Int32)) (step_fault (q := 1) (by decide +kernel) (by decide)) (by decide)
theorem tf2 : CoI yL_faultOf wq_faultOf 6 255 1762 [.long (48 : Int64), .long (0 : Int64)] (1 : Int32) := c_faultOf (told := (-101 : Int32)) (step_fault (q := 1) (by decide +kernel) (by decide)) (by decide)
theorem tf3 : CoI yL_faultOf wq_faultOf 6 255 1762 [.long (12346 : Int64), .long (0 : Int64)] (2 : Int32) := c_faultOf (told := (-102 : Int32)) (step_fault (q := 2) (by decide +kernel) (by decide)) (by decide)
theorem tf4 : CoI yL_faultOf wq_faultOf 6 255 1762 [.long (53026591879474 : Int64), .long (0 : Int64)] (5 : Int32) := c_faultOf (told := (-105 : Int32)) (step_fault (q := 5) (by decide +kernel) (by decide)) (by decide)
theorem tf5 : CoI yL_faultOf wq_faultOf 6 255 1762 [.long (808794673 : Int64), .long (0 : Int64)] (1 : Int32) := c_faultOf (told := (-101 : Int32)) (step_fault (q := 1) (by decide +kernel) (by decide)) (by decide)
theorem tf6 : CoI yL_faultOf wq_faultOf 6 255 1762 [.long (3475144128359838508 : Int64), .long (224079981622 : Int64)] (-1 : Int32) := c_faultOf (told := (-1 : Int32)) (step_unk (by decide +kernel) (by decide +kernel)) (by decide)
theorem tf7 : CoI yL_faultOf wq_faultOf 6 255 1762 [.long (3475144128359838508 : Int64), .long (14685305675590711 : Int64)] (13 : Int32) := c_faultOf (told := (-113 : Int32)) (step_fault (q := 13) (by decide +kernel) (by decide)) (by decide)
theorem tf8 : CoI yL_faultOf wq_faultOf 6 255 1762 [.long (809120059 : Int64), .long (0 : Int64)] (4 : Int32) := c_faultOf (told := (-104 : Int32)) (step_fault (q := 4) (by decide +kernel) (by decide)) (by decide)
theorem tf9 : CoI yL_faultOf wq_faultOf 6 255 1762 [.long (120 : Int64), .long (0 : Int64)] (0 : Int32) := c_faultOf (told := (-100 : Int32)) (step_fault (q := 0) (by decide +kernel) (by decide)) (by decide)
theorem tf10 : CoI yL_faultOf wq_faultOf 6 255 1762 [.long (207134735163 : Int64), .long (0 : Int64)] (4 : Int32) := c_faultOf (told := (-104 : Int32)) (step_fault (q := 4) (by decide +kernel) (by decide)) (by decide)
theorem tf11 : CoI yL_faultOf wq_faultOf 6 255 1762 [.long (3544678364653302065 : Int64), .long (0 : Int64)] (-1 : Int32) := c_faultOf (told := (-1 : Int32)) (step_unk (by decide +kernel) (by decide +kernel)) (by decide)
theorem tf12 : CoI yL_faultOf wq_faultOf 6 255 1762 [.long (809120032 : Int64), .long (0 : Int64)] (3 : Int32) := c_faultOf (told := (-103 : Int32)) (step_fault (q := 3) (by decide +kernel) (by decide)) (by decide)
theorem tf13 : CoI yL_faultOf wq_faultOf 6 255 1762 [.long (3619258216908271920 : Int64), .long (0 : Int64)] (8 : Int32) := c_faultOf (told := (-108 : Int32)) (step_fault (q := 8) (by decide +kernel) (by decide)) (by decide)
theorem tf14 : CoI yL_faultOf wq_faultOf 6 255 1762 [.long (809120044 : Int64), .long (0 : Int64)] (4 : Int32) := c_faultOf (told := (-104 : Int32)) (step_fault (q := 4) (by decide +kernel) (by decide)) (by decide)
theorem tf15 : CoI yL_faultOf wq_faultOf 6 255 1762 [.long (53026491214898 : Int64), .long (0 : Int64)] (4 : Int32) := c_faultOf (told := (-104 : Int32)) (step_fault (q := 4) (by decide +kernel) (by decide)) (by decide)
def tg0 : Gh := g0
theorem tk0 : gK tg0 = 0 := rfl
def tl1 : List Int32 := [1, 0, 0, 0, 0, 0, 2, 9]
def tg1 : Gh := setS (psh tg0) (lk tl1)
theorem tk1 : gK tg1 = 1 := gK_s tk0
theorem ts1 : StG (f_X7_addFlat (2 : Int32) (9 : Int32)) tg0 (0 : Int32) tg1 := step_p (l := tl1) (fun M G C => st_addFlat G C (2 : Int32) (9 : Int32)) (fun G => (a_addFlat G (2 : Int32) (9 : Int32)).a0) (by decide +kernel) (by decide) (by decide +kernel) (by decide +kernel)
def tl2 : List Int32 := [2, 0, 0, 0, 0, 0, 2, 9, 2, 9]
def tg2 : Gh := setS (psh tg1) (lk tl2)
theorem tk2 : gK tg2 = 2 := gK_s tk1
theorem ts2 : StG (f_X7_addFlat (2 : Int32) (9 : Int32)) tg1 (1 : Int32) tg2 := step_p (l := tl2) (fun M G C => st_addFlat G C (2 : Int32) (9 : Int32)) (fun G => (a_addFlat G (2 : Int32) (9 : Int32)).a0) (by decide +kernel) (by decide) (by decide +kernel) (by decide +kernel)
def tl3 : List Int32 := [2, 1, 0, 0, 0, 0, 2, 9, 2, 9, 0, 0, 0, 0, 0, 0, 0, 0, 0, 0, 0, 0, 0, 0, 0, 0, 0, 0, 0, 0, 2, 99, 0, 0, -5]
def tg3 : Gh := setS (psh tg2) (lk tl3)
theorem tk3 : gK tg3 = 3 := gK_s tk2
theorem ts3 : StG (f_X7_addHousehold (2 : Int32) (99 : Int32)) tg2 (0 : Int32) tg3 := step_p (l := tl3) (fun M G C => st_addHousehold G C (2 : Int32) (99 : Int32)) (fun G => (a_addHouse G (2 : Int32) (99 : Int32)).a0) (by decide +kernel) (by decide) (by decide +kernel) (by decide +kernel)
def tg4 : Gh := tyW tg3 (207134731313 : Int64)
theorem tk4 : gK tg4 = 3 := gK_tyW tk3
theorem ts4 : StG f_X7_readLists tg4 (-2 : Int32) tg4 := step_twice (by decide +kernel) (by decide +kernel) (by decide +kernel)
def tg5 : Gh := txg tg4 0 (gX tg4)
theorem tk5 : gK tg5 = 3 := gK_txg tk4
theorem tn5 : gN tg5 = 0 := rfl
theorem ts5 : StG f_X7_clearText tg4 (5 : Int32) tg5 := step_clear (by decide +kernel)
def tg6 : Gh := tyW tg5 (207134731314 : Int64)
theorem tk6 : gK tg6 = 3 := gK_tyW tk5
theorem ts6 : StG f_X7_readLists tg6 (-1 : Int32) tg6 := step_unk (by decide +kernel) (by decide +kernel)
def tg7 : Gh := txg tg6 0 (gX tg6)
theorem tk7 : gK tg7 = 3 := gK_txg tk6
theorem tn7 : gN tg7 = 0 := rfl
theorem ts7 : StG f_X7_clearText tg6 (5 : Int32) tg7 := step_clear (by decide +kernel)
def tg8 : Gh := tyW tg7 (211429698609 : Int64)
theorem tk8 : gK tg8 = 3 := gK_tyW tk7
theorem ts8 : StG f_X7_readLists tg8 (-1 : Int32) tg8 := step_unk (by decide +kernel) (by decide +kernel)
def tg9 : Gh := txg tg8 0 (gX tg8)
theorem tk9 : gK tg9 = 3 := gK_txg tk8
theorem tn9 : gN tg9 = 0 := rfl
theorem ts9 : StG f_X7_clearText tg8 (5 : Int32) tg9 := step_clear (by decide +kernel)
theorem ts10 : StG (f_X7_count (11 : Int32)) tg9 (3 : Int32) tg9 := step_count11 tk9
def tg10 : Gh := tyW tg9 (3475144128327266362 : Int64)
theorem tk10 : gK tg10 = 3 := gK_tyW tk9
def tg11 : Gh := tyW tg10 (49 : Int64)
theorem tk11 : gK tg11 = 3 := gK_tyW tk10
def tl12 : List Int32 := [2, 1, 0, 0, 0, 0, 2, 9, 2, 9, 0, 0, 0, 0, 0, 0, 0, 0, 0, 0, 0, 0, 0, 0, 0, 0, 0, 0, 0, 0, 2, 99, 0, 0, -5, 0, 0, 1, 1]
def tg12 : Gh := setS (psh tg11) (lk tl12)
theorem tk12 : gK tg12 = 4 := gK_s tk11
theorem ts11 : StG f_X7_readLists tg11 (2 : Int32) tg12 := step_read (l := tl12) (by decide +kernel) (by decide +kernel) (by decide +kernel) (by decide +kernel) (by decide +kernel) (by decide +kernel)
theorem ts12 : StG (f_X7_count (11 : Int32)) tg12 (4 : Int32) tg12 := step_count11 tk12
theorem ts13 : StG (f_X7_household (0 : Int32) (5 : Int32)) tg12 (1 : Int32) tg12 := stG_of (fun M G C => st_household G C (0 : Int32) (5 : Int32)) (congrArg (fun z => (z, tg12)) (by decide +kernel))
theorem ts14 : StG (f_X7_wished (0 : Int32) (0 : Int32)) tg12 (1 : Int32) tg12 := stG_of (fun M G C => st_wished G C (0 : Int32) (0 : Int32)) (congrArg (fun z => (z, tg12)) (by decide +kernel))
theorem ts15 : StG (f_X7_wished (0 : Int32) (1 : Int32)) tg12 (-5 : Int32) tg12 := stG_of (fun M G C => st_wished G C (0 : Int32) (1 : Int32)) (congrArg (fun z => (z, tg12)) (by decide +kernel))
def tg13 : Gh := txg tg12 0 (gX tg12)
theorem tk13 : gK tg13 = 4 := gK_txg tk12
theorem tn13 : gN tg13 = 0 := rfl
theorem ts16 : StG f_X7_clearText tg12 (9 : Int32) tg13 := step_clear (by decide +kernel)
def tg14 : Gh := txg tg13 (0 + 1) (fun i => if i = 0 then vp_nar .char (49 : Int32) else gX tg13 i)
theorem tk14 : gK tg14 = 4 := gK_txg tk13
theorem tn14 : gN tg14 = 1 := rfl
theorem ts17 : StG (f_X7_type (49 : Int32)) tg13 (1 : Int32) tg14 := step_type tn13 (by decide) (by decide)
def tg15 : Gh := txg tg14 (1 + 1) (fun i => if i = 1 then vp_nar .char (49 : Int32) else gX tg14 i)
theorem tk15 : gK tg15 = 4 := gK_txg tk14
theorem tn15 : gN tg15 = 2 := rfl
theorem ts18 : StG (f_X7_type (49 : Int32)) tg14 (2 : Int32) tg15 := step_type tn14 (by decide) (by decide)
def tg16 : Gh := txg tg15 (2 + 1) (fun i => if i = 2 then vp_nar .char (49 : Int32) else gX tg15 i)
theorem tk16 : gK tg16 = 4 := gK_txg tk15
theorem tn16 : gN tg16 = 3 := rfl
theorem ts19 : StG (f_X7_type (49 : Int32)) tg15 (3 : Int32) tg16 := step_type tn15 (by decide) (by decide)
