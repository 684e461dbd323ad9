/-! texts: the steps (written by wip/p28/tools/mk_t.py) -/
def tg57 : Gh := txg tg56 (43 + 1) (fun i => if i = 43 then vp_nar .char (49 : Int32) else gX tg56 i)
theorem tk57 : gK tg57 = 4 := gK_txg tk56
theorem tn57 : gN tg57 = 44 := rfl
theorem ts60 : StG (f_X7_type (49 : Int32)) tg56 (44 : Int32) tg57 := step_type tn56 (by decide) (by decide)
def tg58 : Gh := txg tg57 (44 + 1) (fun i => if i = 44 then vp_nar .char (49 : Int32) else gX tg57 i)
theorem tk58 : gK tg58 = 4 := gK_txg tk57
theorem tn58 : gN tg58 = 45 := rfl
theorem ts61 : StG (f_X7_type (49 : Int32)) tg57 (45 : Int32) tg58 := step_type tn57 (by decide) (by decide)
def tg59 : Gh := txg tg58 (45 + 1) (fun i => if i = 45 then vp_nar .char (49 : Int32) else gX tg58 i)
theorem tk59 : gK tg59 = 4 := gK_txg tk58
theorem tn59 : gN tg59 = 46 := rfl
theorem ts62 : StG (f_X7_type (49 : Int32)) tg58 (46 : Int32) tg59 := step_type tn58 (by decide) (by decide)
def tg60 : Gh := txg tg59 (46 + 1) (fun i => if i = 46 then vp_nar .char (49 : Int32) else gX tg59 i)
theorem tk60 : gK tg60 = 4 := gK_txg tk59
theorem tn60 : gN tg60 = 47 := rfl
theorem ts63 : StG (f_X7_type (49 : Int32)) tg59 (47 : Int32) tg60 := step_type tn59 (by decide) (by decide)
def tg61 : Gh := txg tg60 (47 + 1) (fun i => if i = 47 then vp_nar .char (49 : Int32) else gX tg60 i)
theorem tk61 : gK tg61 = 4 := gK_txg tk60
theorem tn61 : gN tg61 = 48 := rfl
theorem ts64 : StG (f_X7_type (49 : Int32)) tg60 (48 : Int32) tg61 := step_type tn60 (by decide) (by decide)
def tg62 : Gh := txg tg61 (48 + 1) (fun i => if i = 48 then vp_nar .char (49 : Int32) else gX tg61 i)
theorem tk62 : gK tg62 = 4 := gK_txg tk61
theorem tn62 : gN tg62 = 49 := rfl
theorem ts65 : StG (f_X7_type (49 : Int32)) tg61 (49 : Int32) tg62 := step_type tn61 (by decide) (by decide)
def tg63 : Gh := txg tg62 (49 + 1) (fun i => if i = 49 then vp_nar .char (49 : Int32) else gX tg62 i)
theorem tk63 : gK tg63 = 4 := gK_txg tk62
theorem tn63 : gN tg63 = 50 := rfl
theorem ts66 : StG (f_X7_type (49 : Int32)) tg62 (50 : Int32) tg63 := step_type tn62 (by decide) (by decide)
def tg64 : Gh := txg tg63 (50 + 1) (fun i => if i = 50 then vp_nar .char (49 : Int32) else gX tg63 i)
theorem tk64 : gK tg64 = 4 := gK_txg tk63
theorem tn64 : gN tg64 = 51 := rfl
theorem ts67 : StG (f_X7_type (49 : Int32)) tg63 (51 : Int32) tg64 := step_type tn63 (by decide) (by decide)
def tg65 : Gh := txg tg64 (51 + 1) (fun i => if i = 51 then vp_nar .char (49 : Int32) else gX tg64 i)
theorem tk65 : gK tg65 = 4 := gK_txg tk64
theorem tn65 : gN tg65 = 52 := rfl
theorem ts68 : StG (f_X7_type (49 : Int32)) tg64 (52 : Int32) tg65 := step_type tn64 (by decide) (by decide)
def tg66 : Gh := txg tg65 (52 + 1) (fun i => if i = 52 then vp_nar .char (49 : Int32) else gX tg65 i)
theorem tk66 : gK tg66 = 4 := gK_txg tk65
theorem tn66 : gN tg66 = 53 := rfl
theorem ts69 : StG (f_X7_type (49 : Int32)) tg65 (53 : Int32) tg66 := step_type tn65 (by decide) (by decide)
def tg67 : Gh := txg tg66 (53 + 1) (fun i => if i = 53 then vp_nar .char (49 : Int32) else gX tg66 i)
theorem tk67 : gK tg67 = 4 := gK_txg tk66
theorem tn67 : gN tg67 = 54 := rfl
theorem ts70 : StG (f_X7_type (49 : Int32)) tg66 (54 : Int32) tg67 := step_type tn66 (by decide) (by decide)
def tg68 : Gh := txg tg67 (54 + 1) (fun i => if i = 54 then vp_nar .char (49 : Int32) else gX tg67 i)
theorem tk68 : gK tg68 = 4 := gK_txg tk67
theorem tn68 : gN tg68 = 55 := rfl
theorem ts71 : StG (f_X7_type (49 : Int32)) tg67 (55 : Int32) tg68 := step_type tn67 (by decide) (by decide)
def tg69 : Gh := txg tg68 (55 + 1) (fun i => if i = 55 then vp_nar .char (49 : Int32) else gX tg68 i)
theorem tk69 : gK tg69 = 4 := gK_txg tk68
theorem tn69 : gN tg69 = 56 := rfl
theorem ts72 : StG (f_X7_type (49 : Int32)) tg68 (56 : Int32) tg69 := step_type tn68 (by decide) (by decide)
def tg70 : Gh := txg tg69 (56 + 1) (fun i => if i = 56 then vp_nar .char (49 : Int32) else gX tg69 i)
theorem tk70 : gK tg70 = 4 := gK_txg tk69
theorem tn70 : gN tg70 = 57 := rfl
theorem ts73 : StG (f_X7_type (49 : Int32)) tg69 (57 : Int32) tg70 := step_type tn69 (by decide) (by decide)
def tg71 : Gh := txg tg70 (57 + 1) (fun i => if i = 57 then vp_nar .char (49 : Int32) else gX tg70 i)
theorem tk71 : gK tg71 = 4 := gK_txg tk70
theorem tn71 : gN tg71 = 58 := rfl
theorem ts74 : StG (f_X7_type (49 : Int32)) tg70 (58 : Int32) tg71 := step_type tn70 (by decide) (by decide)
def tg72 : Gh := txg tg71 (58 + 1) (fun i => if i = 58 then vp_nar .char (49 : Int32) else gX tg71 i)
theorem tk72 : gK tg72 = 4 := gK_txg tk71
theorem tn72 : gN tg72 = 59 := rfl
theorem ts75 : StG (f_X7_type (49 : Int32)) tg71 (59 : Int32) tg72 := step_type tn71 (by decide) (by decide)
def tg73 : Gh := txg tg72 (59 + 1) (fun i => if i = 59 then vp_nar .char (49 : Int32) else gX tg72 i)
theorem tk73 : gK tg73 = 4 := gK_txg tk72
theorem tn73 : gN tg73 = 60 := rfl
theorem ts76 : StG (f_X7_type (49 : Int32)) tg72 (60 : Int32) tg73 := step_type tn72 (by decide) (by decide)
theorem ts77 : StG (f_X7_type (49 : Int32)) tg73 (-3 : Int32) tg73 := step_type60 tn73
theorem ts78 : StG f_X7_readLists tg73 (-102 : Int32) tg73 := step_fault (q := 2) (by decide +kernel) (by decide)
def tg74 : Gh := txg tg73 0 (gX tg73)
theorem tk74 : gK tg74 = 4 := gK_txg tk73
theorem tn74 : gN tg74 = 0 := rfl
theorem ts79 : StG f_X7_clearText tg73 (60 : Int32) tg74 := step_clear (by rw [tn73]; rfl)
