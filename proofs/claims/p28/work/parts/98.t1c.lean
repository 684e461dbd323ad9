/-! texts: the steps (written by wip/p28/tools/mk_t.py) -/
def tg37 : Gh := txg tg36 (23 + 1) (fun i => if i = 23 then vp_nar .char (49 : Int32) else gX tg36 i)
theorem tk37 : gK tg37 = 4 := gK_txg tk36
theorem tn37 : gN tg37 = 24 := rfl
theorem ts40 : StG (f_X7_type (49 : Int32)) tg36 (24 : Int32) tg37 := step_type tn36 (by decide) (by decide)
def tg38 : Gh := txg tg37 (24 + 1) (fun i => if i = 24 then vp_nar .char (49 : Int32) else gX tg37 i)
theorem tk38 : gK tg38 = 4 := gK_txg tk37
theorem tn38 : gN tg38 = 25 := rfl
theorem ts41 : StG (f_X7_type (49 : Int32)) tg37 (25 : Int32) tg38 := step_type tn37 (by decide) (by decide)
def tg39 : Gh := txg tg38 (25 + 1) (fun i => if i = 25 then vp_nar .char (49 : Int32) else gX tg38 i)
theorem tk39 : gK tg39 = 4 := gK_txg tk38
theorem tn39 : gN tg39 = 26 := rfl
theorem ts42 : StG (f_X7_type (49 : Int32)) tg38 (26 : Int32) tg39 := step_type tn38 (by decide) (by decide)
def tg40 : Gh := txg tg39 (26 + 1) (fun i => if i = 26 then vp_nar .char (49 : Int32) else gX tg39 i)
theorem tk40 : gK tg40 = 4 := gK_txg tk39
theorem tn40 : gN tg40 = 27 := rfl
theorem ts43 : StG (f_X7_type (49 : Int32)) tg39 (27 : Int32) tg40 := step_type tn39 (by decide) (by decide)
def tg41 : Gh := txg tg40 (27 + 1) (fun i => if i = 27 then vp_nar .char (49 : Int32) else gX tg40 i)
theorem tk41 : gK tg41 = 4 := gK_txg tk40
theorem tn41 : gN tg41 = 28 := rfl
theorem ts44 : StG (f_X7_type (49 : Int32)) tg40 (28 : Int32) tg41 := step_type tn40 (by decide) (by decide)
def tg42 : Gh := txg tg41 (28 + 1) (fun i => if i = 28 then vp_nar .char (49 : Int32) else gX tg41 i)
theorem tk42 : gK tg42 = 4 := gK_txg tk41
theorem tn42 : gN tg42 = 29 := rfl
theorem ts45 : StG (f_X7_type (49 : Int32)) tg41 (29 : Int32) tg42 := step_type tn41 (by decide) (by decide)
def tg43 : Gh := txg tg42 (29 + 1) (fun i => if i = 29 then vp_nar .char (49 : Int32) else gX tg42 i)
theorem tk43 : gK tg43 = 4 := gK_txg tk42
theorem tn43 : gN tg43 = 30 := rfl
theorem ts46 : StG (f_X7_type (49 : Int32)) tg42 (30 : Int32) tg43 := step_type tn42 (by decide) (by decide)
def tg44 : Gh := txg tg43 (30 + 1) (fun i => if i = 30 then vp_nar .char (49 : Int32) else gX tg43 i)
theorem tk44 : gK tg44 = 4 := gK_txg tk43
theorem tn44 : gN tg44 = 31 := rfl
theorem ts47 : StG (f_X7_type (49 : Int32)) tg43 (31 : Int32) tg44 := step_type tn43 (by decide) (by decide)
def tg45 : Gh := txg tg44 (31 + 1) (fun i => if i = 31 then vp_nar .char (49 : Int32) else gX tg44 i)
theorem tk45 : gK tg45 = 4 := gK_txg tk44
theorem tn45 : gN tg45 = 32 := rfl
theorem ts48 : StG (f_X7_type (49 : Int32)) tg44 (32 : Int32) tg45 := step_type tn44 (by decide) (by decide)
def tg46 : Gh := txg tg45 (32 + 1) (fun i => if i = 32 then vp_nar .char (49 : Int32) else gX tg45 i)
theorem tk46 : gK tg46 = 4 := gK_txg tk45
theorem tn46 : gN tg46 = 33 := rfl
theorem ts49 : StG (f_X7_type (49 : Int32)) tg45 (33 : Int32) tg46 := step_type tn45 (by decide) (by decide)
def tg47 : Gh := txg tg46 (33 + 1) (fun i => if i = 33 then vp_nar .char (49 : Int32) else gX tg46 i)
theorem tk47 : gK tg47 = 4 := gK_txg tk46
theorem tn47 : gN tg47 = 34 := rfl
theorem ts50 : StG (f_X7_type (49 : Int32)) tg46 (34 : Int32) tg47 := step_type tn46 (by decide) (by decide)
def tg48 : Gh := txg tg47 (34 + 1) (fun i => if i = 34 then vp_nar .char (49 : Int32) else gX tg47 i)
theorem tk48 : gK tg48 = 4 := gK_txg tk47
theorem tn48 : gN tg48 = 35 := rfl
theorem ts51 : StG (f_X7_type (49 : Int32)) tg47 (35 : Int32) tg48 := step_type tn47 (by decide) (by decide)
def tg49 : Gh := txg tg48 (35 + 1) (fun i => if i = 35 then vp_nar .char (49 : Int32) else gX tg48 i)
theorem tk49 : gK tg49 = 4 := gK_txg tk48
theorem tn49 : gN tg49 = 36 := rfl
theorem ts52 : StG (f_X7_type (49 : Int32)) tg48 (36 : Int32) tg49 := step_type tn48 (by decide) (by decide)
def tg50 : Gh := txg tg49 (36 + 1) (fun i => if i = 36 then vp_nar .char (49 : Int32) else gX tg49 i)
theorem tk50 : gK tg50 = 4 := gK_txg tk49
theorem tn50 : gN tg50 = 37 := rfl
theorem ts53 : StG (f_X7_type (49 : Int32)) tg49 (37 : Int32) tg50 := step_type tn49 (by decide) (by decide)
def tg51 : Gh := txg tg50 (37 + 1) (fun i => if i = 37 then vp_nar .char (49 : Int32) else gX tg50 i)
theorem tk51 : gK tg51 = 4 := gK_txg tk50
theorem tn51 : gN tg51 = 38 := rfl
theorem ts54 : StG (f_X7_type (49 : Int32)) tg50 (38 : Int32) tg51 := step_type tn50 (by decide) (by decide)
def tg52 : Gh := txg tg51 (38 + 1) (fun i => if i = 38 then vp_nar .char (49 : Int32) else gX tg51 i)
theorem tk52 : gK tg52 = 4 := gK_txg tk51
theorem tn52 : gN tg52 = 39 := rfl
theorem ts55 : StG (f_X7_type (49 : Int32)) tg51 (39 : Int32) tg52 := step_type tn51 (by decide) (by decide)
def tg53 : Gh := txg tg52 (39 + 1) (fun i => if i = 39 then vp_nar .char (49 : Int32) else gX tg52 i)
theorem tk53 : gK tg53 = 4 := gK_txg tk52
theorem tn53 : gN tg53 = 40 := rfl
theorem ts56 : StG (f_X7_type (49 : Int32)) tg52 (40 : Int32) tg53 := step_type tn52 (by decide) (by decide)
def tg54 : Gh := txg tg53 (40 + 1) (fun i => if i = 40 then vp_nar .char (49 : Int32) else gX tg53 i)
theorem tk54 : gK tg54 = 4 := gK_txg tk53
theorem tn54 : gN tg54 = 41 := rfl
theorem ts57 : StG (f_X7_type (49 : Int32)) tg53 (41 : Int32) tg54 := step_type tn53 (by decide) (by decide)
def tg55 : Gh := txg tg54 (41 + 1) (fun i => if i = 41 then vp_nar .char (49 : Int32) else gX tg54 i)
theorem tk55 : gK tg55 = 4 := gK_txg tk54
theorem tn55 : gN tg55 = 42 := rfl
theorem ts58 : StG (f_X7_type (49 : Int32)) tg54 (42 : Int32) tg55 := step_type tn54 (by decide) (by decide)
def tg56 : Gh := txg tg55 (42 + 1) (fun i => if i = 42 then vp_nar .char (49 : Int32) else gX tg55 i)
theorem tk56 : gK tg56 = 4 := gK_txg tk55
theorem tn56 : gN tg56 = 43 := rfl
theorem ts59 : StG (f_X7_type (49 : Int32)) tg55 (43 : Int32) tg56 := step_type tn55 (by decide) (by decide)
