/-! texts: the steps (written by wip/p28/tools/mk_t.py) -/
def tg17 : Gh := txg tg16 (3 + 1) (fun i => if i = 3 then vp_nar .char (49 : Int32) else gX tg16 i)
theorem tk17 : gK tg17 = 4 := gK_txg tk16
theorem tn17 : gN tg17 = 4 := rfl
theorem ts20 : StG (f_X7_type (49 : Int32)) tg16 (4 : Int32) tg17 := step_type tn16 (by decide) (by decide)
def tg18 : Gh := txg tg17 (4 + 1) (fun i => if i = 4 then vp_nar .char (49 : Int32) else gX tg17 i)
theorem tk18 : gK tg18 = 4 := gK_txg tk17
theorem tn18 : gN tg18 = 5 := rfl
theorem ts21 : StG (f_X7_type (49 : Int32)) tg17 (5 : Int32) tg18 := step_type tn17 (by decide) (by decide)
def tg19 : Gh := txg tg18 (5 + 1) (fun i => if i = 5 then vp_nar .char (49 : Int32) else gX tg18 i)
theorem tk19 : gK tg19 = 4 := gK_txg tk18
theorem tn19 : gN tg19 = 6 := rfl
theorem ts22 : StG (f_X7_type (49 : Int32)) tg18 (6 : Int32) tg19 := step_type tn18 (by decide) (by decide)
def tg20 : Gh := txg tg19 (6 + 1) (fun i => if i = 6 then vp_nar .char (49 : Int32) else gX tg19 i)
theorem tk20 : gK tg20 = 4 := gK_txg tk19
theorem tn20 : gN tg20 = 7 := rfl
theorem ts23 : StG (f_X7_type (49 : Int32)) tg19 (7 : Int32) tg20 := step_type tn19 (by decide) (by decide)
def tg21 : Gh := txg tg20 (7 + 1) (fun i => if i = 7 then vp_nar .char (49 : Int32) else gX tg20 i)
theorem tk21 : gK tg21 = 4 := gK_txg tk20
theorem tn21 : gN tg21 = 8 := rfl
theorem ts24 : StG (f_X7_type (49 : Int32)) tg20 (8 : Int32) tg21 := step_type tn20 (by decide) (by decide)
def tg22 : Gh := txg tg21 (8 + 1) (fun i => if i = 8 then vp_nar .char (49 : Int32) else gX tg21 i)
theorem tk22 : gK tg22 = 4 := gK_txg tk21
theorem tn22 : gN tg22 = 9 := rfl
theorem ts25 : StG (f_X7_type (49 : Int32)) tg21 (9 : Int32) tg22 := step_type tn21 (by decide) (by decide)
def tg23 : Gh := txg tg22 (9 + 1) (fun i => if i = 9 then vp_nar .char (49 : Int32) else gX tg22 i)
theorem tk23 : gK tg23 = 4 := gK_txg tk22
theorem tn23 : gN tg23 = 10 := rfl
theorem ts26 : StG (f_X7_type (49 : Int32)) tg22 (10 : Int32) tg23 := step_type tn22 (by decide) (by decide)
def tg24 : Gh := txg tg23 (10 + 1) (fun i => if i = 10 then vp_nar .char (49 : Int32) else gX tg23 i)
theorem tk24 : gK tg24 = 4 := gK_txg tk23
theorem tn24 : gN tg24 = 11 := rfl
theorem ts27 : StG (f_X7_type (49 : Int32)) tg23 (11 : Int32) tg24 := step_type tn23 (by decide) (by decide)
def tg25 : Gh := txg tg24 (11 + 1) (fun i => if i = 11 then vp_nar .char (49 : Int32) else gX tg24 i)
theorem tk25 : gK tg25 = 4 := gK_txg tk24
theorem tn25 : gN tg25 = 12 := rfl
theorem ts28 : StG (f_X7_type (49 : Int32)) tg24 (12 : Int32) tg25 := step_type tn24 (by decide) (by decide)
def tg26 : Gh := txg tg25 (12 + 1) (fun i => if i = 12 then vp_nar .char (49 : Int32) else gX tg25 i)
theorem tk26 : gK tg26 = 4 := gK_txg tk25
theorem tn26 : gN tg26 = 13 := rfl
theorem ts29 : StG (f_X7_type (49 : Int32)) tg25 (13 : Int32) tg26 := step_type tn25 (by decide) (by decide)
def tg27 : Gh := txg tg26 (13 + 1) (fun i => if i = 13 then vp_nar .char (49 : Int32) else gX tg26 i)
theorem tk27 : gK tg27 = 4 := gK_txg tk26
theorem tn27 : gN tg27 = 14 := rfl
theorem ts30 : StG (f_X7_type (49 : Int32)) tg26 (14 : Int32) tg27 := step_type tn26 (by decide) (by decide)
def tg28 : Gh := txg tg27 (14 + 1) (fun i => if i = 14 then vp_nar .char (49 : Int32) else gX tg27 i)
theorem tk28 : gK tg28 = 4 := gK_txg tk27
theorem tn28 : gN tg28 = 15 := rfl
theorem ts31 : StG (f_X7_type (49 : Int32)) tg27 (15 : Int32) tg28 := step_type tn27 (by decide) (by decide)
def tg29 : Gh := txg tg28 (15 + 1) (fun i => if i = 15 then vp_nar .char (49 : Int32) else gX tg28 i)
theorem tk29 : gK tg29 = 4 := gK_txg tk28
theorem tn29 : gN tg29 = 16 := rfl
theorem ts32 : StG (f_X7_type (49 : Int32)) tg28 (16 : Int32) tg29 := step_type tn28 (by decide) (by decide)
def tg30 : Gh := txg tg29 (16 + 1) (fun i => if i = 16 then vp_nar .char (49 : Int32) else gX tg29 i)
theorem tk30 : gK tg30 = 4 := gK_txg tk29
theorem tn30 : gN tg30 = 17 := rfl
theorem ts33 : StG (f_X7_type (49 : Int32)) tg29 (17 : Int32) tg30 := step_type tn29 (by decide) (by decide)
def tg31 : Gh := txg tg30 (17 + 1) (fun i => if i = 17 then vp_nar .char (49 : Int32) else gX tg30 i)
theorem tk31 : gK tg31 = 4 := gK_txg tk30
theorem tn31 : gN tg31 = 18 := rfl
theorem ts34 : StG (f_X7_type (49 : Int32)) tg30 (18 : Int32) tg31 := step_type tn30 (by decide) (by decide)
def tg32 : Gh := txg tg31 (18 + 1) (fun i => if i = 18 then vp_nar .char (49 : Int32) else gX tg31 i)
theorem tk32 : gK tg32 = 4 := gK_txg tk31
theorem tn32 : gN tg32 = 19 := rfl
theorem ts35 : StG (f_X7_type (49 : Int32)) tg31 (19 : Int32) tg32 := step_type tn31 (by decide) (by decide)
def tg33 : Gh := txg tg32 (19 + 1) (fun i => if i = 19 then vp_nar .char (49 : Int32) else gX tg32 i)
theorem tk33 : gK tg33 = 4 := gK_txg tk32
theorem tn33 : gN tg33 = 20 := rfl
theorem ts36 : StG (f_X7_type (49 : Int32)) tg32 (20 : Int32) tg33 := step_type tn32 (by decide) (by decide)
def tg34 : Gh := txg tg33 (20 + 1) (fun i => if i = 20 then vp_nar .char (49 : Int32) else gX tg33 i)
theorem tk34 : gK tg34 = 4 := gK_txg tk33
theorem tn34 : gN tg34 = 21 := rfl
theorem ts37 : StG (f_X7_type (49 : Int32)) tg33 (21 : Int32) tg34 := step_type tn33 (by decide) (by decide)
def tg35 : Gh := txg tg34 (21 + 1) (fun i => if i = 21 then vp_nar .char (49 : Int32) else gX tg34 i)
theorem tk35 : gK tg35 = 4 := gK_txg tk34
theorem tn35 : gN tg35 = 22 := rfl
theorem ts38 : StG (f_X7_type (49 : Int32)) tg34 (22 : Int32) tg35 := step_type tn34 (by decide) (by decide)
def tg36 : Gh := txg tg35 (22 + 1) (fun i => if i = 22 then vp_nar .char (49 : Int32) else gX tg35 i)
theorem tk36 : gK tg36 = 4 := gK_txg tk35
theorem tn36 : gN tg36 = 23 := rfl
theorem ts39 : StG (f_X7_type (49 : Int32)) tg35 (23 : Int32) tg36 := step_type tn35 (by decide) (by decide)
