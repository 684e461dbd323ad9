set_option maxRecDepth 20000 in
theorem wsX7_undo_r1_in : ∀ w ∈ wsX7_undo_r1, w ∈ lw_tbl := in_r [230, 158, 227, 439, 440, 441, 15, 442, 157, 156, 264, 265, 266, 12, 267, 116, 109, 119, 111, 122, 124, 126, 268, 269] (by decide +kernel)
set_option maxRecDepth 20000 in
theorem wsX7_undo_r2_in : ∀ w ∈ wsX7_undo_r2, w ∈ lw_tbl := in_r [270, 13, 271, 43, 47, 272, 273, 274, 14, 275, 61, 65, 70, 73, 75, 78, 80, 84, 87] (by decide +kernel)
theorem wsX7_undo_in : ∀ w ∈ wsX7_undo, w ∈ lw_tbl := (List.forall_mem_cons.mpr ⟨List.mem_of_getElem? (i := 438) (by decide +kernel), (List.forall_mem_append.mpr ⟨(List.forall_mem_append.mpr ⟨(List.forall_mem_append.mpr ⟨(List.forall_mem_append.mpr ⟨(List.forall_mem_append.mpr ⟨(List.forall_mem_append.mpr ⟨wsX7_undo_r1_in, wsX7_undo_r2_in⟩), wsX70_in⟩), wsX10_in⟩), wsX60_in⟩), wsX00_in⟩), wsX20_in⟩)⟩)
theorem qG_undo : GoodIn lw_g (wsV RL 87 RX7 yX7_undo wsX7_undo) := goodIn_app (gd_sub (in_r [435, 436, 437, 11] (by decide +kernel)) (by decide +kernel)) (gd_sub wsX7_undo_in (by decide +kernel))
set_option maxRecDepth 20000 in
theorem wsX7_unwish_r1_in : ∀ w ∈ wsX7_unwish_r1, w ∈ lw_tbl := in_r [227, 114, 230, 288, 289, 290, 12, 291, 119, 296, 297, 298, 299, 116, 300, 301, 302, 14, 303, 65, 61, 256, 257, 258] (by decide +kernel)
set_option maxRecDepth 20000 in
theorem wsX7_unwish_r2_in : ∀ w ∈ wsX7_unwish_r2, w ∈ lw_tbl := in_r [15, 259, 157, 156, 260, 262, 0, 263, 264, 265, 266, 267, 109, 111, 122, 124, 126, 268, 269, 270, 13, 271, 43, 47] (by decide +kernel)
set_option maxRecDepth 20000 in
theorem wsX7_unwish_r3_in : ∀ w ∈ wsX7_unwish_r3, w ∈ lw_tbl := in_r [272, 273, 274, 275, 70, 73, 75, 78, 80, 84, 87, 361, 362, 363, 364, 365] (by decide +kernel)
theorem wsX7_unwish_in : ∀ w ∈ wsX7_unwish, w ∈ lw_tbl := (List.forall_mem_cons.mpr ⟨List.mem_of_getElem? (i := 535) (by decide +kernel), (List.forall_mem_append.mpr ⟨(List.forall_mem_append.mpr ⟨(List.forall_mem_append.mpr ⟨(List.forall_mem_append.mpr ⟨(List.forall_mem_append.mpr ⟨(List.forall_mem_append.mpr ⟨wsX7_unwish_r1_in, (List.forall_mem_append.mpr ⟨wsX7_unwish_r2_in, wsX7_unwish_r3_in⟩)⟩), wsX70_in⟩), wsX60_in⟩), wsX20_in⟩), wsX10_in⟩), wsX00_in⟩)⟩)
theorem qG_unwish : GoodIn lw_g (wsV RL 48 RX7 yX7_unwish wsX7_unwish) := goodIn_app (gd_sub (in_r [532, 533, 534, 11] (by decide +kernel)) (by decide +kernel)) (gd_sub wsX7_unwish_in (by decide +kernel))
set_option maxRecDepth 20000 in
theorem wsX7_wish_r1_in : ∀ w ∈ wsX7_wish_r1, w ∈ lw_tbl := in_r [227, 114, 67, 230, 288, 289, 290, 12, 291, 119, 296, 297, 298, 299, 116, 300, 301, 302, 14, 303, 65, 61, 256, 257] (by decide +kernel)
set_option maxRecDepth 20000 in
theorem wsX7_wish_r2_in : ∀ w ∈ wsX7_wish_r2, w ∈ lw_tbl := in_r [258, 15, 259, 157, 156, 260, 262, 0, 263, 264, 265, 266, 267, 109, 111, 122, 124, 126, 268, 269, 270, 13, 271, 43] (by decide +kernel)
set_option maxRecDepth 20000 in
theorem wsX7_wish_r3_in : ∀ w ∈ wsX7_wish_r3, w ∈ lw_tbl := in_r [47, 272, 273, 274, 275, 70, 73, 75, 78, 80, 84, 87, 304, 305, 306, 307] (by decide +kernel)
theorem wsX7_wish_in : ∀ w ∈ wsX7_wish, w ∈ lw_tbl := (List.forall_mem_cons.mpr ⟨List.mem_of_getElem? (i := 295) (by decide +kernel), (List.forall_mem_append.mpr ⟨(List.forall_mem_append.mpr ⟨(List.forall_mem_append.mpr ⟨(List.forall_mem_append.mpr ⟨(List.forall_mem_append.mpr ⟨(List.forall_mem_append.mpr ⟨wsX7_wish_r1_in, (List.forall_mem_append.mpr ⟨wsX7_wish_r2_in, wsX7_wish_r3_in⟩)⟩), wsX70_in⟩), wsX60_in⟩), wsX20_in⟩), wsX10_in⟩), wsX00_in⟩)⟩)
theorem qG_wish : GoodIn lw_g (wsV RL 45 RX7 yX7_wish wsX7_wish) := goodIn_app (gd_sub (in_r [292, 293, 294, 11] (by decide +kernel)) (by decide +kernel)) (gd_sub wsX7_wish_in (by decide +kernel))
theorem wsX7_wished_in : ∀ w ∈ wsX7_wished, w ∈ lw_tbl := (List.forall_mem_cons.mpr ⟨List.mem_of_getElem? (i := 508) (by decide +kernel), (List.forall_mem_append.mpr ⟨(List.forall_mem_append.mpr ⟨(List.forall_mem_append.mpr ⟨(in_r [227, 114, 67, 64, 288, 289, 290, 12, 291, 119] (by decide +kernel)), wsX70_in⟩), wsX60_in⟩), wsX20_in⟩)⟩)
theorem qG_wished : GoodIn lw_g (wsV RL 26 RX7 yX7_wished wsX7_wished) := goodIn_app (gd_sub (in_r [505, 506, 507, 11] (by decide +kernel)) (by decide +kernel)) (gd_sub wsX7_wished_in (by decide +kernel))
set_option maxRecDepth 20000 in
theorem wsX7_wouldGet_r1_in : ∀ w ∈ wsX7_wouldGet_r1, w ∈ lw_tbl := in_r [227, 288, 289, 290, 12, 291, 119, 554, 555, 556, 557, 128, 111, 332, 333, 334, 335, 336, 337, 338, 339, 76, 340, 341] (by decide +kernel)
set_option maxRecDepth 20000 in
theorem wsX7_wouldGet_r2_in : ∀ w ∈ wsX7_wouldGet_r2, w ∈ lw_tbl := in_r [342, 14, 343, 75, 78, 344, 345, 346, 347, 69, 63, 348, 349, 350, 351, 109, 352, 297, 298, 299, 116, 353, 354, 355] (by decide +kernel)
set_option maxRecDepth 20000 in
theorem wsX7_wouldGet_r3_in : ∀ w ∈ wsX7_wouldGet_r3, w ∈ lw_tbl := in_r [356, 70, 45, 49, 73] (by decide +kernel)
theorem wsX7_wouldGet_in : ∀ w ∈ wsX7_wouldGet, w ∈ lw_tbl := (List.forall_mem_cons.mpr ⟨List.mem_of_getElem? (i := 553) (by decide +kernel), (List.forall_mem_append.mpr ⟨(List.forall_mem_append.mpr ⟨(List.forall_mem_append.mpr ⟨(List.forall_mem_append.mpr ⟨(List.forall_mem_append.mpr ⟨wsX7_wouldGet_r1_in, (List.forall_mem_append.mpr ⟨wsX7_wouldGet_r2_in, wsX7_wouldGet_r3_in⟩)⟩), wsX70_in⟩), wsX60_in⟩), wsX20_in⟩), wsX00_in⟩)⟩)
theorem qG_wouldGet : GoodIn lw_g (wsV RL 69 RX7 yX7_wouldGet wsX7_wouldGet) := goodIn_app (gd_sub (in_r [550, 551, 552, 11] (by decide +kernel)) (by decide +kernel)) (gd_sub wsX7_wouldGet_in (by decide +kernel))
def wq_part : List Cond := .code yL_part cL_part 2 (some .int) :: lw_g
set_option maxRecDepth 100000 in
theorem qG_Lpart : GoodIn lw_g (va_wsS RL 176 yL_part wq_part) := goodIn_app (gd_sub (in_r [478, 479, 10] (by decide +kernel)) (by decide +kernel)) (gd_code (w := Cond.code yL_part cL_part 2 (some .int)) 480 (by decide +kernel) (by decide +kernel) rfl)
def wq_drawn : List Cond := .code yL_drawn cL_drawn 2 (some .int) :: lw_g
set_option maxRecDepth 100000 in
theorem qG_Ldrawn : GoodIn lw_g (va_wsS RL 172 yL_drawn wq_drawn) := goodIn_app (gd_sub (in_r [482, 483, 10] (by decide +kernel)) (by decide +kernel)) (gd_code (w := Cond.code yL_drawn cL_drawn 2 (some .int)) 484 (by decide +kernel) (by decide +kernel) rfl)
def wq_seen : List Cond := .code yL_seen cL_seen 4 (some .long) :: lw_g
set_option maxRecDepth 100000 in
theorem qG_Lseen : GoodIn lw_g (va_wsS RL 72 yL_seen wq_seen) := goodIn_app (gd_sub (in_r [486, 487, 10] (by decide +kernel)) (by decide +kernel)) (gd_code (w := Cond.code yL_seen cL_seen 4 (some .long)) 488 (by decide +kernel) (by decide +kernel) rfl)
def wq_refusesAny : List Cond := .code yL_refusesAny cL_refusesAny 4 (some .boolean) :: lw_g
set_option maxRecDepth 100000 in
theorem qG_LrefusesAny : GoodIn lw_g (va_wsS RL 76 yL_refusesAny wq_refusesAny) := goodIn_app (gd_sub (in_r [529, 530, 10] (by decide +kernel)) (by decide +kernel)) (gd_code (w := Cond.code yL_refusesAny cL_refusesAny 4 (some .boolean)) 531 rfl (by decide +kernel) rfl)
def wq_refused : List Cond := .code yL_refused cL_refused 4 (some .boolean) :: lw_g
set_option maxRecDepth 100000 in
theorem qG_Lrefused : GoodIn lw_g (va_wsS RL 112 yL_refused wq_refused) := goodIn_app (gd_sub (in_r [526, 527, 10] (by decide +kernel)) (by decide +kernel)) (gd_code (w := Cond.code yL_refused cL_refused 4 (some .boolean)) 528 (by decide +kernel) (by decide +kernel) rfl)
def wq_types : List Cond := .code yL_types cL_types 6 (some .boolean) :: lw_g
set_option maxRecDepth 100000 in
theorem qG_Ltypes : GoodIn lw_g (va_wsS RL 101 yL_types wq_types) := goodIn_app (gd_sub (in_r [562, 563, 10] (by decide +kernel)) (by decide +kernel)) (gd_code (w := Cond.code yL_types cL_types 6 (some .boolean)) 564 (by decide +kernel) (by decide +kernel) rfl)
def wq_homes : List Cond := .code yL_homes cL_homes 3 (some .boolean) :: lw_g
set_option maxRecDepth 100000 in
theorem qG_Lhomes : GoodIn lw_g (va_wsS RL 165 yL_homes wq_homes) := goodIn_app (gd_sub (in_r [558, 559, 10] (by decide +kernel)) (by decide +kernel)) (gd_code (w := Cond.code yL_homes cL_homes 3 (some .boolean)) 560 rfl (by decide +kernel) rfl)
def wq_faultOf : List Cond := .code yL_faultOf cL_faultOf 6 (some .int) :: lw_g
set_option maxRecDepth 100000 in
theorem qG_LfaultOf : GoodIn lw_g (va_wsS RL 116 yL_faultOf wq_faultOf) := goodIn_app (gd_sub (in_r [618, 619, 10] (by decide +kernel)) (by decide +kernel)) (gd_code (w := Cond.code yL_faultOf cL_faultOf 6 (some .int)) 620 (by decide +kernel) (by decide +kernel) rfl)
def wq_texts : List Cond := .code yL_texts cL_texts 2 (some .boolean) :: lw_g
set_option maxRecDepth 100000 in
theorem qG_Ltexts : GoodIn lw_g (va_wsS RL 169 yL_texts wq_texts) := goodIn_app (gd_sub (in_r [615, 616, 10] (by decide +kernel)) (by decide +kernel)) (gd_code (w := Cond.code yL_texts cL_texts 2 (some .boolean)) 617 rfl (by decide +kernel) rfl)
theorem qK_9 : Cond.constantLong RL 9 (7) ∈ lw_g := m_g 489 (by decide +kernel) (by decide +kernel)
theorem qK_11 : Cond.constantLong RL 11 (31) ∈ lw_g := m_g 490 (by decide +kernel) (by decide +kernel)
theorem qK_80 : Cond.constantLong RL 80 (255) ∈ lw_g := m_g 565 (by decide +kernel) (by decide +kernel)
theorem qK_99 : Cond.constantLong RL 99 (3475143028832416058) ∈ lw_g := m_g 561 (by decide +kernel) (by decide +kernel)
theorem qK_105 : Cond.constantLong RL 105 (3543260037637615660) ∈ lw_g := m_g 574 (by decide +kernel) (by decide +kernel)
theorem qK_107 : Cond.constantLong RL 107 (50) ∈ lw_g := m_g 575 (by decide +kernel) (by decide +kernel)
theorem qK_120 : Cond.constantLong RL 120 (3224122) ∈ lw_g := m_g 621 (by decide +kernel) (by decide +kernel)
theorem qK_122 : Cond.constantLong RL 122 (48) ∈ lw_g := m_g 622 (by decide +kernel) (by decide +kernel)
theorem qK_124 : Cond.constantLong RL 124 (12346) ∈ lw_g := m_g 623 (by decide +kernel) (by decide +kernel)
theorem qK_126 : Cond.constantLong RL 126 (53026591879474) ∈ lw_g := m_g 624 (by decide +kernel) (by decide +kernel)
