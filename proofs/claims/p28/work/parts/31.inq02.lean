set_option maxRecDepth 20000 in
theorem wsX7_most_r1_in : ∀ w ∈ wsX7_most_r1, w ∈ lw_tbl := in_r [233, 227, 513, 514, 515, 18, 516, 214, 215, 120, 517, 519, 4, 520, 216, 217, 113, 66, 62, 521, 349, 350, 12, 351] (by decide +kernel)
set_option maxRecDepth 20000 in
theorem wsX7_most_r2_in : ∀ w ∈ wsX7_most_r2, w ∈ lw_tbl := in_r [109, 352, 297, 298, 299, 116, 353, 354, 355, 14, 356, 70, 45, 49, 73, 522, 524, 5, 525] (by decide +kernel)
theorem wsX7_most_in : ∀ w ∈ wsX7_most, w ∈ lw_tbl := (List.forall_mem_cons.mpr ⟨List.mem_of_getElem? (i := 512) (by decide +kernel), (List.forall_mem_append.mpr ⟨(List.forall_mem_append.mpr ⟨(List.forall_mem_append.mpr ⟨(List.forall_mem_append.mpr ⟨(List.forall_mem_append.mpr ⟨(List.forall_mem_append.mpr ⟨wsX7_most_r1_in, wsX7_most_r2_in⟩), wsX70_in⟩), wsX40_in⟩), wsX60_in⟩), wsX20_in⟩), wsX00_in⟩)⟩)
theorem qG_most : GoodIn lw_g (wsV RL 29 RX7 yX7_most wsX7_most) := goodIn_app (gd_sub (in_r [509, 510, 511, 11] (by decide +kernel)) (by decide +kernel)) (gd_sub wsX7_most_in (by decide +kernel))
set_option maxRecDepth 20000 in
theorem wsX7_moveOut_r1_in : ∀ w ∈ wsX7_moveOut_r1, w ∈ lw_tbl := in_r [227, 114, 83, 230, 288, 289, 290, 12, 291, 119, 256, 257, 258, 15, 259, 157, 156, 260, 262, 0, 263, 264, 265, 266] (by decide +kernel)
set_option maxRecDepth 20000 in
theorem wsX7_moveOut_r2_in : ∀ w ∈ wsX7_moveOut_r2, w ∈ lw_tbl := in_r [267, 116, 109, 111, 122, 124, 126, 268, 269, 270, 13, 271, 43, 47, 272, 273, 274, 14, 275, 61, 65, 70, 73, 75] (by decide +kernel)
set_option maxRecDepth 20000 in
theorem wsX7_moveOut_r3_in : ∀ w ∈ wsX7_moveOut_r3, w ∈ lw_tbl := in_r [78, 80, 84, 87] (by decide +kernel)
theorem wsX7_moveOut_in : ∀ w ∈ wsX7_moveOut, w ∈ lw_tbl := (List.forall_mem_cons.mpr ⟨List.mem_of_getElem? (i := 539) (by decide +kernel), (List.forall_mem_append.mpr ⟨(List.forall_mem_append.mpr ⟨(List.forall_mem_append.mpr ⟨(List.forall_mem_append.mpr ⟨(List.forall_mem_append.mpr ⟨(List.forall_mem_append.mpr ⟨wsX7_moveOut_r1_in, (List.forall_mem_append.mpr ⟨wsX7_moveOut_r2_in, wsX7_moveOut_r3_in⟩)⟩), wsX70_in⟩), wsX60_in⟩), wsX20_in⟩), wsX10_in⟩), wsX00_in⟩)⟩)
theorem qG_moveOut : GoodIn lw_g (wsV RL 60 RX7 yX7_moveOut wsX7_moveOut) := goodIn_app (gd_sub (in_r [536, 537, 538, 11] (by decide +kernel)) (by decide +kernel)) (gd_sub wsX7_moveOut_in (by decide +kernel))
theorem wsX7_ordered_in : ∀ w ∈ wsX7_ordered, w ∈ lw_tbl := (List.forall_mem_cons.mpr ⟨List.mem_of_getElem? (i := 543) (by decide +kernel), (List.forall_mem_append.mpr ⟨(List.forall_mem_append.mpr ⟨(List.forall_mem_append.mpr ⟨(in_r [227, 129, 544, 333, 334, 12, 335, 119, 111, 128, 336, 337, 338, 339, 76, 340, 341, 342, 14, 343, 75, 78] (by decide +kernel)), wsX70_in⟩), wsX60_in⟩), wsX20_in⟩)⟩)
theorem qG_ordered : GoodIn lw_g (wsV RL 63 RX7 yX7_ordered wsX7_ordered) := goodIn_app (gd_sub (in_r [540, 541, 542, 11] (by decide +kernel)) (by decide +kernel)) (gd_sub wsX7_ordered_in (by decide +kernel))
set_option maxRecDepth 20000 in
theorem wsX7_readLists_r1_in : ∀ w ∈ wsX7_readLists_r1, w ∈ lw_tbl := in_r [231, 227, 230, 174, 580, 581, 582, 16, 583, 178, 173, 584, 586, 6, 587, 175, 177, 176, 588, 590, 7, 591, 592, 594] (by decide +kernel)
set_option maxRecDepth 20000 in
theorem wsX7_readLists_r2_in : ∀ w ∈ wsX7_readLists_r2, w ∈ lw_tbl := in_r [8, 595, 596, 598, 9, 599, 171, 170, 600, 601, 602, 603, 604, 289, 290, 12, 291, 119, 605, 297, 298, 299, 116, 606] (by decide +kernel)
set_option maxRecDepth 20000 in
theorem wsX7_readLists_r3_in : ∀ w ∈ wsX7_readLists_r3, w ∈ lw_tbl := in_r [607, 608, 609, 256, 257, 258, 15, 259, 157, 156, 260, 262, 0, 263, 264, 265, 266, 267, 109, 111, 122, 124, 126, 268] (by decide +kernel)
set_option maxRecDepth 20000 in
theorem wsX7_readLists_r4_in : ∀ w ∈ wsX7_readLists_r4, w ∈ lw_tbl := in_r [269, 270, 13, 271, 43, 47, 272, 273, 274, 14, 275, 61, 65, 70, 73, 75, 78, 80, 84, 87, 610, 611, 612, 613] (by decide +kernel)
set_option maxRecDepth 20000 in
theorem wsX7_readLists_r5_in : ∀ w ∈ wsX7_readLists_r5, w ∈ lw_tbl := in_r [115, 68, 614, 305, 306, 307] (by decide +kernel)
theorem wsX7_readLists_in : ∀ w ∈ wsX7_readLists, w ∈ lw_tbl := (List.forall_mem_cons.mpr ⟨List.mem_of_getElem? (i := 579) (by decide +kernel), (List.forall_mem_append.mpr ⟨(List.forall_mem_append.mpr ⟨(List.forall_mem_append.mpr ⟨(List.forall_mem_append.mpr ⟨(List.forall_mem_append.mpr ⟨(List.forall_mem_append.mpr ⟨(List.forall_mem_append.mpr ⟨wsX7_readLists_r1_in, (List.forall_mem_append.mpr ⟨wsX7_readLists_r2_in, (List.forall_mem_append.mpr ⟨wsX7_readLists_r3_in, (List.forall_mem_append.mpr ⟨wsX7_readLists_r4_in, wsX7_readLists_r5_in⟩)⟩)⟩)⟩), wsX70_in⟩), wsX30_in⟩), wsX60_in⟩), wsX10_in⟩), wsX00_in⟩), wsX20_in⟩)⟩)
theorem qG_readLists : GoodIn lw_g (wsV RL 109 RX7 yX7_readLists wsX7_readLists) := goodIn_app (gd_sub (in_r [576, 577, 578, 11] (by decide +kernel)) (by decide +kernel)) (gd_sub wsX7_readLists_in (by decide +kernel))
set_option maxRecDepth 20000 in
theorem wsX7_restore_r1_in : ∀ w ∈ wsX7_restore_r1, w ∈ lw_tbl := in_r [229, 230, 227, 228, 256, 257, 258, 15, 259, 157, 156, 260, 262, 0, 263, 264, 265, 266, 12, 267, 116, 109, 119, 111] (by decide +kernel)
set_option maxRecDepth 20000 in
theorem wsX7_restore_r2_in : ∀ w ∈ wsX7_restore_r2, w ∈ lw_tbl := in_r [122, 124, 126, 268, 269, 270, 13, 271, 43, 47, 272, 273, 274, 14, 275, 61, 65, 70, 73, 75, 78, 80, 84, 87] (by decide +kernel)
set_option maxRecDepth 20000 in
theorem wsX7_restore_r3_in : ∀ w ∈ wsX7_restore_r3, w ∈ lw_tbl := in_r [447, 448, 449, 450, 451, 81] (by decide +kernel)
theorem wsX7_restore_in : ∀ w ∈ wsX7_restore, w ∈ lw_tbl := (List.forall_mem_cons.mpr ⟨List.mem_of_getElem? (i := 455) (by decide +kernel), (List.forall_mem_append.mpr ⟨(List.forall_mem_append.mpr ⟨(List.forall_mem_append.mpr ⟨(List.forall_mem_append.mpr ⟨(List.forall_mem_append.mpr ⟨(List.forall_mem_append.mpr ⟨wsX7_restore_r1_in, (List.forall_mem_append.mpr ⟨wsX7_restore_r2_in, wsX7_restore_r3_in⟩)⟩), wsX70_in⟩), wsX10_in⟩), wsX60_in⟩), wsX00_in⟩), wsX20_in⟩)⟩)
theorem qG_restore : GoodIn lw_g (wsV RL 90 RX7 yX7_restore wsX7_restore) := goodIn_app (gd_sub (in_r [452, 453, 454, 11] (by decide +kernel)) (by decide +kernel)) (gd_sub wsX7_restore_in (by decide +kernel))
set_option maxRecDepth 20000 in
theorem wsX7_round_r1_in : ∀ w ∈ wsX7_round_r1, w ∈ lw_tbl := in_r [227, 230, 123, 316, 317, 318, 12, 319, 119, 111, 76, 256, 257, 258, 15, 259, 157, 156, 260, 262, 0, 263, 264, 265] (by decide +kernel)
set_option maxRecDepth 20000 in
theorem wsX7_round_r2_in : ∀ w ∈ wsX7_round_r2, w ∈ lw_tbl := in_r [266, 267, 116, 109, 122, 124, 126, 268, 269, 270, 13, 271, 43, 47, 272, 273, 274, 14, 275, 61, 65, 70, 73, 75] (by decide +kernel)
set_option maxRecDepth 20000 in
theorem wsX7_round_r3_in : ∀ w ∈ wsX7_round_r3, w ∈ lw_tbl := in_r [78, 80, 84, 87, 324, 325, 326, 327, 128, 81, 88, 328, 329, 330, 331, 332, 333, 334, 335, 336, 337, 338, 339, 340] (by decide +kernel)
set_option maxRecDepth 20000 in
theorem wsX7_round_r4_in : ∀ w ∈ wsX7_round_r4, w ∈ lw_tbl := in_r [341, 342, 343, 344, 345, 346, 347, 69, 63, 348, 349, 350, 351, 352, 297, 298, 299, 353, 354, 355, 356, 45, 49] (by decide +kernel)
theorem wsX7_round_in : ∀ w ∈ wsX7_round, w ∈ lw_tbl := (List.forall_mem_cons.mpr ⟨List.mem_of_getElem? (i := 323) (by decide +kernel), (List.forall_mem_append.mpr ⟨(List.forall_mem_append.mpr ⟨(List.forall_mem_append.mpr ⟨(List.forall_mem_append.mpr ⟨(List.forall_mem_append.mpr ⟨(List.forall_mem_append.mpr ⟨wsX7_round_r1_in, (List.forall_mem_append.mpr ⟨wsX7_round_r2_in, (List.forall_mem_append.mpr ⟨wsX7_round_r3_in, wsX7_round_r4_in⟩)⟩)⟩), wsX70_in⟩), wsX60_in⟩), wsX20_in⟩), wsX10_in⟩), wsX00_in⟩)⟩)
theorem qG_round : GoodIn lw_g (wsV RL 93 RX7 yX7_round wsX7_round) := goodIn_app (gd_sub (in_r [320, 321, 322, 11] (by decide +kernel)) (by decide +kernel)) (gd_sub wsX7_round_in (by decide +kernel))
set_option maxRecDepth 20000 in
theorem wsX7_swap_r1_in : ∀ w ∈ wsX7_swap_r1, w ∈ lw_tbl := in_r [232, 227, 230, 401, 402, 403, 17, 404, 118, 202, 201, 112, 405, 406, 407, 12, 408, 81, 69, 63, 393, 394, 395, 14] (by decide +kernel)
set_option maxRecDepth 20000 in
theorem wsX7_swap_r2_in : ∀ w ∈ wsX7_swap_r2, w ∈ lw_tbl := in_r [396, 80, 365, 301, 302, 303, 65, 61, 409, 410, 411, 412, 119, 111, 348, 349, 350, 351, 109, 352, 297, 298, 299, 116] (by decide +kernel)
set_option maxRecDepth 20000 in
theorem wsX7_swap_r3_in : ∀ w ∈ wsX7_swap_r3, w ∈ lw_tbl := in_r [353, 354, 355, 356, 70, 45, 49, 73, 413, 414, 415, 416, 417, 419, 1, 420, 421, 423, 2, 424, 256, 257, 258, 15] (by decide +kernel)
set_option maxRecDepth 20000 in
theorem wsX7_swap_r4_in : ∀ w ∈ wsX7_swap_r4, w ∈ lw_tbl := in_r [259, 157, 156, 260, 262, 0, 263, 264, 265, 266, 267, 122, 124, 126, 268, 269, 270, 13, 271, 43, 47, 272, 273, 274] (by decide +kernel)
set_option maxRecDepth 20000 in
theorem wsX7_swap_r5_in : ∀ w ∈ wsX7_swap_r5, w ∈ lw_tbl := in_r [275, 75, 78, 84, 87, 425, 426, 427, 428, 429, 430, 431, 433, 3, 434, 82] (by decide +kernel)
theorem wsX7_swap_in : ∀ w ∈ wsX7_swap, w ∈ lw_tbl := (List.forall_mem_cons.mpr ⟨List.mem_of_getElem? (i := 400) (by decide +kernel), (List.forall_mem_append.mpr ⟨(List.forall_mem_append.mpr ⟨(List.forall_mem_append.mpr ⟨(List.forall_mem_append.mpr ⟨(List.forall_mem_append.mpr ⟨(List.forall_mem_append.mpr ⟨(List.forall_mem_append.mpr ⟨wsX7_swap_r1_in, (List.forall_mem_append.mpr ⟨wsX7_swap_r2_in, (List.forall_mem_append.mpr ⟨wsX7_swap_r3_in, (List.forall_mem_append.mpr ⟨wsX7_swap_r4_in, wsX7_swap_r5_in⟩)⟩)⟩)⟩), wsX70_in⟩), wsX60_in⟩), wsX50_in⟩), wsX20_in⟩), wsX00_in⟩), wsX10_in⟩)⟩)
theorem qG_swap : GoodIn lw_g (wsV RL 96 RX7 yX7_swap wsX7_swap) := goodIn_app (gd_sub (in_r [397, 398, 399, 11] (by decide +kernel)) (by decide +kernel)) (gd_sub wsX7_swap_in (by decide +kernel))
theorem wsX7_type_in : ∀ w ∈ wsX7_type, w ∈ lw_tbl := (List.forall_mem_cons.mpr ⟨List.mem_of_getElem? (i := 569) (by decide +kernel), (List.forall_mem_append.mpr ⟨(List.forall_mem_append.mpr ⟨(in_r [231, 172, 570, 571, 572, 16, 573, 171, 170] (by decide +kernel)), wsX70_in⟩), wsX30_in⟩)⟩)
theorem qG_type : GoodIn lw_g (wsV RL 82 RX7 yX7_type wsX7_type) := goodIn_app (gd_sub (in_r [566, 567, 568, 11] (by decide +kernel)) (by decide +kernel)) (gd_sub wsX7_type_in (by decide +kernel))
