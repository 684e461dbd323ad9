/-! PRINTED BY wip/p28/tools/mk_q.py: the words of what the law calls stand in the tables -/
set_option maxRecDepth 20000 in
theorem wsX00_in : ∀ w ∈ wsX00, w ∈ lw_tbl := in_r [50, 52] (by decide +kernel)
set_option maxRecDepth 20000 in
theorem wsX10_in : ∀ w ∈ wsX10, w ∈ lw_tbl := in_r [159, 161] (by decide +kernel)
set_option maxRecDepth 20000 in
theorem wsX20_in : ∀ w ∈ wsX20, w ∈ lw_tbl := in_r [90, 92, 94, 96, 98, 100, 102, 104, 106] (by decide +kernel)
set_option maxRecDepth 20000 in
theorem wsX30_in : ∀ w ∈ wsX30, w ∈ lw_tbl := in_r [179, 181, 183, 185, 187, 189, 191] (by decide +kernel)
set_option maxRecDepth 20000 in
theorem wsX40_in : ∀ w ∈ wsX40, w ∈ lw_tbl := in_r [218, 220, 222, 224] (by decide +kernel)
set_option maxRecDepth 20000 in
theorem wsX50_in : ∀ w ∈ wsX50, w ∈ lw_tbl := in_r [203, 205] (by decide +kernel)
set_option maxRecDepth 20000 in
theorem wsX60_in : ∀ w ∈ wsX60, w ∈ lw_tbl := in_r [130, 132, 134, 136, 138, 140, 142, 144] (by decide +kernel)
set_option maxRecDepth 20000 in
theorem wsX70_in : ∀ w ∈ wsX70, w ∈ lw_tbl := in_r [234, 236, 238, 240, 242, 244, 246] (by decide +kernel)
set_option maxRecDepth 20000 in
theorem wsX7_addFlat_r1_in : ∀ w ∈ wsX7_addFlat_r1, w ∈ lw_tbl := in_r [227, 117, 230, 110, 44, 48, 253, 254, 11, 255, 256, 257, 258, 15, 259, 157, 156, 260, 262, 0, 263, 264, 265, 266] (by decide +kernel)
set_option maxRecDepth 20000 in
theorem wsX7_addFlat_r2_in : ∀ w ∈ wsX7_addFlat_r2, w ∈ lw_tbl := in_r [12, 267, 116, 109, 119, 111, 122, 124, 126, 268, 269, 270, 13, 271, 43, 47, 272, 273, 274, 14, 275, 61, 65, 70] (by decide +kernel)
set_option maxRecDepth 20000 in
theorem wsX7_addFlat_r3_in : ∀ w ∈ wsX7_addFlat_r3, w ∈ lw_tbl := in_r [73, 75, 78, 80, 84, 87] (by decide +kernel)
theorem wsX7_addFlat_in : ∀ w ∈ wsX7_addFlat, w ∈ lw_tbl := (List.forall_mem_cons.mpr ⟨List.mem_of_getElem? (i := 252) (by decide +kernel), (List.forall_mem_append.mpr ⟨(List.forall_mem_append.mpr ⟨(List.forall_mem_append.mpr ⟨(List.forall_mem_append.mpr ⟨(List.forall_mem_append.mpr ⟨(List.forall_mem_append.mpr ⟨wsX7_addFlat_r1_in, (List.forall_mem_append.mpr ⟨wsX7_addFlat_r2_in, wsX7_addFlat_r3_in⟩)⟩), wsX70_in⟩), wsX60_in⟩), wsX00_in⟩), wsX10_in⟩), wsX20_in⟩)⟩)
theorem qG_addFlat : GoodIn lw_tbl (wsV RL 33 RX7 yX7_addFlat wsX7_addFlat) := goodIn_app (goodIn_sub (in_r [249, 250, 251, 11] (by decide +kernel)) (by decide +kernel)) (goodIn_sub wsX7_addFlat_in (by decide +kernel))
set_option maxRecDepth 20000 in
theorem wsX7_addHousehold_r1_in : ∀ w ∈ wsX7_addHousehold_r1, w ∈ lw_tbl := in_r [227, 121, 230, 114, 253, 254, 11, 255, 256, 257, 258, 15, 259, 157, 156, 260, 262, 0, 263, 264, 265, 266, 12, 267] (by decide +kernel)
set_option maxRecDepth 20000 in
theorem wsX7_addHousehold_r2_in : ∀ w ∈ wsX7_addHousehold_r2, w ∈ lw_tbl := in_r [116, 109, 119, 111, 122, 124, 126, 268, 269, 270, 13, 271, 43, 47, 272, 273, 274, 14, 275, 61, 65, 70, 73, 75] (by decide +kernel)
set_option maxRecDepth 20000 in
theorem wsX7_addHousehold_r3_in : ∀ w ∈ wsX7_addHousehold_r3, w ∈ lw_tbl := in_r [78, 80, 84, 87, 280, 281, 282, 283] (by decide +kernel)
theorem wsX7_addHousehold_in : ∀ w ∈ wsX7_addHousehold, w ∈ lw_tbl := (List.forall_mem_cons.mpr ⟨List.mem_of_getElem? (i := 279) (by decide +kernel), (List.forall_mem_append.mpr ⟨(List.forall_mem_append.mpr ⟨(List.forall_mem_append.mpr ⟨(List.forall_mem_append.mpr ⟨(List.forall_mem_append.mpr ⟨(List.forall_mem_append.mpr ⟨wsX7_addHousehold_r1_in, (List.forall_mem_append.mpr ⟨wsX7_addHousehold_r2_in, wsX7_addHousehold_r3_in⟩)⟩), wsX70_in⟩), wsX60_in⟩), wsX10_in⟩), wsX00_in⟩), wsX20_in⟩)⟩)
theorem qG_addHousehold : GoodIn lw_tbl (wsV RL 38 RX7 yX7_addHousehold wsX7_addHousehold) := goodIn_app (goodIn_sub (in_r [276, 277, 278, 11] (by decide +kernel)) (by decide +kernel)) (goodIn_sub wsX7_addHousehold_in (by decide +kernel))
set_option maxRecDepth 20000 in
theorem wsX7_appeal_r1_in : ∀ w ∈ wsX7_appeal_r1, w ∈ lw_tbl := in_r [227, 114, 85, 230, 125, 79, 288, 289, 290, 12, 291, 119, 253, 254, 11, 255, 256, 257, 258, 15, 259, 157, 156, 260] (by decide +kernel)
set_option maxRecDepth 20000 in
theorem wsX7_appeal_r2_in : ∀ w ∈ wsX7_appeal_r2, w ∈ lw_tbl := in_r [262, 0, 263, 264, 265, 266, 267, 116, 109, 111, 122, 124, 126, 268, 269, 270, 13, 271, 43, 47, 272, 273, 274, 14] (by decide +kernel)
set_option maxRecDepth 20000 in
theorem wsX7_appeal_r3_in : ∀ w ∈ wsX7_appeal_r3, w ∈ lw_tbl := in_r [275, 61, 65, 70, 73, 75, 78, 80, 84, 87, 373, 374, 375, 376, 377, 378, 379, 380, 76, 81, 88, 381, 382, 383] (by decide +kernel)
set_option maxRecDepth 20000 in
theorem wsX7_appeal_r4_in : ∀ w ∈ wsX7_appeal_r4, w ∈ lw_tbl := in_r [384, 72, 46, 352, 297, 298, 299, 385, 386, 387, 388, 389, 390, 391, 392, 393, 394, 395, 396, 365, 301, 302, 303, 348] (by decide +kernel)
set_option maxRecDepth 20000 in
theorem wsX7_appeal_r5_in : ∀ w ∈ wsX7_appeal_r5, w ∈ lw_tbl := in_r [349, 350, 351, 353, 354, 355, 356, 45, 49, 340, 341, 342, 343] (by decide +kernel)
theorem wsX7_appeal_in : ∀ w ∈ wsX7_appeal, w ∈ lw_tbl := (List.forall_mem_cons.mpr ⟨List.mem_of_getElem? (i := 372) (by decide +kernel), (List.forall_mem_append.mpr ⟨(List.forall_mem_append.mpr ⟨(List.forall_mem_append.mpr ⟨(List.forall_mem_append.mpr ⟨(List.forall_mem_append.mpr ⟨(List.forall_mem_append.mpr ⟨wsX7_appeal_r1_in, (List.forall_mem_append.mpr ⟨wsX7_appeal_r2_in, (List.forall_mem_append.mpr ⟨wsX7_appeal_r3_in, (List.forall_mem_append.mpr ⟨wsX7_appeal_r4_in, wsX7_appeal_r5_in⟩)⟩)⟩)⟩), wsX70_in⟩), wsX60_in⟩), wsX20_in⟩), wsX10_in⟩), wsX00_in⟩)⟩)
theorem qG_appeal : GoodIn lw_tbl (wsV RL 57 RX7 yX7_appeal wsX7_appeal) := goodIn_app (goodIn_sub (in_r [369, 370, 371, 11] (by decide +kernel)) (by decide +kernel)) (goodIn_sub wsX7_appeal_in (by decide +kernel))
set_option maxRecDepth 20000 in
theorem wsX7_change_r1_in : ∀ w ∈ wsX7_change_r1, w ∈ lw_tbl := in_r [227, 114, 74, 71, 230, 288, 289, 290, 12, 291, 119, 253, 254, 11, 255, 256, 257, 258, 15, 259, 157, 156, 260, 262] (by decide +kernel)
set_option maxRecDepth 20000 in
theorem wsX7_change_r2_in : ∀ w ∈ wsX7_change_r2, w ∈ lw_tbl := in_r [0, 263, 264, 265, 266, 267, 116, 109, 111, 122, 124, 126, 268, 269, 270, 13, 271, 43, 47, 272, 273, 274, 14, 275] (by decide +kernel)
set_option maxRecDepth 20000 in
theorem wsX7_change_r3_in : ∀ w ∈ wsX7_change_r3, w ∈ lw_tbl := in_r [61, 65, 70, 73, 75, 78, 80, 84, 87] (by decide +kernel)
theorem wsX7_change_in : ∀ w ∈ wsX7_change, w ∈ lw_tbl := (List.forall_mem_cons.mpr ⟨List.mem_of_getElem? (i := 287) (by decide +kernel), (List.forall_mem_append.mpr ⟨(List.forall_mem_append.mpr ⟨(List.forall_mem_append.mpr ⟨(List.forall_mem_append.mpr ⟨(List.forall_mem_append.mpr ⟨(List.forall_mem_append.mpr ⟨wsX7_change_r1_in, (List.forall_mem_append.mpr ⟨wsX7_change_r2_in, wsX7_change_r3_in⟩)⟩), wsX70_in⟩), wsX60_in⟩), wsX20_in⟩), wsX10_in⟩), wsX00_in⟩)⟩)
theorem qG_change : GoodIn lw_tbl (wsV RL 41 RX7 yX7_change wsX7_change) := goodIn_app (goodIn_sub (in_r [284, 285, 286, 11] (by decide +kernel)) (by decide +kernel)) (goodIn_sub wsX7_change_in (by decide +kernel))
theorem wsX7_clearText_in : ∀ w ∈ wsX7_clearText, w ∈ lw_tbl := (List.forall_mem_cons.mpr ⟨List.mem_of_getElem? (i := 641) (by decide +kernel), (List.forall_mem_append.mpr ⟨(List.forall_mem_append.mpr ⟨(in_r [231, 172] (by decide +kernel)), wsX70_in⟩), wsX30_in⟩)⟩)
theorem qG_clearText : GoodIn lw_tbl (wsV RL 154 RX7 yX7_clearText wsX7_clearText) := goodIn_app (goodIn_sub (in_r [638, 639, 640, 11] (by decide +kernel)) (by decide +kernel)) (goodIn_sub wsX7_clearText_in (by decide +kernel))
set_option maxRecDepth 20000 in
theorem wsX7_count_r1_in : ∀ w ∈ wsX7_count_r1, w ∈ lw_tbl := in_r [227, 117, 121, 123, 232, 125, 127, 230, 158, 231, 172, 448, 449, 450, 12, 451, 119, 111, 81, 316, 317, 318, 319, 76] (by decide +kernel)
set_option maxRecDepth 20000 in
theorem wsX7_count_r2_in : ∀ w ∈ wsX7_count_r2, w ∈ lw_tbl := in_r [466, 467, 468, 469, 389, 390, 391, 392, 393, 394, 395, 14, 396, 80, 365, 301, 302, 303, 65, 61, 348, 349, 350, 351] (by decide +kernel)
set_option maxRecDepth 20000 in
theorem wsX7_count_r3_in : ∀ w ∈ wsX7_count_r3, w ∈ lw_tbl := in_r [109, 352, 297, 298, 299, 116, 353, 354, 355, 356, 70, 45, 49, 73, 340, 341, 342, 343, 75, 78, 401, 402, 403, 17] (by decide +kernel)
set_option maxRecDepth 20000 in
theorem wsX7_count_r4_in : ∀ w ∈ wsX7_count_r4, w ∈ lw_tbl := in_r [404, 118, 202, 201, 112, 405, 406, 407, 408, 69, 63, 409, 410, 411, 412, 470, 471, 472, 473, 417, 419, 1, 420, 421] (by decide +kernel)
set_option maxRecDepth 20000 in
theorem wsX7_count_r5_in : ∀ w ∈ wsX7_count_r5, w ∈ lw_tbl := in_r [423, 2, 424, 474, 475, 476, 477, 86] (by decide +kernel)
theorem wsX7_count_in : ∀ w ∈ wsX7_count, w ∈ lw_tbl := (List.forall_mem_cons.mpr ⟨List.mem_of_getElem? (i := 465) (by decide +kernel), (List.forall_mem_append.mpr ⟨(List.forall_mem_append.mpr ⟨(List.forall_mem_append.mpr ⟨(List.forall_mem_append.mpr ⟨(List.forall_mem_append.mpr ⟨(List.forall_mem_append.mpr ⟨(List.forall_mem_append.mpr ⟨(List.forall_mem_append.mpr ⟨wsX7_count_r1_in, (List.forall_mem_append.mpr ⟨wsX7_count_r2_in, (List.forall_mem_append.mpr ⟨wsX7_count_r3_in, (List.forall_mem_append.mpr ⟨wsX7_count_r4_in, wsX7_count_r5_in⟩)⟩)⟩)⟩), wsX70_in⟩), wsX60_in⟩), wsX10_in⟩), wsX30_in⟩), wsX20_in⟩), wsX00_in⟩), wsX50_in⟩)⟩)
theorem qG_count : GoodIn lw_tbl (wsV RL 13 RX7 yX7_count wsX7_count) := goodIn_app (goodIn_sub (in_r [462, 463, 464, 11] (by decide +kernel)) (by decide +kernel)) (goodIn_sub wsX7_count_in (by decide +kernel))
set_option maxRecDepth 20000 in
theorem wsX7_decline_r1_in : ∀ w ∈ wsX7_decline_r1, w ∈ lw_tbl := in_r [227, 114, 83, 230, 79, 366, 367, 19, 368, 127, 288, 289, 290, 12, 291, 119, 256, 257, 258, 15, 259, 157, 156, 260] (by decide +kernel)
set_option maxRecDepth 20000 in
theorem wsX7_decline_r2_in : ∀ w ∈ wsX7_decline_r2, w ∈ lw_tbl := in_r [262, 0, 263, 264, 265, 266, 267, 116, 109, 111, 122, 124, 126, 268, 269, 270, 13, 271, 43, 47, 272, 273, 274, 14] (by decide +kernel)
set_option maxRecDepth 20000 in
theorem wsX7_decline_r3_in : ∀ w ∈ wsX7_decline_r3, w ∈ lw_tbl := in_r [275, 61, 65, 70, 73, 75, 78, 80, 84, 87, 361, 362, 363, 364, 365, 301, 302, 303] (by decide +kernel)
theorem wsX7_decline_in : ∀ w ∈ wsX7_decline, w ∈ lw_tbl := (List.forall_mem_cons.mpr ⟨List.mem_of_getElem? (i := 360) (by decide +kernel), (List.forall_mem_append.mpr ⟨(List.forall_mem_append.mpr ⟨(List.forall_mem_append.mpr ⟨(List.forall_mem_append.mpr ⟨(List.forall_mem_append.mpr ⟨(List.forall_mem_append.mpr ⟨wsX7_decline_r1_in, (List.forall_mem_append.mpr ⟨wsX7_decline_r2_in, wsX7_decline_r3_in⟩)⟩), wsX70_in⟩), wsX60_in⟩), wsX20_in⟩), wsX10_in⟩), wsX00_in⟩)⟩)
theorem qG_decline : GoodIn lw_tbl (wsV RL 54 RX7 yX7_decline wsX7_decline) := goodIn_app (goodIn_sub (in_r [357, 358, 359, 11] (by decide +kernel)) (by decide +kernel)) (goodIn_sub wsX7_decline_in (by decide +kernel))
set_option maxRecDepth 20000 in
theorem wsX7_draw_r1_in : ∀ w ∈ wsX7_draw_r1, w ∈ lw_tbl := in_r [227, 230, 114, 77, 288, 289, 290, 12, 291, 119, 253, 254, 11, 255, 312, 313, 314, 315, 111, 76, 256, 257, 258, 15] (by decide +kernel)
set_option maxRecDepth 20000 in
theorem wsX7_draw_r2_in : ∀ w ∈ wsX7_draw_r2, w ∈ lw_tbl := in_r [259, 157, 156, 260, 262, 0, 263, 264, 265, 266, 267, 116, 109, 122, 124, 126, 268, 269, 270, 13, 271, 43, 47, 272] (by decide +kernel)
set_option maxRecDepth 20000 in
theorem wsX7_draw_r3_in : ∀ w ∈ wsX7_draw_r3, w ∈ lw_tbl := in_r [273, 274, 14, 275, 61, 65, 70, 73, 75, 78, 80, 84, 87, 316, 317, 318, 319] (by decide +kernel)
theorem wsX7_draw_in : ∀ w ∈ wsX7_draw, w ∈ lw_tbl := (List.forall_mem_cons.mpr ⟨List.mem_of_getElem? (i := 311) (by decide +kernel), (List.forall_mem_append.mpr ⟨(List.forall_mem_append.mpr ⟨(List.forall_mem_append.mpr ⟨(List.forall_mem_append.mpr ⟨(List.forall_mem_append.mpr ⟨(List.forall_mem_append.mpr ⟨wsX7_draw_r1_in, (List.forall_mem_append.mpr ⟨wsX7_draw_r2_in, wsX7_draw_r3_in⟩)⟩), wsX70_in⟩), wsX60_in⟩), wsX20_in⟩), wsX10_in⟩), wsX00_in⟩)⟩)
theorem qG_draw : GoodIn lw_tbl (wsV RL 51 RX7 yX7_draw wsX7_draw) := goodIn_app (goodIn_sub (in_r [308, 309, 310, 11] (by decide +kernel)) (by decide +kernel)) (goodIn_sub wsX7_draw_in (by decide +kernel))
set_option maxRecDepth 20000 in
theorem wsX7_envies_r1_in : ∀ w ∈ wsX7_envies_r1, w ∈ lw_tbl := in_r [227, 114, 288, 289, 290, 12, 291, 119, 549, 390, 391, 392, 81, 393, 394, 395, 14, 396, 80, 365, 301, 302, 303, 65] (by decide +kernel)
set_option maxRecDepth 20000 in
theorem wsX7_envies_r2_in : ∀ w ∈ wsX7_envies_r2, w ∈ lw_tbl := in_r [61, 348, 349, 350, 351, 109, 352, 297, 298, 299, 116, 353, 354, 355, 356, 70, 45, 49, 73, 340, 341, 342, 343, 75] (by decide +kernel)
set_option maxRecDepth 20000 in
theorem wsX7_envies_r3_in : ∀ w ∈ wsX7_envies_r3, w ∈ lw_tbl := in_r [78] (by decide +kernel)
theorem wsX7_envies_in : ∀ w ∈ wsX7_envies, w ∈ lw_tbl := (List.forall_mem_cons.mpr ⟨List.mem_of_getElem? (i := 548) (by decide +kernel), (List.forall_mem_append.mpr ⟨(List.forall_mem_append.mpr ⟨(List.forall_mem_append.mpr ⟨(List.forall_mem_append.mpr ⟨(List.forall_mem_append.mpr ⟨wsX7_envies_r1_in, (List.forall_mem_append.mpr ⟨wsX7_envies_r2_in, wsX7_envies_r3_in⟩)⟩), wsX70_in⟩), wsX60_in⟩), wsX20_in⟩), wsX00_in⟩)⟩)
theorem qG_envies : GoodIn lw_tbl (wsV RL 66 RX7 yX7_envies wsX7_envies) := goodIn_app (goodIn_sub (in_r [545, 546, 547, 11] (by decide +kernel)) (by decide +kernel)) (goodIn_sub wsX7_envies_in (by decide +kernel))
set_option maxRecDepth 20000 in
theorem wsX7_flat_r1_in : ∀ w ∈ wsX7_flat_r1, w ∈ lw_tbl := in_r [227, 110, 44, 48, 296, 297, 298, 12, 299, 116, 495, 410, 411, 412, 119, 111, 81, 496, 497, 498, 499, 500, 301, 302] (by decide +kernel)
set_option maxRecDepth 20000 in
theorem wsX7_flat_r2_in : ∀ w ∈ wsX7_flat_r2, w ∈ lw_tbl := in_r [14, 303, 65, 61, 501, 502, 503, 504, 348, 349, 350, 351, 109, 352, 353, 354, 355, 356, 70, 45, 49, 73] (by decide +kernel)
theorem wsX7_flat_in : ∀ w ∈ wsX7_flat, w ∈ lw_tbl := (List.forall_mem_cons.mpr ⟨List.mem_of_getElem? (i := 494) (by decide +kernel), (List.forall_mem_append.mpr ⟨(List.forall_mem_append.mpr ⟨(List.forall_mem_append.mpr ⟨(List.forall_mem_append.mpr ⟨(List.forall_mem_append.mpr ⟨wsX7_flat_r1_in, wsX7_flat_r2_in⟩), wsX70_in⟩), wsX60_in⟩), wsX00_in⟩), wsX20_in⟩)⟩)
theorem qG_flat : GoodIn lw_tbl (wsV RL 19 RX7 yX7_flat wsX7_flat) := goodIn_app (goodIn_sub (in_r [491, 492, 493, 11] (by decide +kernel)) (by decide +kernel)) (goodIn_sub wsX7_flat_in (by decide +kernel))
set_option maxRecDepth 20000 in
theorem wsX7_household_r1_in : ∀ w ∈ wsX7_household_r1, w ∈ lw_tbl := in_r [227, 114, 71, 74, 77, 79, 83, 67, 85, 89, 288, 289, 290, 12, 291, 119, 460, 337, 338, 339, 76, 111, 340, 341] (by decide +kernel)
set_option maxRecDepth 20000 in
theorem wsX7_household_r2_in : ∀ w ∈ wsX7_household_r2, w ∈ lw_tbl := in_r [342, 14, 343, 75, 78, 461, 406, 407, 408, 81, 69, 63, 393, 394, 395, 396, 80, 365, 301, 302, 303, 65, 61, 409] (by decide +kernel)
set_option maxRecDepth 20000 in
theorem wsX7_household_r3_in : ∀ w ∈ wsX7_household_r3, w ∈ lw_tbl := in_r [410, 411, 412, 348, 349, 350, 351, 109, 352, 297, 298, 299, 116, 353, 354, 355, 356, 70, 45, 49, 73] (by decide +kernel)
theorem wsX7_household_in : ∀ w ∈ wsX7_household, w ∈ lw_tbl := (List.forall_mem_cons.mpr ⟨List.mem_of_getElem? (i := 459) (by decide +kernel), (List.forall_mem_append.mpr ⟨(List.forall_mem_append.mpr ⟨(List.forall_mem_append.mpr ⟨(List.forall_mem_append.mpr ⟨(List.forall_mem_append.mpr ⟨wsX7_household_r1_in, (List.forall_mem_append.mpr ⟨wsX7_household_r2_in, wsX7_household_r3_in⟩)⟩), wsX70_in⟩), wsX60_in⟩), wsX20_in⟩), wsX00_in⟩)⟩)
theorem qG_household : GoodIn lw_tbl (wsV RL 23 RX7 yX7_household wsX7_household) := goodIn_app (goodIn_sub (in_r [456, 457, 458, 11] (by decide +kernel)) (by decide +kernel)) (goodIn_sub wsX7_household_in (by decide +kernel))
set_option maxRecDepth 20000 in
theorem wsX7_init_r1_in : ∀ w ∈ wsX7_init_r1, w ∈ lw_tbl := in_r [25, 26, 27, 28, 29, 12, 227, 228, 229, 147, 148, 15, 230, 164, 165, 16, 231, 195, 196, 17, 232, 208, 209, 18] (by decide +kernel)
set_option maxRecDepth 20000 in
theorem wsX7_init_r2_in : ∀ w ∈ wsX7_init_r2, w ∈ lw_tbl := in_r [233, 30, 31, 32, 33, 34, 109, 36, 111, 55, 128, 38, 13, 56, 14, 40, 41, 42, 58, 59, 60, 61, 149, 150] (by decide +kernel)
set_option maxRecDepth 20000 in
theorem wsX7_init_r3_in : ∀ w ∈ wsX7_init_r3, w ∈ lw_tbl := in_r [151, 152, 153, 156, 155, 167, 168, 169, 194, 170, 175, 176, 177, 198, 199, 200, 201, 211, 212, 213, 214, 215, 216, 217] (by decide +kernel)
theorem wsX7_init_in : ∀ w ∈ wsX7_init, w ∈ lw_tbl := (List.forall_mem_cons.mpr ⟨List.mem_of_getElem? (i := 24) (by decide +kernel), (List.forall_mem_append.mpr ⟨(List.forall_mem_append.mpr ⟨(List.forall_mem_append.mpr ⟨(List.forall_mem_append.mpr ⟨(List.forall_mem_append.mpr ⟨(List.forall_mem_append.mpr ⟨(List.forall_mem_append.mpr ⟨(List.forall_mem_append.mpr ⟨(List.forall_mem_append.mpr ⟨wsX7_init_r1_in, (List.forall_mem_append.mpr ⟨wsX7_init_r2_in, wsX7_init_r3_in⟩)⟩), wsX60_in⟩), wsX70_in⟩), wsX10_in⟩), wsX30_in⟩), wsX50_in⟩), wsX40_in⟩), wsX00_in⟩), wsX20_in⟩)⟩)
theorem qG_init : GoodIn lw_tbl wsX7_init := goodIn_sub wsX7_init_in (by decide +kernel)
theorem qL_init : Cond.methodLink RL 86 yX7_init ∈ lw_tbl := List.mem_of_getElem? (i := 22) (by decide +kernel)
theorem qI_init : Cond.instanceMethod yX7_init ∈ lw_tbl := List.mem_of_getElem? (i := 23) (by decide +kernel)
set_option maxRecDepth 20000 in
theorem wsX7_keep_r1_in : ∀ w ∈ wsX7_keep_r1, w ∈ lw_tbl := in_r [228, 227, 229, 447, 265, 266, 12, 267, 116, 109, 119, 111, 122, 124, 126, 268, 269, 270, 13, 271, 43, 47, 272, 273] (by decide +kernel)
set_option maxRecDepth 20000 in
theorem wsX7_keep_r2_in : ∀ w ∈ wsX7_keep_r2, w ∈ lw_tbl := in_r [274, 14, 275, 61, 65, 70, 73, 75, 78, 80, 84, 87, 448, 449, 450, 451, 81] (by decide +kernel)
theorem wsX7_keep_in : ∀ w ∈ wsX7_keep, w ∈ lw_tbl := (List.forall_mem_cons.mpr ⟨List.mem_of_getElem? (i := 446) (by decide +kernel), (List.forall_mem_append.mpr ⟨(List.forall_mem_append.mpr ⟨(List.forall_mem_append.mpr ⟨(List.forall_mem_append.mpr ⟨(List.forall_mem_append.mpr ⟨wsX7_keep_r1_in, wsX7_keep_r2_in⟩), wsX70_in⟩), wsX60_in⟩), wsX00_in⟩), wsX20_in⟩)⟩)
theorem qG_keep : GoodIn lw_tbl (wsV RL 179 RX7 yX7_keep wsX7_keep) := goodIn_app (goodIn_sub (in_r [443, 444, 445, 11] (by decide +kernel)) (by decide +kernel)) (goodIn_sub wsX7_keep_in (by decide +kernel))
set_option maxRecDepth 20000 in
theorem wsX7_most_r1_in : ∀ w ∈ wsX7_most_r1, w ∈ lw_tbl := in_r [233, 227, 513, 514, 515, 18, 516, 214, 215, 120, 517, 519, 4, 520, 216, 217, 113, 66, 62, 521, 349, 350, 12, 351] (by decide +kernel)
set_option maxRecDepth 20000 in
theorem wsX7_most_r2_in : ∀ w ∈ wsX7_most_r2, w ∈ lw_tbl := in_r [109, 352, 297, 298, 299, 116, 353, 354, 355, 14, 356, 70, 45, 49, 73, 522, 524, 5, 525] (by decide +kernel)
theorem wsX7_most_in : ∀ w ∈ wsX7_most, w ∈ lw_tbl := (List.forall_mem_cons.mpr ⟨List.mem_of_getElem? (i := 512) (by decide +kernel), (List.forall_mem_append.mpr ⟨(List.forall_mem_append.mpr ⟨(List.forall_mem_append.mpr ⟨(List.forall_mem_append.mpr ⟨(List.forall_mem_append.mpr ⟨(List.forall_mem_append.mpr ⟨wsX7_most_r1_in, wsX7_most_r2_in⟩), wsX70_in⟩), wsX40_in⟩), wsX60_in⟩), wsX20_in⟩), wsX00_in⟩)⟩)
theorem qG_most : GoodIn lw_tbl (wsV RL 29 RX7 yX7_most wsX7_most) := goodIn_app (goodIn_sub (in_r [509, 510, 511, 11] (by decide +kernel)) (by decide +kernel)) (goodIn_sub wsX7_most_in (by decide +kernel))
set_option maxRecDepth 20000 in
theorem wsX7_moveOut_r1_in : ∀ w ∈ wsX7_moveOut_r1, w ∈ lw_tbl := in_r [227, 114, 83, 230, 288, 289, 290, 12, 291, 119, 256, 257, 258, 15, 259, 157, 156, 260, 262, 0, 263, 264, 265, 266] (by decide +kernel)
set_option maxRecDepth 20000 in
theorem wsX7_moveOut_r2_in : ∀ w ∈ wsX7_moveOut_r2, w ∈ lw_tbl := in_r [267, 116, 109, 111, 122, 124, 126, 268, 269, 270, 13, 271, 43, 47, 272, 273, 274, 14, 275, 61, 65, 70, 73, 75] (by decide +kernel)
set_option maxRecDepth 20000 in
theorem wsX7_moveOut_r3_in : ∀ w ∈ wsX7_moveOut_r3, w ∈ lw_tbl := in_r [78, 80, 84, 87] (by decide +kernel)
theorem wsX7_moveOut_in : ∀ w ∈ wsX7_moveOut, w ∈ lw_tbl := (List.forall_mem_cons.mpr ⟨List.mem_of_getElem? (i := 539) (by decide +kernel), (List.forall_mem_append.mpr ⟨(List.forall_mem_append.mpr ⟨(List.forall_mem_append.mpr ⟨(List.forall_mem_append.mpr ⟨(List.forall_mem_append.mpr ⟨(List.forall_mem_append.mpr ⟨wsX7_moveOut_r1_in, (List.forall_mem_append.mpr ⟨wsX7_moveOut_r2_in, wsX7_moveOut_r3_in⟩)⟩), wsX70_in⟩), wsX60_in⟩), wsX20_in⟩), wsX10_in⟩), wsX00_in⟩)⟩)
theorem qG_moveOut : GoodIn lw_tbl (wsV RL 60 RX7 yX7_moveOut wsX7_moveOut) := goodIn_app (goodIn_sub (in_r [536, 537, 538, 11] (by decide +kernel)) (by decide +kernel)) (goodIn_sub wsX7_moveOut_in (by decide +kernel))
theorem wsX7_ordered_in : ∀ w ∈ wsX7_ordered, w ∈ lw_tbl := (List.forall_mem_cons.mpr ⟨List.mem_of_getElem? (i := 543) (by decide +kernel), (List.forall_mem_append.mpr ⟨(List.forall_mem_append.mpr ⟨(List.forall_mem_append.mpr ⟨(in_r [227, 129, 544, 333, 334, 12, 335, 119, 111, 128, 336, 337, 338, 339, 76, 340, 341, 342, 14, 343, 75, 78] (by decide +kernel)), wsX70_in⟩), wsX60_in⟩), wsX20_in⟩)⟩)
theorem qG_ordered : GoodIn lw_tbl (wsV RL 63 RX7 yX7_ordered wsX7_ordered) := goodIn_app (goodIn_sub (in_r [540, 541, 542, 11] (by decide +kernel)) (by decide +kernel)) (goodIn_sub wsX7_ordered_in (by decide +kernel))
set_option maxRecDepth 20000 in
theorem wsX7_readLists_r1_in : ∀ w ∈ wsX7_readLists_r1, w ∈ lw_tbl := in_r [231, 227, 230, 174, 580, 581, 582, 16, 583, 178, 173, 584, 586, 6, 587, 175, 177, 176, 588, 590, 7, 591, 592, 594] (by decide +kernel)
set_option maxRecDepth 20000 in
theorem wsX7_readLists_r2_in : ∀ w ∈ wsX7_readLists_r2, w ∈ lw_tbl := in_r [8, 595, 596, 598, 9, 599, 171, 170, 600, 601, 602, 603, 604, 289, 290, 12, 291, 119, 605, 297, 298, 299, 116, 606] (by decide +kernel)
set_option maxRecDepth 20000 in
theorem wsX7_readLists_r3_in : ∀ w ∈ wsX7_readLists_r3, w ∈ lw_tbl := in_r [607, 608, 609, 256, 257, 258, 15, 259, 157, 156, 260, 262, 0, 263, 264, 265, 266, 267, 109, 111, 122, 124, 126, 268] (by decide +kernel)
set_option maxRecDepth 20000 in
theorem wsX7_readLists_r4_in : ∀ w ∈ wsX7_readLists_r4, w ∈ lw_tbl := in_r [269, 270, 13, 271, 43, 47, 272, 273, 274, 14, 275, 61, 65, 70, 73, 75, 78, 80, 84, 87, 610, 611, 612, 613] (by decide +kernel)
set_option maxRecDepth 20000 in
theorem wsX7_readLists_r5_in : ∀ w ∈ wsX7_readLists_r5, w ∈ lw_tbl := in_r [115, 68, 614, 305, 306, 307] (by decide +kernel)
theorem wsX7_readLists_in : ∀ w ∈ wsX7_readLists, w ∈ lw_tbl := (List.forall_mem_cons.mpr ⟨List.mem_of_getElem? (i := 579) (by decide +kernel), (List.forall_mem_append.mpr ⟨(List.forall_mem_append.mpr ⟨(List.forall_mem_append.mpr ⟨(List.forall_mem_append.mpr ⟨(List.forall_mem_append.mpr ⟨(List.forall_mem_append.mpr ⟨(List.forall_mem_append.mpr ⟨wsX7_readLists_r1_in, (List.forall_mem_append.mpr ⟨wsX7_readLists_r2_in, (List.forall_mem_append.mpr ⟨wsX7_readLists_r3_in, (List.forall_mem_append.mpr ⟨wsX7_readLists_r4_in, wsX7_readLists_r5_in⟩)⟩)⟩)⟩), wsX70_in⟩), wsX30_in⟩), wsX60_in⟩), wsX10_in⟩), wsX00_in⟩), wsX20_in⟩)⟩)
theorem qG_readLists : GoodIn lw_tbl (wsV RL 109 RX7 yX7_readLists wsX7_readLists) := goodIn_app (goodIn_sub (in_r [576, 577, 578, 11] (by decide +kernel)) (by decide +kernel)) (goodIn_sub wsX7_readLists_in (by decide +kernel))
set_option maxRecDepth 20000 in
theorem wsX7_restore_r1_in : ∀ w ∈ wsX7_restore_r1, w ∈ lw_tbl := in_r [229, 230, 227, 228, 256, 257, 258, 15, 259, 157, 156, 260, 262, 0, 263, 264, 265, 266, 12, 267, 116, 109, 119, 111] (by decide +kernel)
set_option maxRecDepth 20000 in
theorem wsX7_restore_r2_in : ∀ w ∈ wsX7_restore_r2, w ∈ lw_tbl := in_r [122, 124, 126, 268, 269, 270, 13, 271, 43, 47, 272, 273, 274, 14, 275, 61, 65, 70, 73, 75, 78, 80, 84, 87] (by decide +kernel)
set_option maxRecDepth 20000 in
theorem wsX7_restore_r3_in : ∀ w ∈ wsX7_restore_r3, w ∈ lw_tbl := in_r [447, 448, 449, 450, 451, 81] (by decide +kernel)
theorem wsX7_restore_in : ∀ w ∈ wsX7_restore, w ∈ lw_tbl := (List.forall_mem_cons.mpr ⟨List.mem_of_getElem? (i := 455) (by decide +kernel), (List.forall_mem_append.mpr ⟨(List.forall_mem_append.mpr ⟨(List.forall_mem_append.mpr ⟨(List.forall_mem_append.mpr ⟨(List.forall_mem_append.mpr ⟨(List.forall_mem_append.mpr ⟨wsX7_restore_r1_in, (List.forall_mem_append.mpr ⟨wsX7_restore_r2_in, wsX7_restore_r3_in⟩)⟩), wsX70_in⟩), wsX10_in⟩), wsX60_in⟩), wsX00_in⟩), wsX20_in⟩)⟩)
theorem qG_restore : GoodIn lw_tbl (wsV RL 90 RX7 yX7_restore wsX7_restore) := goodIn_app (goodIn_sub (in_r [452, 453, 454, 11] (by decide +kernel)) (by decide +kernel)) (goodIn_sub wsX7_restore_in (by decide +kernel))
set_option maxRecDepth 20000 in
theorem wsX7_round_r1_in : ∀ w ∈ wsX7_round_r1, w ∈ lw_tbl := in_r [227, 230, 123, 316, 317, 318, 12, 319, 119, 111, 76, 256, 257, 258, 15, 259, 157, 156, 260, 262, 0, 263, 264, 265] (by decide +kernel)
set_option maxRecDepth 20000 in
theorem wsX7_round_r2_in : ∀ w ∈ wsX7_round_r2, w ∈ lw_tbl := in_r [266, 267, 116, 109, 122, 124, 126, 268, 269, 270, 13, 271, 43, 47, 272, 273, 274, 14, 275, 61, 65, 70, 73, 75] (by decide +kernel)
set_option maxRecDepth 20000 in
theorem wsX7_round_r3_in : ∀ w ∈ wsX7_round_r3, w ∈ lw_tbl := in_r [78, 80, 84, 87, 324, 325, 326, 327, 128, 81, 88, 328, 329, 330, 331, 332, 333, 334, 335, 336, 337, 338, 339, 340] (by decide +kernel)
set_option maxRecDepth 20000 in
theorem wsX7_round_r4_in : ∀ w ∈ wsX7_round_r4, w ∈ lw_tbl := in_r [341, 342, 343, 344, 345, 346, 347, 69, 63, 348, 349, 350, 351, 352, 297, 298, 299, 353, 354, 355, 356, 45, 49] (by decide +kernel)
theorem wsX7_round_in : ∀ w ∈ wsX7_round, w ∈ lw_tbl := (List.forall_mem_cons.mpr ⟨List.mem_of_getElem? (i := 323) (by decide +kernel), (List.forall_mem_append.mpr ⟨(List.forall_mem_append.mpr ⟨(List.forall_mem_append.mpr ⟨(List.forall_mem_append.mpr ⟨(List.forall_mem_append.mpr ⟨(List.forall_mem_append.mpr ⟨wsX7_round_r1_in, (List.forall_mem_append.mpr ⟨wsX7_round_r2_in, (List.forall_mem_append.mpr ⟨wsX7_round_r3_in, wsX7_round_r4_in⟩)⟩)⟩), wsX70_in⟩), wsX60_in⟩), wsX20_in⟩), wsX10_in⟩), wsX00_in⟩)⟩)
theorem qG_round : GoodIn lw_tbl (wsV RL 93 RX7 yX7_round wsX7_round) := goodIn_app (goodIn_sub (in_r [320, 321, 322, 11] (by decide +kernel)) (by decide +kernel)) (goodIn_sub wsX7_round_in (by decide +kernel))
set_option maxRecDepth 20000 in
theorem wsX7_swap_r1_in : ∀ w ∈ wsX7_swap_r1, w ∈ lw_tbl := in_r [232, 227, 230, 401, 402, 403, 17, 404, 118, 202, 201, 112, 405, 406, 407, 12, 408, 81, 69, 63, 393, 394, 395, 14] (by decide +kernel)
set_option maxRecDepth 20000 in
theorem wsX7_swap_r2_in : ∀ w ∈ wsX7_swap_r2, w ∈ lw_tbl := in_r [396, 80, 365, 301, 302, 303, 65, 61, 409, 410, 411, 412, 119, 111, 348, 349, 350, 351, 109, 352, 297, 298, 299, 116] (by decide +kernel)
set_option maxRecDepth 20000 in
theorem wsX7_swap_r3_in : ∀ w ∈ wsX7_swap_r3, w ∈ lw_tbl := in_r [353, 354, 355, 356, 70, 45, 49, 73, 413, 414, 415, 416, 417, 419, 1, 420, 421, 423, 2, 424, 256, 257, 258, 15] (by decide +kernel)
set_option maxRecDepth 20000 in
theorem wsX7_swap_r4_in : ∀ w ∈ wsX7_swap_r4, w ∈ lw_tbl := in_r [259, 157, 156, 260, 262, 0, 263, 264, 265, 266, 267, 122, 124, 126, 268, 269, 270, 13, 271, 43, 47, 272, 273, 274] (by decide +kernel)
set_option maxRecDepth 20000 in
theorem wsX7_swap_r5_in : ∀ w ∈ wsX7_swap_r5, w ∈ lw_tbl := in_r [275, 75, 78, 84, 87, 425, 426, 427, 428, 429, 430, 431, 433, 3, 434, 82] (by decide +kernel)
theorem wsX7_swap_in : ∀ w ∈ wsX7_swap, w ∈ lw_tbl := (List.forall_mem_cons.mpr ⟨List.mem_of_getElem? (i := 400) (by decide +kernel), (List.forall_mem_append.mpr ⟨(List.forall_mem_append.mpr ⟨(List.forall_mem_append.mpr ⟨(List.forall_mem_append.mpr ⟨(List.forall_mem_append.mpr ⟨(List.forall_mem_append.mpr ⟨(List.forall_mem_append.mpr ⟨wsX7_swap_r1_in, (List.forall_mem_append.mpr ⟨wsX7_swap_r2_in, (List.forall_mem_append.mpr ⟨wsX7_swap_r3_in, (List.forall_mem_append.mpr ⟨wsX7_swap_r4_in, wsX7_swap_r5_in⟩)⟩)⟩)⟩), wsX70_in⟩), wsX60_in⟩), wsX50_in⟩), wsX20_in⟩), wsX00_in⟩), wsX10_in⟩)⟩)
theorem qG_swap : GoodIn lw_tbl (wsV RL 96 RX7 yX7_swap wsX7_swap) := goodIn_app (goodIn_sub (in_r [397, 398, 399, 11] (by decide +kernel)) (by decide +kernel)) (goodIn_sub wsX7_swap_in (by decide +kernel))
theorem wsX7_type_in : ∀ w ∈ wsX7_type, w ∈ lw_tbl := (List.forall_mem_cons.mpr ⟨List.mem_of_getElem? (i := 569) (by decide +kernel), (List.forall_mem_append.mpr ⟨(List.forall_mem_append.mpr ⟨(in_r [231, 172, 570, 571, 572, 16, 573, 171, 170] (by decide +kernel)), wsX70_in⟩), wsX30_in⟩)⟩)
theorem qG_type : GoodIn lw_tbl (wsV RL 82 RX7 yX7_type wsX7_type) := goodIn_app (goodIn_sub (in_r [566, 567, 568, 11] (by decide +kernel)) (by decide +kernel)) (goodIn_sub wsX7_type_in (by decide +kernel))
set_option maxRecDepth 20000 in
theorem wsX7_undo_r1_in : ∀ w ∈ wsX7_undo_r1, w ∈ lw_tbl := in_r [230, 158, 227, 439, 440, 441, 15, 442, 157, 156, 264, 265, 266, 12, 267, 116, 109, 119, 111, 122, 124, 126, 268, 269] (by decide +kernel)
set_option maxRecDepth 20000 in
theorem wsX7_undo_r2_in : ∀ w ∈ wsX7_undo_r2, w ∈ lw_tbl := in_r [270, 13, 271, 43, 47, 272, 273, 274, 14, 275, 61, 65, 70, 73, 75, 78, 80, 84, 87] (by decide +kernel)
theorem wsX7_undo_in : ∀ w ∈ wsX7_undo, w ∈ lw_tbl := (List.forall_mem_cons.mpr ⟨List.mem_of_getElem? (i := 438) (by decide +kernel), (List.forall_mem_append.mpr ⟨(List.forall_mem_append.mpr ⟨(List.forall_mem_append.mpr ⟨(List.forall_mem_append.mpr ⟨(List.forall_mem_append.mpr ⟨(List.forall_mem_append.mpr ⟨wsX7_undo_r1_in, wsX7_undo_r2_in⟩), wsX70_in⟩), wsX10_in⟩), wsX60_in⟩), wsX00_in⟩), wsX20_in⟩)⟩)
theorem qG_undo : GoodIn lw_tbl (wsV RL 87 RX7 yX7_undo wsX7_undo) := goodIn_app (goodIn_sub (in_r [435, 436, 437, 11] (by decide +kernel)) (by decide +kernel)) (goodIn_sub wsX7_undo_in (by decide +kernel))
set_option maxRecDepth 20000 in
theorem wsX7_unwish_r1_in : ∀ w ∈ wsX7_unwish_r1, w ∈ lw_tbl := in_r [227, 114, 230, 288, 289, 290, 12, 291, 119, 296, 297, 298, 299, 116, 300, 301, 302, 14, 303, 65, 61, 256, 257, 258] (by decide +kernel)
set_option maxRecDepth 20000 in
theorem wsX7_unwish_r2_in : ∀ w ∈ wsX7_unwish_r2, w ∈ lw_tbl := in_r [15, 259, 157, 156, 260, 262, 0, 263, 264, 265, 266, 267, 109, 111, 122, 124, 126, 268, 269, 270, 13, 271, 43, 47] (by decide +kernel)
set_option maxRecDepth 20000 in
theorem wsX7_unwish_r3_in : ∀ w ∈ wsX7_unwish_r3, w ∈ lw_tbl := in_r [272, 273, 274, 275, 70, 73, 75, 78, 80, 84, 87, 361, 362, 363, 364, 365] (by decide +kernel)
theorem wsX7_unwish_in : ∀ w ∈ wsX7_unwish, w ∈ lw_tbl := (List.forall_mem_cons.mpr ⟨List.mem_of_getElem? (i := 535) (by decide +kernel), (List.forall_mem_append.mpr ⟨(List.forall_mem_append.mpr ⟨(List.forall_mem_append.mpr ⟨(List.forall_mem_append.mpr ⟨(List.forall_mem_append.mpr ⟨(List.forall_mem_append.mpr ⟨wsX7_unwish_r1_in, (List.forall_mem_append.mpr ⟨wsX7_unwish_r2_in, wsX7_unwish_r3_in⟩)⟩), wsX70_in⟩), wsX60_in⟩), wsX20_in⟩), wsX10_in⟩), wsX00_in⟩)⟩)
theorem qG_unwish : GoodIn lw_tbl (wsV RL 48 RX7 yX7_unwish wsX7_unwish) := goodIn_app (goodIn_sub (in_r [532, 533, 534, 11] (by decide +kernel)) (by decide +kernel)) (goodIn_sub wsX7_unwish_in (by decide +kernel))
set_option maxRecDepth 20000 in
theorem wsX7_wish_r1_in : ∀ w ∈ wsX7_wish_r1, w ∈ lw_tbl := in_r [227, 114, 67, 230, 288, 289, 290, 12, 291, 119, 296, 297, 298, 299, 116, 300, 301, 302, 14, 303, 65, 61, 256, 257] (by decide +kernel)
set_option maxRecDepth 20000 in
theorem wsX7_wish_r2_in : ∀ w ∈ wsX7_wish_r2, w ∈ lw_tbl := in_r [258, 15, 259, 157, 156, 260, 262, 0, 263, 264, 265, 266, 267, 109, 111, 122, 124, 126, 268, 269, 270, 13, 271, 43] (by decide +kernel)
set_option maxRecDepth 20000 in
theorem wsX7_wish_r3_in : ∀ w ∈ wsX7_wish_r3, w ∈ lw_tbl := in_r [47, 272, 273, 274, 275, 70, 73, 75, 78, 80, 84, 87, 304, 305, 306, 307] (by decide +kernel)
theorem wsX7_wish_in : ∀ w ∈ wsX7_wish, w ∈ lw_tbl := (List.forall_mem_cons.mpr ⟨List.mem_of_getElem? (i := 295) (by decide +kernel), (List.forall_mem_append.mpr ⟨(List.forall_mem_append.mpr ⟨(List.forall_mem_append.mpr ⟨(List.forall_mem_append.mpr ⟨(List.forall_mem_append.mpr ⟨(List.forall_mem_append.mpr ⟨wsX7_wish_r1_in, (List.forall_mem_append.mpr ⟨wsX7_wish_r2_in, wsX7_wish_r3_in⟩)⟩), wsX70_in⟩), wsX60_in⟩), wsX20_in⟩), wsX10_in⟩), wsX00_in⟩)⟩)
theorem qG_wish : GoodIn lw_tbl (wsV RL 45 RX7 yX7_wish wsX7_wish) := goodIn_app (goodIn_sub (in_r [292, 293, 294, 11] (by decide +kernel)) (by decide +kernel)) (goodIn_sub wsX7_wish_in (by decide +kernel))
theorem wsX7_wished_in : ∀ w ∈ wsX7_wished, w ∈ lw_tbl := (List.forall_mem_cons.mpr ⟨List.mem_of_getElem? (i := 508) (by decide +kernel), (List.forall_mem_append.mpr ⟨(List.forall_mem_append.mpr ⟨(List.forall_mem_append.mpr ⟨(in_r [227, 114, 67, 64, 288, 289, 290, 12, 291, 119] (by decide +kernel)), wsX70_in⟩), wsX60_in⟩), wsX20_in⟩)⟩)
theorem qG_wished : GoodIn lw_tbl (wsV RL 26 RX7 yX7_wished wsX7_wished) := goodIn_app (goodIn_sub (in_r [505, 506, 507, 11] (by decide +kernel)) (by decide +kernel)) (goodIn_sub wsX7_wished_in (by decide +kernel))
set_option maxRecDepth 20000 in
theorem wsX7_wouldGet_r1_in : ∀ w ∈ wsX7_wouldGet_r1, w ∈ lw_tbl := in_r [227, 288, 289, 290, 12, 291, 119, 554, 555, 556, 557, 128, 111, 332, 333, 334, 335, 336, 337, 338, 339, 76, 340, 341] (by decide +kernel)
set_option maxRecDepth 20000 in
theorem wsX7_wouldGet_r2_in : ∀ w ∈ wsX7_wouldGet_r2, w ∈ lw_tbl := in_r [342, 14, 343, 75, 78, 344, 345, 346, 347, 69, 63, 348, 349, 350, 351, 109, 352, 297, 298, 299, 116, 353, 354, 355] (by decide +kernel)
set_option maxRecDepth 20000 in
theorem wsX7_wouldGet_r3_in : ∀ w ∈ wsX7_wouldGet_r3, w ∈ lw_tbl := in_r [356, 70, 45, 49, 73] (by decide +kernel)
theorem wsX7_wouldGet_in : ∀ w ∈ wsX7_wouldGet, w ∈ lw_tbl := (List.forall_mem_cons.mpr ⟨List.mem_of_getElem? (i := 553) (by decide +kernel), (List.forall_mem_append.mpr ⟨(List.forall_mem_append.mpr ⟨(List.forall_mem_append.mpr ⟨(List.forall_mem_append.mpr ⟨(List.forall_mem_append.mpr ⟨wsX7_wouldGet_r1_in, (List.forall_mem_append.mpr ⟨wsX7_wouldGet_r2_in, wsX7_wouldGet_r3_in⟩)⟩), wsX70_in⟩), wsX60_in⟩), wsX20_in⟩), wsX00_in⟩)⟩)
theorem qG_wouldGet : GoodIn lw_tbl (wsV RL 69 RX7 yX7_wouldGet wsX7_wouldGet) := goodIn_app (goodIn_sub (in_r [550, 551, 552, 11] (by decide +kernel)) (by decide +kernel)) (goodIn_sub wsX7_wouldGet_in (by decide +kernel))
set_option maxRecDepth 20000 in
theorem goodTbl : lw_tbl.all goodWord = true := by decide +kernel
theorem goodT : GoodIn lw_tbl lw_tbl := goodIn_sub (fun _ h => h) goodTbl
def wq_part : List Cond := .code yL_part cL_part 2 (some .int) :: lw_tbl
theorem qG_Lpart : GoodIn lw_tbl (va_wsS RL 176 yL_part wq_part) := goodIn_app (goodIn_sub (in_r [478, 479, 10] (by decide +kernel)) (by decide +kernel)) (goodIn_sub (List.forall_mem_cons.mpr ⟨List.mem_of_getElem? (i := 480) (by decide +kernel), fun _ h => h⟩) (by unfold wq_part; rw [List.all_cons, goodTbl]; rfl))
def wq_drawn : List Cond := .code yL_drawn cL_drawn 2 (some .int) :: lw_tbl
theorem qG_Ldrawn : GoodIn lw_tbl (va_wsS RL 172 yL_drawn wq_drawn) := goodIn_app (goodIn_sub (in_r [482, 483, 10] (by decide +kernel)) (by decide +kernel)) (goodIn_sub (List.forall_mem_cons.mpr ⟨List.mem_of_getElem? (i := 484) (by decide +kernel), fun _ h => h⟩) (by unfold wq_drawn; rw [List.all_cons, goodTbl]; rfl))
def wq_seen : List Cond := .code yL_seen cL_seen 4 (some .long) :: lw_tbl
theorem qG_Lseen : GoodIn lw_tbl (va_wsS RL 72 yL_seen wq_seen) := goodIn_app (goodIn_sub (in_r [486, 487, 10] (by decide +kernel)) (by decide +kernel)) (goodIn_sub (List.forall_mem_cons.mpr ⟨List.mem_of_getElem? (i := 488) (by decide +kernel), fun _ h => h⟩) (by unfold wq_seen; rw [List.all_cons, goodTbl]; rfl))
def wq_refusesAny : List Cond := .code yL_refusesAny cL_refusesAny 4 (some .boolean) :: lw_tbl
theorem qG_LrefusesAny : GoodIn lw_tbl (va_wsS RL 76 yL_refusesAny wq_refusesAny) := goodIn_app (goodIn_sub (in_r [529, 530, 10] (by decide +kernel)) (by decide +kernel)) (goodIn_sub (List.forall_mem_cons.mpr ⟨List.mem_of_getElem? (i := 531) (by decide +kernel), fun _ h => h⟩) (by unfold wq_refusesAny; rw [List.all_cons, goodTbl]; rfl))
def wq_refused : List Cond := .code yL_refused cL_refused 4 (some .boolean) :: lw_tbl
theorem qG_Lrefused : GoodIn lw_tbl (va_wsS RL 112 yL_refused wq_refused) := goodIn_app (goodIn_sub (in_r [526, 527, 10] (by decide +kernel)) (by decide +kernel)) (goodIn_sub (List.forall_mem_cons.mpr ⟨List.mem_of_getElem? (i := 528) (by decide +kernel), fun _ h => h⟩) (by unfold wq_refused; rw [List.all_cons, goodTbl]; rfl))
def wq_types : List Cond := .code yL_types cL_types 6 (some .boolean) :: lw_tbl
theorem qG_Ltypes : GoodIn lw_tbl (va_wsS RL 101 yL_types wq_types) := goodIn_app (goodIn_sub (in_r [562, 563, 10] (by decide +kernel)) (by decide +kernel)) (goodIn_sub (List.forall_mem_cons.mpr ⟨List.mem_of_getElem? (i := 564) (by decide +kernel), fun _ h => h⟩) (by unfold wq_types; rw [List.all_cons, goodTbl]; rfl))
def wq_homes : List Cond := .code yL_homes cL_homes 3 (some .boolean) :: lw_tbl
theorem qG_Lhomes : GoodIn lw_tbl (va_wsS RL 165 yL_homes wq_homes) := goodIn_app (goodIn_sub (in_r [558, 559, 10] (by decide +kernel)) (by decide +kernel)) (goodIn_sub (List.forall_mem_cons.mpr ⟨List.mem_of_getElem? (i := 560) (by decide +kernel), fun _ h => h⟩) (by unfold wq_homes; rw [List.all_cons, goodTbl]; rfl))
def wq_faultOf : List Cond := .code yL_faultOf cL_faultOf 6 (some .int) :: lw_tbl
theorem qG_LfaultOf : GoodIn lw_tbl (va_wsS RL 116 yL_faultOf wq_faultOf) := goodIn_app (goodIn_sub (in_r [618, 619, 10] (by decide +kernel)) (by decide +kernel)) (goodIn_sub (List.forall_mem_cons.mpr ⟨List.mem_of_getElem? (i := 620) (by decide +kernel), fun _ h => h⟩) (by unfold wq_faultOf; rw [List.all_cons, goodTbl]; rfl))
def wq_texts : List Cond := .code yL_texts cL_texts 2 (some .boolean) :: lw_tbl
theorem qG_Ltexts : GoodIn lw_tbl (va_wsS RL 169 yL_texts wq_texts) := goodIn_app (goodIn_sub (in_r [615, 616, 10] (by decide +kernel)) (by decide +kernel)) (goodIn_sub (List.forall_mem_cons.mpr ⟨List.mem_of_getElem? (i := 617) (by decide +kernel), fun _ h => h⟩) (by unfold wq_texts; rw [List.all_cons, goodTbl]; rfl))
theorem qK_9 : Cond.constantLong RL 9 (7) ∈ lw_tbl := List.mem_of_getElem? (i := 489) (by decide +kernel)
theorem qK_11 : Cond.constantLong RL 11 (31) ∈ lw_tbl := List.mem_of_getElem? (i := 490) (by decide +kernel)
theorem qK_80 : Cond.constantLong RL 80 (255) ∈ lw_tbl := List.mem_of_getElem? (i := 565) (by decide +kernel)
theorem qK_99 : Cond.constantLong RL 99 (3475143028832416058) ∈ lw_tbl := List.mem_of_getElem? (i := 561) (by decide +kernel)
theorem qK_105 : Cond.constantLong RL 105 (3543260037637615660) ∈ lw_tbl := List.mem_of_getElem? (i := 574) (by decide +kernel)
theorem qK_107 : Cond.constantLong RL 107 (50) ∈ lw_tbl := List.mem_of_getElem? (i := 575) (by decide +kernel)
theorem qK_120 : Cond.constantLong RL 120 (3224122) ∈ lw_tbl := List.mem_of_getElem? (i := 621) (by decide +kernel)
theorem qK_122 : Cond.constantLong RL 122 (48) ∈ lw_tbl := List.mem_of_getElem? (i := 622) (by decide +kernel)
theorem qK_124 : Cond.constantLong RL 124 (12346) ∈ lw_tbl := List.mem_of_getElem? (i := 623) (by decide +kernel)
theorem qK_126 : Cond.constantLong RL 126 (53026591879474) ∈ lw_tbl := List.mem_of_getElem? (i := 624) (by decide +kernel)
theorem qK_128 : Cond.constantLong RL 128 (808794673) ∈ lw_tbl := List.mem_of_getElem? (i := 625) (by decide +kernel)
theorem qK_130 : Cond.constantLong RL 130 (3475144128359838508) ∈ lw_tbl := List.mem_of_getElem? (i := 626) (by decide +kernel)
theorem qK_132 : Cond.constantLong RL 132 (224079981622) ∈ lw_tbl := List.mem_of_getElem? (i := 627) (by decide +kernel)
theorem qK_134 : Cond.constantLong RL 134 (14685305675590711) ∈ lw_tbl := List.mem_of_getElem? (i := 628) (by decide +kernel)
theorem qK_136 : Cond.constantLong RL 136 (809120059) ∈ lw_tbl := List.mem_of_getElem? (i := 629) (by decide +kernel)
theorem qK_138 : Cond.constantLong RL 138 (120) ∈ lw_tbl := List.mem_of_getElem? (i := 630) (by decide +kernel)
theorem qK_140 : Cond.constantLong RL 140 (207134735163) ∈ lw_tbl := List.mem_of_getElem? (i := 631) (by decide +kernel)
theorem qK_142 : Cond.constantLong RL 142 (3544678364653302065) ∈ lw_tbl := List.mem_of_getElem? (i := 632) (by decide +kernel)
theorem qK_144 : Cond.constantLong RL 144 (809120032) ∈ lw_tbl := List.mem_of_getElem? (i := 633) (by decide +kernel)
theorem qK_146 : Cond.constantLong RL 146 (3619258216908271920) ∈ lw_tbl := List.mem_of_getElem? (i := 634) (by decide +kernel)
theorem qK_148 : Cond.constantLong RL 148 (809120044) ∈ lw_tbl := List.mem_of_getElem? (i := 635) (by decide +kernel)
theorem qK_150 : Cond.constantLong RL 150 (53026491214898) ∈ lw_tbl := List.mem_of_getElem? (i := 636) (by decide +kernel)
theorem qK_152 : Cond.constantLong RL 152 (207134731313) ∈ lw_tbl := List.mem_of_getElem? (i := 637) (by decide +kernel)
theorem qK_157 : Cond.constantLong RL 157 (207134731314) ∈ lw_tbl := List.mem_of_getElem? (i := 642) (by decide +kernel)
theorem qK_159 : Cond.constantLong RL 159 (211429698609) ∈ lw_tbl := List.mem_of_getElem? (i := 643) (by decide +kernel)
theorem qK_161 : Cond.constantLong RL 161 (3475144128327266362) ∈ lw_tbl := List.mem_of_getElem? (i := 644) (by decide +kernel)
theorem qK_163 : Cond.constantLong RL 163 (49) ∈ lw_tbl := List.mem_of_getElem? (i := 645) (by decide +kernel)
theorem qK_7 : Cond.constant RL 7 (2147483647) ∈ lw_tbl := List.mem_of_getElem? (i := 481) (by decide +kernel)
theorem qK_8 : Cond.constant RL 8 (2654435) ∈ lw_tbl := List.mem_of_getElem? (i := 485) (by decide +kernel)
theorem qC_RX7 : Cond.classLink RL 14 RX7 ∈ lw_tbl := List.mem_of_getElem? (i := 20) (by decide +kernel)
theorem qI0 : Cond.instantiable RX0 2 ∈ lw_tbl := List.mem_of_getElem? (i := 38) (by decide +kernel)
theorem qI1 : Cond.instantiable RX1 2 ∈ lw_tbl := List.mem_of_getElem? (i := 148) (by decide +kernel)
theorem qI2 : Cond.instantiable RX2 9 ∈ lw_tbl := List.mem_of_getElem? (i := 56) (by decide +kernel)
theorem qI3 : Cond.instantiable RX3 7 ∈ lw_tbl := List.mem_of_getElem? (i := 165) (by decide +kernel)
theorem qI4 : Cond.instantiable RX4 4 ∈ lw_tbl := List.mem_of_getElem? (i := 209) (by decide +kernel)
theorem qI5 : Cond.instantiable RX5 2 ∈ lw_tbl := List.mem_of_getElem? (i := 196) (by decide +kernel)
theorem qI6 : Cond.instantiable RX6 8 ∈ lw_tbl := List.mem_of_getElem? (i := 29) (by decide +kernel)
theorem qI7 : Cond.instantiable RX7 7 ∈ lw_tbl := List.mem_of_getElem? (i := 21) (by decide +kernel)
theorem qA_int : Cond.arrayClass .int ∈ lw_tbl := List.mem_of_getElem? (i := 55) (by decide +kernel)
theorem qA_char : Cond.arrayClass .char ∈ lw_tbl := List.mem_of_getElem? (i := 194) (by decide +kernel)
theorem qA_long : Cond.arrayClass .long ∈ lw_tbl := List.mem_of_getElem? (i := 646) (by decide +kernel)
theorem qO0 : Cond.arrayOver (.object RX0) ∈ lw_tbl := List.mem_of_getElem? (i := 35) (by decide +kernel)
theorem qO2 : Cond.arrayOver (.object RX2) ∈ lw_tbl := List.mem_of_getElem? (i := 37) (by decide +kernel)
theorem qO6 : Cond.arrayOver (.object RX6) ∈ lw_tbl := List.mem_of_getElem? (i := 154) (by decide +kernel)
theorem qN27 : Cond.methodLinkNest RX6 27 yX0_init "FlatLottery" ∈ lw_tbl := List.mem_of_getElem? (i := 39) (by decide +kernel)
theorem qN28 : Cond.methodLinkNest RX6 28 yX2_init "FlatLottery" ∈ lw_tbl := List.mem_of_getElem? (i := 57) (by decide +kernel)
theorem qN32 : Cond.methodLinkNest RX7 32 yX3_init "FlatLottery" ∈ lw_tbl := List.mem_of_getElem? (i := 166) (by decide +kernel)
theorem qN39 : Cond.methodLinkNest RX7 39 yX5_init "FlatLottery" ∈ lw_tbl := List.mem_of_getElem? (i := 197) (by decide +kernel)
theorem qN46 : Cond.methodLinkNest RX7 46 yX4_init "FlatLottery" ∈ lw_tbl := List.mem_of_getElem? (i := 210) (by decide +kernel)
theorem qT7 : Cond.initialized RX7 ∈ lw_tbl := List.mem_of_getElem? (i := 11) (by decide +kernel)
theorem qTL : Cond.initialized RL ∈ lw_tbl := List.mem_of_getElem? (i := 10) (by decide +kernel)
