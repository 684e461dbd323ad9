set_option maxRecDepth 20000 in
theorem wsX7_count_r4_in : ∀ w ∈ wsX7_count_r4, w ∈ lw_tbl := in_r [404, 118, 202, 201, 112, 405, 406, 407, 408, 69, 63, 409, 410, 411, 412, 470, 471, 472, 473, 417, 419, 1, 420, 421] (by decide +kernel)
set_option maxRecDepth 20000 in
theorem wsX7_count_r5_in : ∀ w ∈ wsX7_count_r5, w ∈ lw_tbl := in_r [423, 2, 424, 474, 475, 476, 477, 86] (by decide +kernel)
theorem wsX7_count_in : ∀ w ∈ wsX7_count, w ∈ lw_tbl := (List.forall_mem_cons.mpr ⟨List.mem_of_getElem? (i := 465) (by decide +kernel), (List.forall_mem_append.mpr ⟨(List.forall_mem_append.mpr ⟨(List.forall_mem_append.mpr ⟨(List.forall_mem_append.mpr ⟨(List.forall_mem_append.mpr ⟨(List.forall_mem_append.mpr ⟨(List.forall_mem_append.mpr ⟨(List.forall_mem_append.mpr ⟨wsX7_count_r1_in, (List.forall_mem_append.mpr ⟨wsX7_count_r2_in, (List.forall_mem_append.mpr ⟨wsX7_count_r3_in, (List.forall_mem_append.mpr ⟨wsX7_count_r4_in, wsX7_count_r5_in⟩)⟩)⟩)⟩), wsX70_in⟩), wsX60_in⟩), wsX10_in⟩), wsX30_in⟩), wsX20_in⟩), wsX00_in⟩), wsX50_in⟩)⟩)
theorem qG_count : GoodIn lw_g (wsV RL 13 RX7 yX7_count wsX7_count) := goodIn_app (gd_sub (in_r [462, 463, 464, 11] (by decide +kernel)) (by decide +kernel)) (gd_sub wsX7_count_in (by decide +kernel))
set_option maxRecDepth 20000 in
theorem wsX7_decline_r1_in : ∀ w ∈ wsX7_decline_r1, w ∈ lw_tbl := in_r [227, 114, 83, 230, 79, 366, 367, 19, 368, 127, 288, 289, 290, 12, 291, 119, 256, 257, 258, 15, 259, 157, 156, 260] (by decide +kernel)
set_option maxRecDepth 20000 in
theorem wsX7_decline_r2_in : ∀ w ∈ wsX7_decline_r2, w ∈ lw_tbl := in_r [262, 0, 263, 264, 265, 266, 267, 116, 109, 111, 122, 124, 126, 268, 269, 270, 13, 271, 43, 47, 272, 273, 274, 14] (by decide +kernel)
set_option maxRecDepth 20000 in
theorem wsX7_decline_r3_in : ∀ w ∈ wsX7_decline_r3, w ∈ lw_tbl := in_r [275, 61, 65, 70, 73, 75, 78, 80, 84, 87, 361, 362, 363, 364, 365, 301, 302, 303] (by decide +kernel)
theorem wsX7_decline_in : ∀ w ∈ wsX7_decline, w ∈ lw_tbl := (List.forall_mem_cons.mpr ⟨List.mem_of_getElem? (i := 360) (by decide +kernel), (List.forall_mem_append.mpr ⟨(List.forall_mem_append.mpr ⟨(List.forall_mem_append.mpr ⟨(List.forall_mem_append.mpr ⟨(List.forall_mem_append.mpr ⟨(List.forall_mem_append.mpr ⟨wsX7_decline_r1_in, (List.forall_mem_append.mpr ⟨wsX7_decline_r2_in, wsX7_decline_r3_in⟩)⟩), wsX70_in⟩), wsX60_in⟩), wsX20_in⟩), wsX10_in⟩), wsX00_in⟩)⟩)
theorem qG_decline : GoodIn lw_g (wsV RL 54 RX7 yX7_decline wsX7_decline) := goodIn_app (gd_sub (in_r [357, 358, 359, 11] (by decide +kernel)) (by decide +kernel)) (gd_sub wsX7_decline_in (by decide +kernel))
set_option maxRecDepth 20000 in
theorem wsX7_draw_r1_in : ∀ w ∈ wsX7_draw_r1, w ∈ lw_tbl := in_r [227, 230, 114, 77, 288, 289, 290, 12, 291, 119, 253, 254, 11, 255, 312, 313, 314, 315, 111, 76, 256, 257, 258, 15] (by decide +kernel)
set_option maxRecDepth 20000 in
theorem wsX7_draw_r2_in : ∀ w ∈ wsX7_draw_r2, w ∈ lw_tbl := in_r [259, 157, 156, 260, 262, 0, 263, 264, 265, 266, 267, 116, 109, 122, 124, 126, 268, 269, 270, 13, 271, 43, 47, 272] (by decide +kernel)
set_option maxRecDepth 20000 in
theorem wsX7_draw_r3_in : ∀ w ∈ wsX7_draw_r3, w ∈ lw_tbl := in_r [273, 274, 14, 275, 61, 65, 70, 73, 75, 78, 80, 84, 87, 316, 317, 318, 319] (by decide +kernel)
theorem wsX7_draw_in : ∀ w ∈ wsX7_draw, w ∈ lw_tbl := (List.forall_mem_cons.mpr ⟨List.mem_of_getElem? (i := 311) (by decide +kernel), (List.forall_mem_append.mpr ⟨(List.forall_mem_append.mpr ⟨(List.forall_mem_append.mpr ⟨(List.forall_mem_append.mpr ⟨(List.forall_mem_append.mpr ⟨(List.forall_mem_append.mpr ⟨wsX7_draw_r1_in, (List.forall_mem_append.mpr ⟨wsX7_draw_r2_in, wsX7_draw_r3_in⟩)⟩), wsX70_in⟩), wsX60_in⟩), wsX20_in⟩), wsX10_in⟩), wsX00_in⟩)⟩)
theorem qG_draw : GoodIn lw_g (wsV RL 51 RX7 yX7_draw wsX7_draw) := goodIn_app (gd_sub (in_r [308, 309, 310, 11] (by decide +kernel)) (by decide +kernel)) (gd_sub wsX7_draw_in (by decide +kernel))
set_option maxRecDepth 20000 in
theorem wsX7_envies_r1_in : ∀ w ∈ wsX7_envies_r1, w ∈ lw_tbl := in_r [227, 114, 288, 289, 290, 12, 291, 119, 549, 390, 391, 392, 81, 393, 394, 395, 14, 396, 80, 365, 301, 302, 303, 65] (by decide +kernel)
set_option maxRecDepth 20000 in
theorem wsX7_envies_r2_in : ∀ w ∈ wsX7_envies_r2, w ∈ lw_tbl := in_r [61, 348, 349, 350, 351, 109, 352, 297, 298, 299, 116, 353, 354, 355, 356, 70, 45, 49, 73, 340, 341, 342, 343, 75] (by decide +kernel)
set_option maxRecDepth 20000 in
theorem wsX7_envies_r3_in : ∀ w ∈ wsX7_envies_r3, w ∈ lw_tbl := in_r [78] (by decide +kernel)
theorem wsX7_envies_in : ∀ w ∈ wsX7_envies, w ∈ lw_tbl := (List.forall_mem_cons.mpr ⟨List.mem_of_getElem? (i := 548) (by decide +kernel), (List.forall_mem_append.mpr ⟨(List.forall_mem_append.mpr ⟨(List.forall_mem_append.mpr ⟨(List.forall_mem_append.mpr ⟨(List.forall_mem_append.mpr ⟨wsX7_envies_r1_in, (List.forall_mem_append.mpr ⟨wsX7_envies_r2_in, wsX7_envies_r3_in⟩)⟩), wsX70_in⟩), wsX60_in⟩), wsX20_in⟩), wsX00_in⟩)⟩)
theorem qG_envies : GoodIn lw_g (wsV RL 66 RX7 yX7_envies wsX7_envies) := goodIn_app (gd_sub (in_r [545, 546, 547, 11] (by decide +kernel)) (by decide +kernel)) (gd_sub wsX7_envies_in (by decide +kernel))
set_option maxRecDepth 20000 in
theorem wsX7_flat_r1_in : ∀ w ∈ wsX7_flat_r1, w ∈ lw_tbl := in_r [227, 110, 44, 48, 296, 297, 298, 12, 299, 116, 495, 410, 411, 412, 119, 111, 81, 496, 497, 498, 499, 500, 301, 302] (by decide +kernel)
set_option maxRecDepth 20000 in
theorem wsX7_flat_r2_in : ∀ w ∈ wsX7_flat_r2, w ∈ lw_tbl := in_r [14, 303, 65, 61, 501, 502, 503, 504, 348, 349, 350, 351, 109, 352, 353, 354, 355, 356, 70, 45, 49, 73] (by decide +kernel)
theorem wsX7_flat_in : ∀ w ∈ wsX7_flat, w ∈ lw_tbl := (List.forall_mem_cons.mpr ⟨List.mem_of_getElem? (i := 494) (by decide +kernel), (List.forall_mem_append.mpr ⟨(List.forall_mem_append.mpr ⟨(List.forall_mem_append.mpr ⟨(List.forall_mem_append.mpr ⟨(List.forall_mem_append.mpr ⟨wsX7_flat_r1_in, wsX7_flat_r2_in⟩), wsX70_in⟩), wsX60_in⟩), wsX00_in⟩), wsX20_in⟩)⟩)
theorem qG_flat : GoodIn lw_g (wsV RL 19 RX7 yX7_flat wsX7_flat) := goodIn_app (gd_sub (in_r [491, 492, 493, 11] (by decide +kernel)) (by decide +kernel)) (gd_sub wsX7_flat_in (by decide +kernel))
set_option maxRecDepth 20000 in
theorem wsX7_household_r1_in : ∀ w ∈ wsX7_household_r1, w ∈ lw_tbl := in_r [227, 114, 71, 74, 77, 79, 83, 67, 85, 89, 288, 289, 290, 12, 291, 119, 460, 337, 338, 339, 76, 111, 340, 341] (by decide +kernel)
set_option maxRecDepth 20000 in
theorem wsX7_household_r2_in : ∀ w ∈ wsX7_household_r2, w ∈ lw_tbl := in_r [342, 14, 343, 75, 78, 461, 406, 407, 408, 81, 69, 63, 393, 394, 395, 396, 80, 365, 301, 302, 303, 65, 61, 409] (by decide +kernel)
set_option maxRecDepth 20000 in
theorem wsX7_household_r3_in : ∀ w ∈ wsX7_household_r3, w ∈ lw_tbl := in_r [410, 411, 412, 348, 349, 350, 351, 109, 352, 297, 298, 299, 116, 353, 354, 355, 356, 70, 45, 49, 73] (by decide +kernel)
theorem wsX7_household_in : ∀ w ∈ wsX7_household, w ∈ lw_tbl := (List.forall_mem_cons.mpr ⟨List.mem_of_getElem? (i := 459) (by decide +kernel), (List.forall_mem_append.mpr ⟨(List.forall_mem_append.mpr ⟨(List.forall_mem_append.mpr ⟨(List.forall_mem_append.mpr ⟨(List.forall_mem_append.mpr ⟨wsX7_household_r1_in, (List.forall_mem_append.mpr ⟨wsX7_household_r2_in, wsX7_household_r3_in⟩)⟩), wsX70_in⟩), wsX60_in⟩), wsX20_in⟩), wsX00_in⟩)⟩)
theorem qG_household : GoodIn lw_g (wsV RL 23 RX7 yX7_household wsX7_household) := goodIn_app (gd_sub (in_r [456, 457, 458, 11] (by decide +kernel)) (by decide +kernel)) (gd_sub wsX7_household_in (by decide +kernel))
set_option maxRecDepth 20000 in
theorem wsX7_init_r1_in : ∀ w ∈ wsX7_init_r1, w ∈ lw_tbl := in_r [25, 26, 27, 28, 29, 12, 227, 228, 229, 147, 148, 15, 230, 164, 165, 16, 231, 195, 196, 17, 232, 208, 209, 18] (by decide +kernel)
set_option maxRecDepth 20000 in
theorem wsX7_init_r2_in : ∀ w ∈ wsX7_init_r2, w ∈ lw_tbl := in_r [233, 30, 31, 32, 33, 34, 109, 36, 111, 55, 128, 38, 13, 56, 14, 40, 41, 42, 58, 59, 60, 61, 149, 150] (by decide +kernel)
set_option maxRecDepth 20000 in
theorem wsX7_init_r3_in : ∀ w ∈ wsX7_init_r3, w ∈ lw_tbl := in_r [151, 152, 153, 156, 155, 167, 168, 169, 194, 170, 175, 176, 177, 198, 199, 200, 201, 211, 212, 213, 214, 215, 216, 217] (by decide +kernel)
theorem wsX7_init_in : ∀ w ∈ wsX7_init, w ∈ lw_tbl := (List.forall_mem_cons.mpr ⟨List.mem_of_getElem? (i := 24) (by decide +kernel), (List.forall_mem_append.mpr ⟨(List.forall_mem_append.mpr ⟨(List.forall_mem_append.mpr ⟨(List.forall_mem_append.mpr ⟨(List.forall_mem_append.mpr ⟨(List.forall_mem_append.mpr ⟨(List.forall_mem_append.mpr ⟨(List.forall_mem_append.mpr ⟨(List.forall_mem_append.mpr ⟨wsX7_init_r1_in, (List.forall_mem_append.mpr ⟨wsX7_init_r2_in, wsX7_init_r3_in⟩)⟩), wsX60_in⟩), wsX70_in⟩), wsX10_in⟩), wsX30_in⟩), wsX50_in⟩), wsX40_in⟩), wsX00_in⟩), wsX20_in⟩)⟩)
theorem qG_init : GoodIn lw_g wsX7_init := gd_sub wsX7_init_in (by decide +kernel)
theorem qL_init : Cond.methodLink RL 86 yX7_init ∈ lw_g := m_g 22 (by decide +kernel) (by decide +kernel)
theorem qI_init : Cond.instanceMethod yX7_init ∈ lw_g := m_g 23 (by decide +kernel) (by decide +kernel)
set_option maxRecDepth 20000 in
theorem wsX7_keep_r1_in : ∀ w ∈ wsX7_keep_r1, w ∈ lw_tbl := in_r [228, 227, 229, 447, 265, 266, 12, 267, 116, 109, 119, 111, 122, 124, 126, 268, 269, 270, 13, 271, 43, 47, 272, 273] (by decide +kernel)
set_option maxRecDepth 20000 in
theorem wsX7_keep_r2_in : ∀ w ∈ wsX7_keep_r2, w ∈ lw_tbl := in_r [274, 14, 275, 61, 65, 70, 73, 75, 78, 80, 84, 87, 448, 449, 450, 451, 81] (by decide +kernel)
theorem wsX7_keep_in : ∀ w ∈ wsX7_keep, w ∈ lw_tbl := (List.forall_mem_cons.mpr ⟨List.mem_of_getElem? (i := 446) (by decide +kernel), (List.forall_mem_append.mpr ⟨(List.forall_mem_append.mpr ⟨(List.forall_mem_append.mpr ⟨(List.forall_mem_append.mpr ⟨(List.forall_mem_append.mpr ⟨wsX7_keep_r1_in, wsX7_keep_r2_in⟩), wsX70_in⟩), wsX60_in⟩), wsX00_in⟩), wsX20_in⟩)⟩)
theorem qG_keep : GoodIn lw_g (wsV RL 179 RX7 yX7_keep wsX7_keep) := goodIn_app (gd_sub (in_r [443, 444, 445, 11] (by decide +kernel)) (by decide +kernel)) (gd_sub wsX7_keep_in (by decide +kernel))
