/-! PRINTED BY wip/p28/tools/mk_q.py: the words of what the law calls stand in the tables -/
/-- the words of the tables that may go from a caller to what it calls -/
def lw_g : List Cond := lw_tbl.filter goodWord
theorem gd_sub {ws : List Cond} (hm : ∀ w ∈ ws, w ∈ lw_tbl) (h : ws.all goodWord = true) : GoodIn lw_g ws := fun w hw => ⟨List.mem_filter.mpr ⟨hm w hw, List.all_eq_true.mp h w hw⟩, good_of_word (List.all_eq_true.mp h w hw)⟩
theorem m_g {w : Cond} (i : Nat) (h : lw_tbl[i]? = some w) (hg : goodWord w = true) : w ∈ lw_g := List.mem_filter.mpr ⟨List.mem_of_getElem? h, hg⟩
theorem g_g : ∀ w ∈ lw_g, w ∈ lw_g ∧ ((w.onTables && w.keeps) = true ∨ ∃ ty, w = .arrayClass ty) := fun w h => ⟨h, good_of_word (List.mem_filter.mp h).2⟩
theorem gd_code {ws : List Cond} {w : Cond} (i : Nat) (h : lw_tbl[i]? = some w) (hg : goodWord w = true) (hw : ws = w :: lw_g) : GoodIn lw_g ws := by
  subst hw
  intro v hv
  rcases List.mem_cons.mp hv with rfl | hv
  · exact ⟨m_g i h hg, good_of_word hg⟩
  · exact g_g v hv
set_option maxRecDepth 20000 in
theorem wsX00_in : ∀ w ∈ wsX00, w ∈ lw_tbl := in_r [50, 52] (by decide +kernel)
set_option maxRecDepth 20000 in
theorem wsX10_in : ∀ w ∈ wsX10, w ∈ lw_tbl := in_r [159, 161] (by decide +kernel)
set_option maxRecDepth 20000 in
theorem wsX20_in : ∀ w ∈ wsX20, w ∈ lw_tbl := in_r [90, 92, 94, 96, 98, 100, 102, 104, 106] (by decide +kernel)
set_option maxRecDepth 20000 in
theorem wsX30_in : ∀ w ∈ wsX30, w ∈ lw_tbl := in_r [179, 181, 183, 185, 187, 189, 191] (by decide +kernel)
set_option maxRecDepth 20000 in
theorem wsX40_in : ∀ w ∈ wsX40, w ∈ lw_tbl := in_r [218, 220, 222, 224] (by decide +kernel)
set_option maxRecDepth 20000 in
theorem wsX50_in : ∀ w ∈ wsX50, w ∈ lw_tbl := in_r [203, 205] (by decide +kernel)
set_option maxRecDepth 20000 in
theorem wsX60_in : ∀ w ∈ wsX60, w ∈ lw_tbl := in_r [130, 132, 134, 136, 138, 140, 142, 144] (by decide +kernel)
set_option maxRecDepth 20000 in
theorem wsX70_in : ∀ w ∈ wsX70, w ∈ lw_tbl := in_r [234, 236, 238, 240, 242, 244, 246] (by decide +kernel)
set_option maxRecDepth 20000 in
theorem wsX7_addFlat_r1_in : ∀ w ∈ wsX7_addFlat_r1, w ∈ lw_tbl := in_r [227, 117, 230, 110, 44, 48, 253, 254, 11, 255, 256, 257, 258, 15, 259, 157, 156, 260, 262, 0, 263, 264, 265, 266] (by decide +kernel)
set_option maxRecDepth 20000 in
theorem wsX7_addFlat_r2_in : ∀ w ∈ wsX7_addFlat_r2, w ∈ lw_tbl := in_r [12, 267, 116, 109, 119, 111, 122, 124, 126, 268, 269, 270, 13, 271, 43, 47, 272, 273, 274, 14, 275, 61, 65, 70] (by decide +kernel)
set_option maxRecDepth 20000 in
theorem wsX7_addFlat_r3_in : ∀ w ∈ wsX7_addFlat_r3, w ∈ lw_tbl := in_r [73, 75, 78, 80, 84, 87] (by decide +kernel)
theorem wsX7_addFlat_in : ∀ w ∈ wsX7_addFlat, w ∈ lw_tbl := (List.forall_mem_cons.mpr ⟨List.mem_of_getElem? (i := 252) (by decide +kernel), (List.forall_mem_append.mpr ⟨(List.forall_mem_append.mpr ⟨(List.forall_mem_append.mpr ⟨(List.forall_mem_append.mpr ⟨(List.forall_mem_append.mpr ⟨(List.forall_mem_append.mpr ⟨wsX7_addFlat_r1_in, (List.forall_mem_append.mpr ⟨wsX7_addFlat_r2_in, wsX7_addFlat_r3_in⟩)⟩), wsX70_in⟩), wsX60_in⟩), wsX00_in⟩), wsX10_in⟩), wsX20_in⟩)⟩)
theorem qG_addFlat : GoodIn lw_g (wsV RL 33 RX7 yX7_addFlat wsX7_addFlat) := goodIn_app (gd_sub (in_r [249, 250, 251, 11] (by decide +kernel)) (by decide +kernel)) (gd_sub wsX7_addFlat_in (by decide +kernel))
set_option maxRecDepth 20000 in
theorem wsX7_addHousehold_r1_in : ∀ w ∈ wsX7_addHousehold_r1, w ∈ lw_tbl := in_r [227, 121, 230, 114, 253, 254, 11, 255, 256, 257, 258, 15, 259, 157, 156, 260, 262, 0, 263, 264, 265, 266, 12, 267] (by decide +kernel)
set_option maxRecDepth 20000 in
theorem wsX7_addHousehold_r2_in : ∀ w ∈ wsX7_addHousehold_r2, w ∈ lw_tbl := in_r [116, 109, 119, 111, 122, 124, 126, 268, 269, 270, 13, 271, 43, 47, 272, 273, 274, 14, 275, 61, 65, 70, 73, 75] (by decide +kernel)
set_option maxRecDepth 20000 in
theorem wsX7_addHousehold_r3_in : ∀ w ∈ wsX7_addHousehold_r3, w ∈ lw_tbl := in_r [78, 80, 84, 87, 280, 281, 282, 283] (by decide +kernel)
theorem wsX7_addHousehold_in : ∀ w ∈ wsX7_addHousehold, w ∈ lw_tbl := (List.forall_mem_cons.mpr ⟨List.mem_of_getElem? (i := 279) (by decide +kernel), (List.forall_mem_append.mpr ⟨(List.forall_mem_append.mpr ⟨(List.forall_mem_append.mpr ⟨(List.forall_mem_append.mpr ⟨(List.forall_mem_append.mpr ⟨(List.forall_mem_append.mpr ⟨wsX7_addHousehold_r1_in, (List.forall_mem_append.mpr ⟨wsX7_addHousehold_r2_in, wsX7_addHousehold_r3_in⟩)⟩), wsX70_in⟩), wsX60_in⟩), wsX10_in⟩), wsX00_in⟩), wsX20_in⟩)⟩)
theorem qG_addHousehold : GoodIn lw_g (wsV RL 38 RX7 yX7_addHousehold wsX7_addHousehold) := goodIn_app (gd_sub (in_r [276, 277, 278, 11] (by decide +kernel)) (by decide +kernel)) (gd_sub wsX7_addHousehold_in (by decide +kernel))
set_option maxRecDepth 20000 in
theorem wsX7_appeal_r1_in : ∀ w ∈ wsX7_appeal_r1, w ∈ lw_tbl := in_r [227, 114, 85, 230, 125, 79, 288, 289, 290, 12, 291, 119, 253, 254, 11, 255, 256, 257, 258, 15, 259, 157, 156, 260] (by decide +kernel)
set_option maxRecDepth 20000 in
theorem wsX7_appeal_r2_in : ∀ w ∈ wsX7_appeal_r2, w ∈ lw_tbl := in_r [262, 0, 263, 264, 265, 266, 267, 116, 109, 111, 122, 124, 126, 268, 269, 270, 13, 271, 43, 47, 272, 273, 274, 14] (by decide +kernel)
set_option maxRecDepth 20000 in
theorem wsX7_appeal_r3_in : ∀ w ∈ wsX7_appeal_r3, w ∈ lw_tbl := in_r [275, 61, 65, 70, 73, 75, 78, 80, 84, 87, 373, 374, 375, 376, 377, 378, 379, 380, 76, 81, 88, 381, 382, 383] (by decide +kernel)
set_option maxRecDepth 20000 in
theorem wsX7_appeal_r4_in : ∀ w ∈ wsX7_appeal_r4, w ∈ lw_tbl := in_r [384, 72, 46, 352, 297, 298, 299, 385, 386, 387, 388, 389, 390, 391, 392, 393, 394, 395, 396, 365, 301, 302, 303, 348] (by decide +kernel)
set_option maxRecDepth 20000 in
theorem wsX7_appeal_r5_in : ∀ w ∈ wsX7_appeal_r5, w ∈ lw_tbl := in_r [349, 350, 351, 353, 354, 355, 356, 45, 49, 340, 341, 342, 343] (by decide +kernel)
theorem wsX7_appeal_in : ∀ w ∈ wsX7_appeal, w ∈ lw_tbl := (List.forall_mem_cons.mpr ⟨List.mem_of_getElem? (i := 372) (by decide +kernel), (List.forall_mem_append.mpr ⟨(List.forall_mem_append.mpr ⟨(List.forall_mem_append.mpr ⟨(List.forall_mem_append.mpr ⟨(List.forall_mem_append.mpr ⟨(List.forall_mem_append.mpr ⟨wsX7_appeal_r1_in, (List.forall_mem_append.mpr ⟨wsX7_appeal_r2_in, (List.forall_mem_append.mpr ⟨wsX7_appeal_r3_in, (List.forall_mem_append.mpr ⟨wsX7_appeal_r4_in, wsX7_appeal_r5_in⟩)⟩)⟩)⟩), wsX70_in⟩), wsX60_in⟩), wsX20_in⟩), wsX10_in⟩), wsX00_in⟩)⟩)
theorem qG_appeal : GoodIn lw_g (wsV RL 57 RX7 yX7_appeal wsX7_appeal) := goodIn_app (gd_sub (in_r [369, 370, 371, 11] (by decide +kernel)) (by decide +kernel)) (gd_sub wsX7_appeal_in (by decide +kernel))
set_option maxRecDepth 20000 in
theorem wsX7_change_r1_in : ∀ w ∈ wsX7_change_r1, w ∈ lw_tbl := in_r [227, 114, 74, 71, 230, 288, 289, 290, 12, 291, 119, 253, 254, 11, 255, 256, 257, 258, 15, 259, 157, 156, 260, 262] (by decide +kernel)
set_option maxRecDepth 20000 in
theorem wsX7_change_r2_in : ∀ w ∈ wsX7_change_r2, w ∈ lw_tbl := in_r [0, 263, 264, 265, 266, 267, 116, 109, 111, 122, 124, 126, 268, 269, 270, 13, 271, 43, 47, 272, 273, 274, 14, 275] (by decide +kernel)
set_option maxRecDepth 20000 in
theorem wsX7_change_r3_in : ∀ w ∈ wsX7_change_r3, w ∈ lw_tbl := in_r [61, 65, 70, 73, 75, 78, 80, 84, 87] (by decide +kernel)
theorem wsX7_change_in : ∀ w ∈ wsX7_change, w ∈ lw_tbl := (List.forall_mem_cons.mpr ⟨List.mem_of_getElem? (i := 287) (by decide +kernel), (List.forall_mem_append.mpr ⟨(List.forall_mem_append.mpr ⟨(List.forall_mem_append.mpr ⟨(List.forall_mem_append.mpr ⟨(List.forall_mem_append.mpr ⟨(List.forall_mem_append.mpr ⟨wsX7_change_r1_in, (List.forall_mem_append.mpr ⟨wsX7_change_r2_in, wsX7_change_r3_in⟩)⟩), wsX70_in⟩), wsX60_in⟩), wsX20_in⟩), wsX10_in⟩), wsX00_in⟩)⟩)
theorem qG_change : GoodIn lw_g (wsV RL 41 RX7 yX7_change wsX7_change) := goodIn_app (gd_sub (in_r [284, 285, 286, 11] (by decide +kernel)) (by decide +kernel)) (gd_sub wsX7_change_in (by decide +kernel))
theorem wsX7_clearText_in : ∀ w ∈ wsX7_clearText, w ∈ lw_tbl := (List.forall_mem_cons.mpr ⟨List.mem_of_getElem? (i := 641) (by decide +kernel), (List.forall_mem_append.mpr ⟨(List.forall_mem_append.mpr ⟨(in_r [231, 172] (by decide +kernel)), wsX70_in⟩), wsX30_in⟩)⟩)
theorem qG_clearText : GoodIn lw_g (wsV RL 154 RX7 yX7_clearText wsX7_clearText) := goodIn_app (gd_sub (in_r [638, 639, 640, 11] (by decide +kernel)) (by decide +kernel)) (gd_sub wsX7_clearText_in (by decide +kernel))
set_option maxRecDepth 20000 in
theorem wsX7_count_r1_in : ∀ w ∈ wsX7_count_r1, w ∈ lw_tbl := in_r [227, 117, 121, 123, 232, 125, 127, 230, 158, 231, 172, 448, 449, 450, 12, 451, 119, 111, 81, 316, 317, 318, 319, 76] (by decide +kernel)
set_option maxRecDepth 20000 in
theorem wsX7_count_r2_in : ∀ w ∈ wsX7_count_r2, w ∈ lw_tbl := in_r [466, 467, 468, 469, 389, 390, 391, 392, 393, 394, 395, 14, 396, 80, 365, 301, 302, 303, 65, 61, 348, 349, 350, 351] (by decide +kernel)
set_option maxRecDepth 20000 in
theorem wsX7_count_r3_in : ∀ w ∈ wsX7_count_r3, w ∈ lw_tbl := in_r [109, 352, 297, 298, 299, 116, 353, 354, 355, 356, 70, 45, 49, 73, 340, 341, 342, 343, 75, 78, 401, 402, 403, 17] (by decide +kernel)
