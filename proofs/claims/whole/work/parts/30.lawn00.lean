set_option maxRecDepth 20000 in
theorem ggL_law_X7_init : GoodIn wsL_law wsX7_init := goodIn_r _ [8, 9, 10, 11, 12, 13, 14, 15, 16, 17, 18, 19, 20, 21, 22, 23, 24, 25, 26, 27, 28, 29, 30, 31, 32, 33, 34, 35, 36, 37, 38, 39, 40, 41, 42, 43, 44, 45, 46, 47, 48, 49, 50, 51, 52, 53, 54, 55, 56, 57, 58, 59, 60, 61, 62, 63, 64, 65, 66, 67, 68, 69, 70, 71, 72, 73, 74, 75, 76, 77, 78, 79, 80, 790, 791, 792, 793, 794, 795, 796, 797, 770, 771, 772, 773, 774, 775, 776, 798, 799, 800, 801, 802, 803, 804, 805, 806, 807, 808, 809, 810, 811, 812, 813, 814, 815, 816, 817, 818, 819, 820, 821, 822, 823] (by decide +kernel) (by decide +kernel)
set_option maxRecDepth 20000 in
theorem gL_law_X7_init : GoodIn wsL_law (wsX7_init) := ggL_law_X7_init
set_option maxRecDepth 20000 in
theorem ggL_law_X8_init : GoodIn wsL_law wsX8_init := goodIn_r _ [83, 84, 10, 11, 42, 85, 86, 87, 65, 88, 89, 90, 91, 92, 93, 94, 777, 778, 779, 780, 781, 782, 783, 784, 785, 786, 787, 788, 789] (by decide +kernel) (by decide +kernel)
set_option maxRecDepth 20000 in
theorem gL_law_X8_init : GoodIn wsL_law (wsX8_init) := ggL_law_X8_init
set_option maxRecDepth 20000 in
theorem ggL_law_X7_addFlat : GoodIn wsL_law wsX7_addFlat := goodIn_r _ [98, 15, 99, 21, 100, 101, 102, 103, 104, 2, 105, 106, 107, 108, 20, 109, 110, 60, 111, 112, 113, 114, 115, 116, 117, 14, 118, 119, 39, 120, 41, 121, 122, 123, 124, 125, 126, 45, 127, 128, 129, 130, 131, 132, 47, 133, 54, 134, 135, 136, 137, 138, 139, 140, 141, 770, 771, 772, 773, 774, 775, 776, 790, 791, 792, 793, 794, 795, 796, 797, 813, 814, 798, 799, 815, 816, 817, 818, 819, 820, 821, 822, 823] (by decide +kernel) (by decide +kernel)
set_option maxRecDepth 20000 in
theorem gL_law_X7_addFlat : GoodIn wsL_law (wsV RL 13 RX7 yX7_addFlat wsX7_addFlat) := goodIn_app (goodIn_of _ (by decide +kernel)) ggL_law_X7_addFlat
set_option maxRecDepth 20000 in
theorem ggL_law_X8_addFlat : GoodIn wsL_law wsX8_addFlat := goodIn_r _ [145, 85, 146, 147, 5, 148, 149, 150, 151, 152, 94, 86, 153, 154, 155, 777, 778, 779, 780, 781, 782, 783, 784, 785, 786, 787, 788, 789] (by decide +kernel) (by decide +kernel)
set_option maxRecDepth 20000 in
theorem gL_law_X8_addFlat : GoodIn wsL_law (wsV RL 17 RX8 yX8_addFlat wsX8_addFlat) := goodIn_app (goodIn_of _ (by decide +kernel)) ggL_law_X8_addFlat
set_option maxRecDepth 20000 in
theorem ggL_law_X7_addHousehold : GoodIn wsL_law wsX7_addHousehold := goodIn_r _ [159, 15, 160, 21, 161, 103, 104, 2, 105, 106, 107, 108, 20, 109, 110, 60, 111, 112, 113, 114, 115, 116, 117, 14, 118, 119, 39, 120, 41, 121, 122, 123, 124, 125, 126, 45, 127, 128, 129, 130, 131, 132, 47, 133, 54, 134, 135, 136, 137, 138, 139, 140, 141, 162, 163, 164, 165, 770, 771, 772, 773, 774, 775, 776, 790, 791, 792, 793, 794, 795, 796, 797, 798, 799, 813, 814, 815, 816, 817, 818, 819, 820, 821, 822, 823] (by decide +kernel) (by decide +kernel)
set_option maxRecDepth 20000 in
theorem gL_law_X7_addHousehold : GoodIn wsL_law (wsV RL 18 RX7 yX7_addHousehold wsX7_addHousehold) := goodIn_app (goodIn_of _ (by decide +kernel)) ggL_law_X7_addHousehold
set_option maxRecDepth 20000 in
theorem ggL_law_X8_addHousehold : GoodIn wsL_law wsX8_addHousehold := goodIn_r _ [169, 85, 170, 171, 5, 172, 146, 147, 148, 149, 150, 151, 152, 94, 86, 153, 154, 155, 173, 174, 175, 176, 777, 778, 779, 780, 781, 782, 783, 784, 785, 786, 787, 788, 789] (by decide +kernel) (by decide +kernel)
set_option maxRecDepth 20000 in
theorem gL_law_X8_addHousehold : GoodIn wsL_law (wsV RL 21 RX8 yX8_addHousehold wsX8_addHousehold) := goodIn_app (goodIn_of _ (by decide +kernel)) ggL_law_X8_addHousehold
set_option maxRecDepth 20000 in
theorem ggL_law_X7_change : GoodIn wsL_law wsX7_change := goodIn_r _ [180, 15, 161, 181, 182, 21, 183, 184, 185, 14, 186, 120, 103, 104, 2, 105, 106, 107, 108, 20, 109, 110, 60, 111, 112, 113, 114, 115, 116, 117, 118, 119, 39, 41, 121, 122, 123, 124, 125, 126, 45, 127, 128, 129, 130, 131, 132, 47, 133, 54, 134, 135, 136, 137, 138, 139, 140, 141, 770, 771, 772, 773, 774, 775, 776, 790, 791, 792, 793, 794, 795, 796, 797, 815, 816, 817, 818, 819, 820, 821, 822, 823, 798, 799, 813, 814] (by decide +kernel) (by decide +kernel)
set_option maxRecDepth 20000 in
theorem gL_law_X7_change : GoodIn wsL_law (wsV RL 22 RX7 yX7_change wsX7_change) := goodIn_app (goodIn_of _ (by decide +kernel)) ggL_law_X7_change
set_option maxRecDepth 20000 in
theorem ggL_law_X8_change : GoodIn wsL_law wsX8_change := goodIn_r _ [190, 191, 192, 193, 5, 194, 85, 146, 147, 148, 170, 171, 172, 195, 196, 197, 198, 149, 150, 151, 152, 94, 86, 153, 154, 155, 173, 174, 175, 176, 777, 778, 779, 780, 781, 782, 783, 784, 785, 786, 787, 788, 789] (by decide +kernel) (by decide +kernel)
set_option maxRecDepth 20000 in
theorem gL_law_X8_change : GoodIn wsL_law (wsV RL 26 RX8 yX8_change wsX8_change) := goodIn_app (goodIn_of _ (by decide +kernel)) ggL_law_X8_change
set_option maxRecDepth 20000 in
theorem ggL_law_X7_wish : GoodIn wsL_law wsX7_wish := goodIn_r _ [202, 15, 161, 203, 21, 183, 184, 185, 14, 186, 120, 204, 205, 206, 207, 119, 208, 209, 210, 47, 211, 134, 54, 106, 107, 108, 20, 109, 110, 60, 111, 112, 113, 114, 115, 116, 117, 118, 39, 41, 121, 122, 123, 124, 125, 126, 45, 127, 128, 129, 130, 131, 132, 133, 135, 136, 137, 138, 139, 140, 141, 212, 213, 214, 215, 770, 771, 772, 773, 774, 775, 776, 790, 791, 792, 793, 794, 795, 796, 797, 815, 816, 817, 818, 819, 820, 821, 822, 823, 798, 799, 813, 814] (by decide +kernel) (by decide +kernel)
set_option maxRecDepth 20000 in
theorem gL_law_X7_wish : GoodIn wsL_law (wsV RL 27 RX7 yX7_wish wsX7_wish) := goodIn_app (goodIn_of _ (by decide +kernel)) ggL_law_X7_wish
set_option maxRecDepth 20000 in
theorem ggL_law_X8_wish : GoodIn wsL_law wsX8_wish := goodIn_r _ [219, 191, 192, 193, 5, 194, 85, 146, 147, 148, 220, 221, 222, 223, 195, 196, 197, 198, 224, 225, 226, 227, 149, 150, 151, 152, 94, 86, 153, 154, 155, 173, 174, 175, 176, 777, 778, 779, 780, 781, 782, 783, 784, 785, 786, 787, 788, 789] (by decide +kernel) (by decide +kernel)
set_option maxRecDepth 20000 in
theorem gL_law_X8_wish : GoodIn wsL_law (wsV RL 30 RX8 yX8_wish wsX8_wish) := goodIn_app (goodIn_of _ (by decide +kernel)) ggL_law_X8_wish
set_option maxRecDepth 20000 in
theorem ggL_law_X7_unwish : GoodIn wsL_law wsX7_unwish := goodIn_r _ [231, 15, 161, 21, 183, 184, 185, 14, 186, 120, 204, 205, 206, 207, 119, 208, 209, 210, 47, 211, 134, 54, 106, 107, 108, 20, 109, 110, 60, 111, 112, 113, 114, 115, 116, 117, 118, 39, 41, 121, 122, 123, 124, 125, 126, 45, 127, 128, 129, 130, 131, 132, 133, 135, 136, 137, 138, 139, 140, 141, 232, 233, 234, 235, 236, 770, 771, 772, 773, 774, 775, 776, 790, 791, 792, 793, 794, 795, 796, 797, 815, 816, 817, 818, 819, 820, 821, 822, 823, 798, 799, 813, 814] (by decide +kernel) (by decide +kernel)
set_option maxRecDepth 20000 in
theorem gL_law_X7_unwish : GoodIn wsL_law (wsV RL 31 RX7 yX7_unwish wsX7_unwish) := goodIn_app (goodIn_of _ (by decide +kernel)) ggL_law_X7_unwish
set_option maxRecDepth 20000 in
theorem ggL_law_X8_unwish : GoodIn wsL_law wsX8_unwish := goodIn_r _ [240, 191, 192, 193, 5, 194, 85, 146, 147, 148, 220, 221, 222, 223, 224, 225, 226, 227, 195, 196, 197, 198, 149, 150, 151, 152, 94, 86, 153, 154, 155, 241, 242, 243, 244, 173, 174, 175, 176, 777, 778, 779, 780, 781, 782, 783, 784, 785, 786, 787, 788, 789] (by decide +kernel) (by decide +kernel)
set_option maxRecDepth 20000 in
theorem gL_law_X8_unwish : GoodIn wsL_law (wsV RL 34 RX8 yX8_unwish wsX8_unwish) := goodIn_app (goodIn_of _ (by decide +kernel)) ggL_law_X8_unwish
set_option maxRecDepth 20000 in
theorem ggL_law_X7_readLists : GoodIn wsL_law wsX7_readLists := goodIn_r _ [248, 25, 15, 21, 249, 250, 251, 252, 24, 253, 254, 255, 256, 257, 258, 259, 67, 69, 68, 260, 261, 262, 263, 264, 265, 266, 267, 268, 269, 270, 271, 272, 66, 273, 274, 275, 276, 277, 184, 185, 14, 186, 120, 278, 205, 206, 207, 119, 279, 280, 281, 282, 106, 107, 108, 20, 109, 110, 60, 111, 112, 113, 114, 115, 116, 117, 118, 39, 41, 121, 122, 123, 124, 125, 126, 45, 127, 128, 129, 130, 131, 132, 47, 133, 54, 134, 135, 136, 137, 138, 139, 140, 141, 283, 284, 285, 286, 287, 288, 289, 213, 214, 215, 770, 771, 772, 773, 774, 775, 776, 800, 801, 802, 803, 804, 805, 806, 790, 791, 792, 793, 794, 795, 796, 797, 798, 799, 813, 814, 815, 816, 817, 818, 819, 820, 821, 822, 823] (by decide +kernel) (by decide +kernel)
set_option maxRecDepth 20000 in
theorem gL_law_X7_readLists : GoodIn wsL_law (wsV RL 35 RX7 yX7_readLists wsX7_readLists) := goodIn_app (goodIn_of _ (by decide +kernel)) ggL_law_X7_readLists
set_option maxRecDepth 20000 in
theorem ggL_law_X8_readLists : GoodIn wsL_law wsX8_readLists := goodIn_r _ [293, 294, 295, 91, 296, 297, 298, 5, 299, 300, 301, 302, 303, 304, 305, 306, 307, 308, 88, 309, 310, 311, 312, 146, 147, 148, 313, 314, 315, 316, 317, 318, 319, 320, 191, 192, 193, 194, 85, 220, 221, 222, 223, 321, 322, 323, 324, 149, 150, 151, 152, 94, 86, 153, 154, 155, 173, 174, 175, 176, 777, 778, 779, 780, 781, 782, 783, 784, 785, 786, 787, 788, 789] (by decide +kernel) (by decide +kernel)
set_option maxRecDepth 20000 in
theorem gL_law_X8_readLists : GoodIn wsL_law (wsV RL 39 RX8 yX8_readLists wsX8_readLists) := goodIn_app (goodIn_of _ (by decide +kernel)) ggL_law_X8_readLists
set_option maxRecDepth 20000 in
theorem ggL_law_X7_draw : GoodIn wsL_law wsX7_draw := goodIn_r _ [328, 15, 21, 161, 329, 183, 184, 185, 14, 186, 120, 103, 104, 2, 105, 330, 331, 332, 333, 41, 334, 106, 107, 108, 20, 109, 110, 60, 111, 112, 113, 114, 115, 116, 117, 118, 119, 39, 121, 122, 123, 124, 125, 126, 45, 127, 128, 129, 130, 131, 132, 47, 133, 54, 134, 135, 136, 137, 138, 139, 140, 141, 335, 336, 337, 338, 770, 771, 772, 773, 774, 775, 776, 790, 791, 792, 793, 794, 795, 796, 797, 815, 816, 817, 818, 819, 820, 821, 822, 823, 798, 799, 813, 814] (by decide +kernel) (by decide +kernel)
set_option maxRecDepth 20000 in
theorem gL_law_X7_draw : GoodIn wsL_law (wsV RL 40 RX7 yX7_draw wsX7_draw) := goodIn_app (goodIn_of _ (by decide +kernel)) ggL_law_X7_draw
set_option maxRecDepth 20000 in
theorem ggL_law_X8_draw : GoodIn wsL_law wsX8_draw := goodIn_r _ [342, 85, 191, 192, 193, 5, 194, 146, 147, 148, 195, 196, 197, 198, 149, 150, 151, 152, 94, 86, 153, 154, 155, 173, 174, 175, 176, 343, 344, 345, 346, 347, 348, 349, 350, 777, 778, 779, 780, 781, 782, 783, 784, 785, 786, 787, 788, 789] (by decide +kernel) (by decide +kernel)
set_option maxRecDepth 20000 in
theorem gL_law_X8_draw : GoodIn wsL_law (wsV RL 43 RX8 yX8_draw wsX8_draw) := goodIn_app (goodIn_of _ (by decide +kernel)) ggL_law_X8_draw
set_option maxRecDepth 20000 in
theorem ggL_law_X7_round : GoodIn wsL_law wsX7_round := goodIn_r _ [354, 15, 21, 355, 335, 336, 337, 14, 338, 120, 41, 334, 106, 107, 108, 20, 109, 110, 60, 111, 112, 113, 114, 115, 116, 117, 118, 119, 39, 121, 122, 123, 124, 125, 126, 45, 127, 128, 129, 130, 131, 132, 47, 133, 54, 134, 135, 136, 137, 138, 139, 140, 141, 356, 357, 358, 359, 43, 360, 361, 362, 363, 364, 365, 366, 367, 368, 369, 370, 371, 372, 373, 374, 375, 376, 377, 378, 379, 380, 381, 382, 383, 384, 385, 386, 387, 388, 205, 206, 207, 389, 390, 391, 392, 393, 394, 770, 771, 772, 773, 774, 775, 776, 790, 791, 792, 793, 794, 795, 796, 797, 815, 816, 817, 818, 819, 820, 821, 822, 823, 798, 799, 813, 814] (by decide +kernel) (by decide +kernel)
set_option maxRecDepth 20000 in
theorem gL_law_X7_round : GoodIn wsL_law (wsV RL 44 RX7 yX7_round wsX7_round) := goodIn_app (goodIn_of _ (by decide +kernel)) ggL_law_X7_round
set_option maxRecDepth 20000 in
theorem ggL_law_X8_round : GoodIn wsL_law wsX8_round := goodIn_r _ [398, 85, 343, 344, 345, 5, 346, 347, 348, 349, 350, 195, 196, 197, 198, 149, 150, 151, 152, 94, 86, 153, 154, 155, 399, 400, 401, 402, 403, 404, 405, 406, 407, 408, 409, 410, 411, 412, 413, 414, 415, 416, 417, 418, 419, 420, 421, 422, 423, 424, 425, 426, 427, 428, 429, 430, 173, 174, 175, 176, 777, 778, 779, 780, 781, 782, 783, 784, 785, 786, 787, 788, 789] (by decide +kernel) (by decide +kernel)
set_option maxRecDepth 20000 in
theorem gL_law_X8_round : GoodIn wsL_law (wsV RL 47 RX8 yX8_round wsX8_round) := goodIn_app (goodIn_of _ (by decide +kernel)) ggL_law_X8_round
set_option maxRecDepth 20000 in
theorem ggL_law_X7_decline : GoodIn wsL_law wsX7_decline := goodIn_r _ [434, 15, 161, 435, 21, 436, 437, 438, 439, 440, 441, 183, 184, 185, 14, 186, 120, 106, 107, 108, 20, 109, 110, 60, 111, 112, 113, 114, 115, 116, 117, 118, 119, 39, 41, 121, 122, 123, 124, 125, 126, 45, 127, 128, 129, 130, 131, 132, 47, 133, 54, 134, 135, 136, 137, 138, 139, 140, 141, 232, 233, 234, 235, 236, 209, 210, 211, 770, 771, 772, 773, 774, 775, 776, 790, 791, 792, 793, 794, 795, 796, 797, 815, 816, 817, 818, 819, 820, 821, 822, 823, 798, 799, 813, 814] (by decide +kernel) (by decide +kernel)
set_option maxRecDepth 20000 in
theorem gL_law_X7_decline : GoodIn wsL_law (wsV RL 48 RX7 yX7_decline wsX7_decline) := goodIn_app (goodIn_of _ (by decide +kernel)) ggL_law_X7_decline
set_option maxRecDepth 20000 in
theorem ggL_law_X8_decline : GoodIn wsL_law wsX8_decline := goodIn_r _ [445, 85, 191, 192, 193, 5, 194, 146, 147, 148, 195, 196, 197, 198, 149, 150, 151, 152, 94, 86, 153, 154, 155, 173, 174, 175, 176, 224, 225, 226, 227, 241, 242, 243, 244, 777, 778, 779, 780, 781, 782, 783, 784, 785, 786, 787, 788, 789] (by decide +kernel) (by decide +kernel)
set_option maxRecDepth 20000 in
theorem gL_law_X8_decline : GoodIn wsL_law (wsV RL 52 RX8 yX8_decline wsX8_decline) := goodIn_app (goodIn_of _ (by decide +kernel)) ggL_law_X8_decline
set_option maxRecDepth 20000 in
theorem ggL_law_X7_appeal : GoodIn wsL_law wsX7_appeal := goodIn_r _ [449, 15, 161, 450, 21, 451, 436, 183, 184, 185, 14, 186, 120, 103, 104, 2, 105, 106, 107, 108, 20, 109, 110, 60, 111, 112, 113, 114, 115, 116, 117, 118, 119, 39, 41, 121, 122, 123, 124, 125, 126, 45, 127, 128, 129, 130, 131, 132, 47, 133, 54, 134, 135, 136, 137, 138, 139, 140, 141, 452, 453, 454, 455, 456, 457, 458, 459, 334, 360, 361, 460, 461, 462, 463, 464, 465, 388, 205, 206, 207, 466, 467, 468, 469, 470, 471, 472, 473, 474, 475, 476, 477, 236, 209, 210, 211, 384, 385, 386, 387, 389, 390, 391, 392, 393, 394, 374, 375, 376, 377, 770, 771, 772, 773, 774, 775, 776, 790, 791, 792, 793, 794, 795, 796, 797, 815, 816, 817, 818, 819, 820, 821, 822, 823, 798, 799, 813, 814] (by decide +kernel) (by decide +kernel)
set_option maxRecDepth 20000 in
theorem gL_law_X7_appeal : GoodIn wsL_law (wsV RL 53 RX7 yX7_appeal wsX7_appeal) := goodIn_app (goodIn_of _ (by decide +kernel)) ggL_law_X7_appeal
set_option maxRecDepth 20000 in
theorem ggL_law_X8_appeal : GoodIn wsL_law wsX8_appeal := goodIn_r _ [481, 85, 191, 192, 193, 5, 194, 146, 147, 148, 195, 196, 197, 198, 149, 150, 151, 152, 94, 86, 153, 154, 155, 482, 483, 484, 485, 347, 348, 349, 350, 423, 424, 425, 426, 486, 487, 488, 489, 490, 491, 492, 493, 494, 495, 496, 497, 224, 225, 226, 227, 419, 420, 421, 422, 427, 428, 429, 430, 407, 408, 409, 410, 173, 174, 175, 176, 777, 778, 779, 780, 781, 782, 783, 784, 785, 786, 787, 788, 789] (by decide +kernel) (by decide +kernel)
set_option maxRecDepth 20000 in
theorem gL_law_X8_appeal : GoodIn wsL_law (wsV RL 56 RX8 yX8_appeal wsX8_appeal) := goodIn_app (goodIn_of _ (by decide +kernel)) ggL_law_X8_appeal
set_option maxRecDepth 20000 in
theorem ggL_law_X7_swap : GoodIn wsL_law wsX7_swap := goodIn_r _ [501, 29, 15, 21, 502, 503, 504, 28, 505, 506, 507, 73, 508, 509, 510, 511, 14, 512, 360, 382, 383, 474, 475, 476, 47, 477, 139, 236, 209, 210, 211, 134, 54, 513, 514, 515, 516, 120, 41, 384, 385, 386, 387, 39, 388, 205, 206, 207, 119, 389, 390, 391, 392, 135, 393, 394, 136, 517, 518, 519, 520, 521, 522, 523, 524, 525, 526, 527, 528, 106, 107, 108, 20, 109, 110, 60, 111, 112, 113, 114, 115, 116, 117, 118, 121, 122, 123, 124, 125, 126, 45, 127, 128, 129, 130, 131, 132, 133, 137, 138, 140, 141, 529, 530, 531, 532, 533, 534, 535, 536, 537, 538, 539, 770, 771, 772, 773, 774, 775, 776, 790, 791, 792, 793, 794, 795, 796, 797, 807, 808, 815, 816, 817, 818, 819, 820, 821, 822, 823, 813, 814, 798, 799] (by decide +kernel) (by decide +kernel)
set_option maxRecDepth 20000 in
theorem gL_law_X7_swap : GoodIn wsL_law (wsV RL 57 RX7 yX7_swap wsX7_swap) := goodIn_app (goodIn_of _ (by decide +kernel)) ggL_law_X7_swap
set_option maxRecDepth 20000 in
theorem ggL_law_X8_swap : GoodIn wsL_law wsX8_swap := goodIn_r _ [543, 544, 545, 546, 5, 547, 85, 548, 549, 550, 551, 552, 553, 554, 555, 195, 196, 197, 198, 556, 557, 558, 559, 419, 420, 421, 422, 423, 424, 425, 426, 427, 428, 429, 430, 494, 495, 496, 497, 224, 225, 226, 227, 149, 150, 151, 152, 94, 86, 153, 154, 155, 560, 561, 562, 563, 89, 90, 173, 174, 175, 176, 777, 778, 779, 780, 781, 782, 783, 784, 785, 786, 787, 788, 789] (by decide +kernel) (by decide +kernel)
set_option maxRecDepth 20000 in
theorem gL_law_X8_swap : GoodIn wsL_law (wsV RL 60 RX8 yX8_swap wsX8_swap) := goodIn_app (goodIn_of _ (by decide +kernel)) ggL_law_X8_swap
set_option maxRecDepth 20000 in
theorem ggL_law_X7_moveOut : GoodIn wsL_law wsX7_moveOut := goodIn_r _ [567, 15, 161, 435, 21, 183, 184, 185, 14, 186, 120, 106, 107, 108, 20, 109, 110, 60, 111, 112, 113, 114, 115, 116, 117, 118, 119, 39, 41, 121, 122, 123, 124, 125, 126, 45, 127, 128, 129, 130, 131, 132, 47, 133, 54, 134, 135, 136, 137, 138, 139, 140, 141, 770, 771, 772, 773, 774, 775, 776, 790, 791, 792, 793, 794, 795, 796, 797, 815, 816, 817, 818, 819, 820, 821, 822, 823, 798, 799, 813, 814] (by decide +kernel) (by decide +kernel)
set_option maxRecDepth 20000 in
theorem gL_law_X7_moveOut : GoodIn wsL_law (wsV RL 61 RX7 yX7_moveOut wsX7_moveOut) := goodIn_app (goodIn_of _ (by decide +kernel)) ggL_law_X7_moveOut
set_option maxRecDepth 20000 in
theorem ggL_law_X8_moveOut : GoodIn wsL_law wsX8_moveOut := goodIn_r _ [571, 191, 192, 193, 5, 194, 85, 146, 147, 148, 195, 196, 197, 198, 149, 150, 151, 152, 94, 86, 153, 154, 155, 173, 174, 175, 176, 777, 778, 779, 780, 781, 782, 783, 784, 785, 786, 787, 788, 789] (by decide +kernel) (by decide +kernel)
set_option maxRecDepth 20000 in
theorem gL_law_X8_moveOut : GoodIn wsL_law (wsV RL 64 RX8 yX8_moveOut wsX8_moveOut) := goodIn_app (goodIn_of _ (by decide +kernel)) ggL_law_X8_moveOut
set_option maxRecDepth 20000 in
theorem ggL_law_X7_type : GoodIn wsL_law wsX7_type := goodIn_r _ [575, 25, 576, 577, 578, 579, 24, 580, 272, 66, 770, 771, 772, 773, 774, 775, 776, 800, 801, 802, 803, 804, 805, 806] (by decide +kernel) (by decide +kernel)
set_option maxRecDepth 20000 in
theorem gL_law_X7_type : GoodIn wsL_law (wsV RL 65 RX7 yX7_type wsX7_type) := goodIn_app (goodIn_of _ (by decide +kernel)) ggL_law_X7_type
set_option maxRecDepth 20000 in
theorem ggL_law_X8_type : GoodIn wsL_law wsX8_type := goodIn_r _ [584, 300, 88, 777, 778, 779, 780, 781, 782, 783, 784, 785, 786, 787, 788, 789] (by decide +kernel) (by decide +kernel)
set_option maxRecDepth 20000 in
theorem gL_law_X8_type : GoodIn wsL_law (wsV RL 69 RX8 yX8_type wsX8_type) := goodIn_app (goodIn_of _ (by decide +kernel)) ggL_law_X8_type
set_option maxRecDepth 20000 in
theorem ggL_law_X7_clearText : GoodIn wsL_law wsX7_clearText := goodIn_r _ [588, 25, 576, 770, 771, 772, 773, 774, 775, 776, 800, 801, 802, 803, 804, 805, 806] (by decide +kernel) (by decide +kernel)
set_option maxRecDepth 20000 in
theorem gL_law_X7_clearText : GoodIn wsL_law (wsV RL 70 RX7 yX7_clearText wsX7_clearText) := goodIn_app (goodIn_of _ (by decide +kernel)) ggL_law_X7_clearText
set_option maxRecDepth 20000 in
theorem ggL_law_X8_clearText : GoodIn wsL_law wsX8_clearText := goodIn_r _ [592, 300, 777, 778, 779, 780, 781, 782, 783, 784, 785, 786, 787, 788, 789] (by decide +kernel) (by decide +kernel)
set_option maxRecDepth 20000 in
theorem gL_law_X8_clearText : GoodIn wsL_law (wsV RL 73 RX8 yX8_clearText wsX8_clearText) := goodIn_app (goodIn_of _ (by decide +kernel)) ggL_law_X8_clearText
set_option maxRecDepth 20000 in
theorem ggL_law_X7_undo : GoodIn wsL_law wsX7_undo := goodIn_r _ [596, 21, 597, 15, 598, 599, 600, 20, 601, 110, 60, 115, 116, 117, 14, 118, 119, 39, 120, 41, 121, 122, 123, 124, 125, 126, 45, 127, 128, 129, 130, 131, 132, 47, 133, 54, 134, 135, 136, 137, 138, 139, 140, 141, 770, 771, 772, 773, 774, 775, 776, 798, 799, 790, 791, 792, 793, 794, 795, 796, 797, 813, 814, 815, 816, 817, 818, 819, 820, 821, 822, 823] (by decide +kernel) (by decide +kernel)
set_option maxRecDepth 20000 in
theorem gL_law_X7_undo : GoodIn wsL_law (wsV RL 74 RX7 yX7_undo wsX7_undo) := goodIn_app (goodIn_of _ (by decide +kernel)) ggL_law_X7_undo
set_option maxRecDepth 20000 in
theorem ggL_law_X8_undo : GoodIn wsL_law wsX8_undo := goodIn_r _ [605, 94, 86, 85, 153, 154, 5, 155, 777, 778, 779, 780, 781, 782, 783, 784, 785, 786, 787, 788, 789] (by decide +kernel) (by decide +kernel)
set_option maxRecDepth 20000 in
theorem gL_law_X8_undo : GoodIn wsL_law (wsV RL 77 RX8 yX8_undo wsX8_undo) := goodIn_app (goodIn_of _ (by decide +kernel)) ggL_law_X8_undo
set_option maxRecDepth 20000 in
theorem ggL_law_X7_keep : GoodIn wsL_law wsX7_keep := goodIn_r _ [609, 16, 15, 17, 610, 116, 117, 14, 118, 119, 39, 120, 41, 121, 122, 123, 124, 125, 126, 45, 127, 128, 129, 130, 131, 132, 47, 133, 54, 134, 135, 136, 137, 138, 139, 140, 141, 611, 612, 613, 614, 360, 770, 771, 772, 773, 774, 775, 776, 790, 791, 792, 793, 794, 795, 796, 797, 813, 814, 815, 816, 817, 818, 819, 820, 821, 822, 823] (by decide +kernel) (by decide +kernel)
set_option maxRecDepth 20000 in
theorem gL_law_X7_keep : GoodIn wsL_law (wsV RL 78 RX7 yX7_keep wsX7_keep) := goodIn_app (goodIn_of _ (by decide +kernel)) ggL_law_X7_keep
set_option maxRecDepth 20000 in
theorem ggL_law_X8_keep : GoodIn wsL_law wsX8_keep := goodIn_r _ [618, 85, 87, 619, 153, 154, 5, 155, 620, 621, 622, 623, 195, 196, 197, 198, 777, 778, 779, 780, 781, 782, 783, 784, 785, 786, 787, 788, 789] (by decide +kernel) (by decide +kernel)
set_option maxRecDepth 20000 in
theorem gL_law_X8_keep : GoodIn wsL_law (wsV RL 81 RX8 yX8_keep wsX8_keep) := goodIn_app (goodIn_of _ (by decide +kernel)) ggL_law_X8_keep
set_option maxRecDepth 20000 in
theorem ggL_law_X7_restore : GoodIn wsL_law wsX7_restore := goodIn_r _ [627, 17, 21, 15, 16, 106, 107, 108, 20, 109, 110, 60, 111, 112, 113, 114, 115, 116, 117, 14, 118, 119, 39, 120, 41, 121, 122, 123, 124, 125, 126, 45, 127, 128, 129, 130, 131, 132, 47, 133, 54, 134, 135, 136, 137, 138, 139, 140, 141, 610, 611, 612, 613, 614, 360, 770, 771, 772, 773, 774, 775, 776, 798, 799, 790, 791, 792, 793, 794, 795, 796, 797, 813, 814, 815, 816, 817, 818, 819, 820, 821, 822, 823] (by decide +kernel) (by decide +kernel)
set_option maxRecDepth 20000 in
theorem gL_law_X7_restore : GoodIn wsL_law (wsV RL 82 RX7 yX7_restore wsX7_restore) := goodIn_app (goodIn_of _ (by decide +kernel)) ggL_law_X7_restore
set_option maxRecDepth 20000 in
theorem ggL_law_X8_restore : GoodIn wsL_law wsX8_restore := goodIn_r _ [631, 619, 87, 85, 149, 150, 151, 5, 152, 94, 86, 153, 154, 155, 620, 621, 622, 623, 195, 196, 197, 198, 777, 778, 779, 780, 781, 782, 783, 784, 785, 786, 787, 788, 789] (by decide +kernel) (by decide +kernel)
set_option maxRecDepth 20000 in
theorem gL_law_X8_restore : GoodIn wsL_law (wsV RL 85 RX8 yX8_restore wsX8_restore) := goodIn_app (goodIn_of _ (by decide +kernel)) ggL_law_X8_restore
set_option maxRecDepth 20000 in
theorem ggL_law_X7_flat : GoodIn wsL_law wsX7_flat := goodIn_r _ [635, 15, 100, 101, 102, 204, 205, 206, 14, 207, 119, 636, 514, 515, 516, 120, 41, 360, 637, 638, 639, 640, 641, 209, 210, 47, 211, 134, 54, 642, 643, 644, 645, 384, 385, 386, 387, 39, 388, 389, 390, 391, 392, 135, 393, 394, 136, 770, 771, 772, 773, 774, 775, 776, 790, 791, 792, 793, 794, 795, 796, 797, 813, 814, 815, 816, 817, 818, 819, 820, 821, 822, 823] (by decide +kernel) (by decide +kernel)
set_option maxRecDepth 20000 in
theorem gL_law_X7_flat : GoodIn wsL_law (wsV RL 86 RX7 yX7_flat wsX7_flat) := goodIn_app (goodIn_of _ (by decide +kernel)) ggL_law_X7_flat
set_option maxRecDepth 20000 in
theorem ggL_law_X8_flat : GoodIn wsL_law wsX8_flat := goodIn_r _ [649, 220, 221, 222, 5, 223, 85, 146, 147, 148, 423, 424, 425, 426, 427, 428, 429, 430, 556, 557, 558, 559, 195, 196, 197, 198, 650, 651, 652, 653, 419, 420, 421, 422, 224, 225, 226, 227, 777, 778, 779, 780, 781, 782, 783, 784, 785, 786, 787, 788, 789] (by decide +kernel) (by decide +kernel)
set_option maxRecDepth 20000 in
theorem gL_law_X8_flat : GoodIn wsL_law (wsV RL 89 RX8 yX8_flat wsX8_flat) := goodIn_app (goodIn_of _ (by decide +kernel)) ggL_law_X8_flat
set_option maxRecDepth 20000 in
theorem ggL_law_X7_household : GoodIn wsL_law wsX7_household := goodIn_r _ [657, 15, 161, 182, 181, 329, 436, 435, 203, 450, 658, 183, 184, 185, 14, 186, 120, 659, 371, 372, 373, 334, 41, 374, 375, 376, 47, 377, 137, 138, 660, 510, 511, 512, 360, 382, 383, 474, 475, 476, 477, 139, 236, 209, 210, 211, 134, 54, 513, 514, 515, 516, 384, 385, 386, 387, 39, 388, 205, 206, 207, 119, 389, 390, 391, 392, 135, 393, 394, 136, 770, 771, 772, 773, 774, 775, 776, 790, 791, 792, 793, 794, 795, 796, 797, 815, 816, 817, 818, 819, 820, 821, 822, 823, 813, 814] (by decide +kernel) (by decide +kernel)
set_option maxRecDepth 20000 in
theorem gL_law_X7_household : GoodIn wsL_law (wsV RL 90 RX7 yX7_household wsX7_household) := goodIn_app (goodIn_of _ (by decide +kernel)) ggL_law_X7_household
set_option maxRecDepth 20000 in
theorem ggL_law_X8_household : GoodIn wsL_law wsX8_household := goodIn_r _ [664, 191, 192, 193, 5, 194, 85, 146, 147, 148, 195, 196, 197, 198, 347, 348, 349, 350, 403, 404, 405, 406, 407, 408, 409, 410, 552, 553, 554, 555, 556, 557, 558, 559, 419, 420, 421, 422, 423, 424, 425, 426, 427, 428, 429, 430, 494, 495, 496, 497, 224, 225, 226, 227, 777, 778, 779, 780, 781, 782, 783, 784, 785, 786, 787, 788, 789] (by decide +kernel) (by decide +kernel)
set_option maxRecDepth 20000 in
theorem gL_law_X8_household : GoodIn wsL_law (wsV RL 93 RX8 yX8_household wsX8_household) := goodIn_app (goodIn_of _ (by decide +kernel)) ggL_law_X8_household
set_option maxRecDepth 20000 in
theorem ggL_law_X7_wished : GoodIn wsL_law wsX7_wished := goodIn_r _ [668, 15, 161, 203, 669, 183, 184, 185, 14, 186, 120, 770, 771, 772, 773, 774, 775, 776, 790, 791, 792, 793, 794, 795, 796, 797, 815, 816, 817, 818, 819, 820, 821, 822, 823] (by decide +kernel) (by decide +kernel)
set_option maxRecDepth 20000 in
theorem gL_law_X7_wished : GoodIn wsL_law (wsV RL 94 RX7 yX7_wished wsX7_wished) := goodIn_app (goodIn_of _ (by decide +kernel)) ggL_law_X7_wished
set_option maxRecDepth 20000 in
theorem ggL_law_X8_wished : GoodIn wsL_law wsX8_wished := goodIn_r _ [673, 191, 192, 193, 5, 194, 85, 146, 147, 148, 195, 196, 197, 198, 777, 778, 779, 780, 781, 782, 783, 784, 785, 786, 787, 788, 789] (by decide +kernel) (by decide +kernel)
set_option maxRecDepth 20000 in
theorem gL_law_X8_wished : GoodIn wsL_law (wsV RL 97 RX8 yX8_wished wsX8_wished) := goodIn_app (goodIn_of _ (by decide +kernel)) ggL_law_X8_wished
set_option maxRecDepth 20000 in
theorem ggL_law_X7_ordered : GoodIn wsL_law wsX7_ordered := goodIn_r _ [677, 15, 678, 679, 367, 368, 14, 369, 120, 41, 43, 370, 371, 372, 373, 334, 374, 375, 376, 47, 377, 137, 138, 770, 771, 772, 773, 774, 775, 776, 790, 791, 792, 793, 794, 795, 796, 797, 815, 816, 817, 818, 819, 820, 821, 822, 823] (by decide +kernel) (by decide +kernel)
set_option maxRecDepth 20000 in
theorem gL_law_X7_ordered : GoodIn wsL_law (wsV RL 98 RX7 yX7_ordered wsX7_ordered) := goodIn_app (goodIn_of _ (by decide +kernel)) ggL_law_X7_ordered
set_option maxRecDepth 20000 in
theorem ggL_law_X8_ordered : GoodIn wsL_law wsX8_ordered := goodIn_r _ [683, 399, 400, 401, 5, 402, 85, 347, 348, 349, 350, 195, 196, 197, 198, 403, 404, 405, 406, 407, 408, 409, 410, 777, 778, 779, 780, 781, 782, 783, 784, 785, 786, 787, 788, 789] (by decide +kernel) (by decide +kernel)
set_option maxRecDepth 20000 in
theorem gL_law_X8_ordered : GoodIn wsL_law (wsV RL 101 RX8 yX8_ordered wsX8_ordered) := goodIn_app (goodIn_of _ (by decide +kernel)) ggL_law_X8_ordered
set_option maxRecDepth 20000 in
theorem ggL_law_X7_envies : GoodIn wsL_law wsX7_envies := goodIn_r _ [687, 15, 161, 183, 184, 185, 14, 186, 120, 688, 471, 472, 473, 360, 474, 475, 476, 47, 477, 139, 236, 209, 210, 211, 134, 54, 384, 385, 386, 387, 39, 388, 205, 206, 207, 119, 389, 390, 391, 392, 135, 393, 394, 136, 374, 375, 376, 377, 137, 138, 770, 771, 772, 773, 774, 775, 776, 790, 791, 792, 793, 794, 795, 796, 797, 815, 816, 817, 818, 819, 820, 821, 822, 823, 813, 814] (by decide +kernel) (by decide +kernel)
set_option maxRecDepth 20000 in
theorem gL_law_X7_envies : GoodIn wsL_law (wsV RL 102 RX7 yX7_envies wsX7_envies) := goodIn_app (goodIn_of _ (by decide +kernel)) ggL_law_X7_envies
set_option maxRecDepth 20000 in
theorem ggL_law_X8_envies : GoodIn wsL_law wsX8_envies := goodIn_r _ [692, 191, 192, 193, 5, 194, 85, 146, 147, 148, 693, 694, 695, 696, 490, 491, 492, 493, 195, 196, 197, 198, 494, 495, 496, 497, 224, 225, 226, 227, 419, 420, 421, 422, 423, 424, 425, 426, 427, 428, 429, 430, 407, 408, 409, 410, 347, 348, 349, 350, 777, 778, 779, 780, 781, 782, 783, 784, 785, 786, 787, 788, 789] (by decide +kernel) (by decide +kernel)
set_option maxRecDepth 20000 in
theorem gL_law_X8_envies : GoodIn wsL_law (wsV RL 105 RX8 yX8_envies wsX8_envies) := goodIn_app (goodIn_of _ (by decide +kernel)) ggL_law_X8_envies
set_option maxRecDepth 20000 in
theorem ggL_law_X7_wouldGet : GoodIn wsL_law wsX7_wouldGet := goodIn_r _ [700, 15, 183, 184, 185, 14, 186, 120, 701, 702, 703, 704, 43, 41, 366, 367, 368, 369, 370, 371, 372, 373, 334, 374, 375, 376, 47, 377, 137, 138, 378, 379, 380, 381, 382, 383, 384, 385, 386, 387, 39, 388, 205, 206, 207, 119, 389, 390, 391, 392, 135, 393, 394, 136, 770, 771, 772, 773, 774, 775, 776, 790, 791, 792, 793, 794, 795, 796, 797, 815, 816, 817, 818, 819, 820, 821, 822, 823, 813, 814] (by decide +kernel) (by decide +kernel)
set_option maxRecDepth 20000 in
theorem gL_law_X7_wouldGet : GoodIn wsL_law (wsV RL 106 RX7 yX7_wouldGet wsX7_wouldGet) := goodIn_app (goodIn_of _ (by decide +kernel)) ggL_law_X7_wouldGet
set_option maxRecDepth 20000 in
theorem ggL_law_X8_wouldGet : GoodIn wsL_law wsX8_wouldGet := goodIn_r _ [708, 191, 192, 193, 5, 194, 85, 146, 147, 148, 343, 344, 345, 346, 347, 348, 349, 350, 195, 196, 197, 198, 399, 400, 401, 402, 403, 404, 405, 406, 407, 408, 409, 410, 415, 416, 417, 418, 419, 420, 421, 422, 423, 424, 425, 426, 427, 428, 429, 430, 777, 778, 779, 780, 781, 782, 783, 784, 785, 786, 787, 788, 789] (by decide +kernel) (by decide +kernel)
set_option maxRecDepth 20000 in
theorem gL_law_X8_wouldGet : GoodIn wsL_law (wsV RL 109 RX8 yX8_wouldGet wsX8_wouldGet) := goodIn_app (goodIn_of _ (by decide +kernel)) ggL_law_X8_wouldGet
set_option maxRecDepth 20000 in
theorem ggL_law_X7_most : GoodIn wsL_law wsX7_most := goodIn_r _ [712, 33, 15, 713, 714, 715, 32, 716, 77, 78, 717, 718, 719, 720, 721, 79, 80, 722, 723, 724, 725, 385, 386, 14, 387, 39, 388, 205, 206, 207, 119, 389, 390, 391, 47, 392, 135, 393, 394, 136, 726, 727, 728, 729, 770, 771, 772, 773, 774, 775, 776, 809, 810, 811, 812, 790, 791, 792, 793, 794, 795, 796, 797, 815, 816, 817, 818, 819, 820, 821, 822, 823, 813, 814] (by decide +kernel) (by decide +kernel)
set_option maxRecDepth 20000 in
theorem gL_law_X7_most : GoodIn wsL_law (wsV RL 110 RX7 yX7_most wsX7_most) := goodIn_app (goodIn_of _ (by decide +kernel)) ggL_law_X7_most
set_option maxRecDepth 20000 in
theorem ggL_law_X8_most : GoodIn wsL_law wsX8_most := goodIn_r _ [733, 93, 85, 734, 735, 736, 5, 737, 195, 196, 197, 198, 419, 420, 421, 422, 423, 424, 425, 426, 427, 428, 429, 430, 738, 739, 740, 777, 778, 779, 780, 781, 782, 783, 784, 785, 786, 787, 788, 789] (by decide +kernel) (by decide +kernel)
set_option maxRecDepth 20000 in
theorem gL_law_X8_most : GoodIn wsL_law (wsV RL 113 RX8 yX8_most wsX8_most) := goodIn_app (goodIn_of _ (by decide +kernel)) ggL_law_X8_most
set_option maxRecDepth 20000 in
theorem ggL_law_X7_count : GoodIn wsL_law wsX7_count := goodIn_r _ [744, 15, 99, 160, 355, 29, 451, 441, 21, 597, 25, 576, 611, 612, 613, 14, 614, 120, 41, 360, 335, 336, 337, 338, 334, 745, 746, 747, 748, 470, 471, 472, 473, 474, 475, 476, 47, 477, 139, 236, 209, 210, 211, 134, 54, 384, 385, 386, 387, 39, 388, 205, 206, 207, 119, 389, 390, 391, 392, 135, 393, 394, 136, 374, 375, 376, 377, 137, 138, 502, 503, 504, 28, 505, 506, 507, 73, 508, 509, 510, 511, 512, 382, 383, 513, 514, 515, 516, 749, 750, 751, 752, 521, 522, 523, 524, 525, 526, 527, 528, 753, 754, 755, 756, 757, 770, 771, 772, 773, 774, 775, 776, 790, 791, 792, 793, 794, 795, 796, 797, 798, 799, 800, 801, 802, 803, 804, 805, 806, 815, 816, 817, 818, 819, 820, 821, 822, 823, 813, 814, 807, 808] (by decide +kernel) (by decide +kernel)
set_option maxRecDepth 20000 in
theorem gL_law_X7_count : GoodIn wsL_law (wsV RL 114 RX7 yX7_count wsX7_count) := goodIn_app (goodIn_of _ (by decide +kernel)) ggL_law_X7_count
set_option maxRecDepth 20000 in
theorem ggL_law_X8_count : GoodIn wsL_law wsX8_count := goodIn_r _ [761, 85, 94, 300, 620, 621, 622, 5, 623, 195, 196, 197, 198, 343, 344, 345, 346, 347, 348, 349, 350, 762, 763, 764, 765, 693, 694, 695, 696, 490, 491, 492, 493, 494, 495, 496, 497, 224, 225, 226, 227, 419, 420, 421, 422, 423, 424, 425, 426, 427, 428, 429, 430, 407, 408, 409, 410, 766, 767, 768, 769, 548, 549, 550, 551, 552, 553, 554, 555, 556, 557, 558, 559, 777, 778, 779, 780, 781, 782, 783, 784, 785, 786, 787, 788, 789] (by decide +kernel) (by decide +kernel)
set_option maxRecDepth 20000 in
theorem gL_law_X8_count : GoodIn wsL_law (wsV RL 117 RX8 yX8_count wsX8_count) := goodIn_app (goodIn_of _ (by decide +kernel)) ggL_law_X8_count
theorem dL_law_0 : decode cL_law 0 = .ok (.new 7, 3) := by decide +kernel
theorem dL_law_3 : decode cL_law 3 = .ok (.dup, 1) := by decide +kernel
theorem dL_law_4 : decode cL_law 4 = .ok (.invokespecial 9, 3) := by decide +kernel
theorem dL_law_7 : decode cL_law 7 = .ok (.astore_n 1, 1) := by decide +kernel
theorem dL_law_8 : decode cL_law 8 = .ok (.new 10, 3) := by decide +kernel
theorem dL_law_11 : decode cL_law 11 = .ok (.dup, 1) := by decide +kernel
theorem dL_law_12 : decode cL_law 12 = .ok (.invokespecial 12, 3) := by decide +kernel
theorem dL_law_15 : decode cL_law 15 = .ok (.astore_n 2, 1) := by decide +kernel
theorem dL_law_16 : decode cL_law 16 = .ok (.iconst 0, 1) := by decide +kernel
theorem dL_law_17 : decode cL_law 17 = .ok (.istore_n 3, 1) := by decide +kernel
theorem dL_law_18 : decode cL_law 18 = .ok (.iload_n 3, 1) := by decide +kernel
theorem dL_law_19 : decode cL_law 19 = .ok (.aload_n 0, 1) := by decide +kernel
theorem dL_law_20 : decode cL_law 20 = .ok (.arraylength, 1) := by decide +kernel
theorem dL_law_21 : decode cL_law 21 = .ok (.iconst 4, 1) := by decide +kernel
theorem dL_law_22 : decode cL_law 22 = .ok (.isub, 1) := by decide +kernel
theorem dL_law_23 : decode cL_law 23 = .ok (.if_icmp .gt 774, 3) := by decide +kernel
theorem dL_law_26 : decode cL_law 26 = .ok (.aload_n 0, 1) := by decide +kernel
theorem dL_law_27 : decode cL_law 27 = .ok (.iload_n 3, 1) := by decide +kernel
theorem dL_law_28 : decode cL_law 28 = .ok (.iaload, 1) := by decide +kernel
theorem dL_law_29 : decode cL_law 29 = .ok (.bipush 31, 2) := by decide +kernel
theorem dL_law_31 : decode cL_law 31 = .ok (.iand, 1) := by decide +kernel
theorem dL_law_32 : decode cL_law 32 = .ok (.tableswitch 759 0 24 #[116, 149, 182, 241, 274, 307, 320, 353, 366, 389, 422, 435, 458, 483, 496, 509, 522, 535, 568, 601, 634, 657, 690, 723, 736], 116) := by decide +kernel
theorem dL_law_148 : decode cL_law 148 = .ok (.aload_n 1, 1) := by decide +kernel
theorem dL_law_149 : decode cL_law 149 = .ok (.aload_n 0, 1) := by decide +kernel
theorem dL_law_150 : decode cL_law 150 = .ok (.iload_n 3, 1) := by decide +kernel
theorem dL_law_151 : decode cL_law 151 = .ok (.iconst 1, 1) := by decide +kernel
theorem dL_law_152 : decode cL_law 152 = .ok (.iadd, 1) := by decide +kernel
theorem dL_law_153 : decode cL_law 153 = .ok (.iaload, 1) := by decide +kernel
theorem dL_law_154 : decode cL_law 154 = .ok (.aload_n 0, 1) := by decide +kernel
theorem dL_law_155 : decode cL_law 155 = .ok (.iload_n 3, 1) := by decide +kernel
theorem dL_law_156 : decode cL_law 156 = .ok (.iconst 2, 1) := by decide +kernel
theorem dL_law_157 : decode cL_law 157 = .ok (.iadd, 1) := by decide +kernel
theorem dL_law_158 : decode cL_law 158 = .ok (.iaload, 1) := by decide +kernel
theorem dL_law_159 : decode cL_law 159 = .ok (.invokevirtual 13, 3) := by decide +kernel
theorem dL_law_162 : decode cL_law 162 = .ok (.aload_n 2, 1) := by decide +kernel
theorem dL_law_163 : decode cL_law 163 = .ok (.aload_n 0, 1) := by decide +kernel
theorem dL_law_164 : decode cL_law 164 = .ok (.iload_n 3, 1) := by decide +kernel
theorem dL_law_165 : decode cL_law 165 = .ok (.iconst 1, 1) := by decide +kernel
theorem dL_law_166 : decode cL_law 166 = .ok (.iadd, 1) := by decide +kernel
theorem dL_law_167 : decode cL_law 167 = .ok (.iaload, 1) := by decide +kernel
theorem dL_law_168 : decode cL_law 168 = .ok (.aload_n 0, 1) := by decide +kernel
theorem dL_law_169 : decode cL_law 169 = .ok (.iload_n 3, 1) := by decide +kernel
theorem dL_law_170 : decode cL_law 170 = .ok (.iconst 2, 1) := by decide +kernel
theorem dL_law_171 : decode cL_law 171 = .ok (.iadd, 1) := by decide +kernel
theorem dL_law_172 : decode cL_law 172 = .ok (.iaload, 1) := by decide +kernel
theorem dL_law_173 : decode cL_law 173 = .ok (.invokevirtual 17, 3) := by decide +kernel
theorem dL_law_176 : decode cL_law 176 = .ok (.if_icmp .eq 615, 3) := by decide +kernel
theorem dL_law_179 : decode cL_law 179 = .ok (.iconst 0, 1) := by decide +kernel
theorem dL_law_180 : decode cL_law 180 = .ok (.ireturn, 1) := by decide +kernel
theorem dL_law_181 : decode cL_law 181 = .ok (.aload_n 1, 1) := by decide +kernel
theorem dL_law_182 : decode cL_law 182 = .ok (.aload_n 0, 1) := by decide +kernel
theorem dL_law_183 : decode cL_law 183 = .ok (.iload_n 3, 1) := by decide +kernel
theorem dL_law_184 : decode cL_law 184 = .ok (.iconst 1, 1) := by decide +kernel
theorem dL_law_185 : decode cL_law 185 = .ok (.iadd, 1) := by decide +kernel
theorem dL_law_186 : decode cL_law 186 = .ok (.iaload, 1) := by decide +kernel
theorem dL_law_187 : decode cL_law 187 = .ok (.aload_n 0, 1) := by decide +kernel
theorem dL_law_188 : decode cL_law 188 = .ok (.iload_n 3, 1) := by decide +kernel
theorem dL_law_189 : decode cL_law 189 = .ok (.iconst 2, 1) := by decide +kernel
theorem dL_law_190 : decode cL_law 190 = .ok (.iadd, 1) := by decide +kernel
theorem dL_law_191 : decode cL_law 191 = .ok (.iaload, 1) := by decide +kernel
theorem dL_law_192 : decode cL_law 192 = .ok (.invokevirtual 18, 3) := by decide +kernel
theorem dL_law_195 : decode cL_law 195 = .ok (.aload_n 2, 1) := by decide +kernel
theorem dL_law_196 : decode cL_law 196 = .ok (.aload_n 0, 1) := by decide +kernel
theorem dL_law_197 : decode cL_law 197 = .ok (.iload_n 3, 1) := by decide +kernel
theorem dL_law_198 : decode cL_law 198 = .ok (.iconst 1, 1) := by decide +kernel
theorem dL_law_199 : decode cL_law 199 = .ok (.iadd, 1) := by decide +kernel
theorem dL_law_200 : decode cL_law 200 = .ok (.iaload, 1) := by decide +kernel
theorem dL_law_201 : decode cL_law 201 = .ok (.aload_n 0, 1) := by decide +kernel
theorem dL_law_202 : decode cL_law 202 = .ok (.iload_n 3, 1) := by decide +kernel
theorem dL_law_203 : decode cL_law 203 = .ok (.iconst 2, 1) := by decide +kernel
theorem dL_law_204 : decode cL_law 204 = .ok (.iadd, 1) := by decide +kernel
theorem dL_law_205 : decode cL_law 205 = .ok (.iaload, 1) := by decide +kernel
theorem dL_law_206 : decode cL_law 206 = .ok (.invokevirtual 21, 3) := by decide +kernel
theorem dL_law_209 : decode cL_law 209 = .ok (.if_icmp .eq 582, 3) := by decide +kernel
theorem dL_law_212 : decode cL_law 212 = .ok (.iconst 0, 1) := by decide +kernel
theorem dL_law_213 : decode cL_law 213 = .ok (.ireturn, 1) := by decide +kernel
theorem dL_law_214 : decode cL_law 214 = .ok (.aload_n 1, 1) := by decide +kernel
theorem dL_law_215 : decode cL_law 215 = .ok (.aload_n 0, 1) := by decide +kernel
theorem dL_law_216 : decode cL_law 216 = .ok (.iload_n 3, 1) := by decide +kernel
theorem dL_law_217 : decode cL_law 217 = .ok (.iconst 1, 1) := by decide +kernel
theorem dL_law_218 : decode cL_law 218 = .ok (.iadd, 1) := by decide +kernel
theorem dL_law_219 : decode cL_law 219 = .ok (.iaload, 1) := by decide +kernel
theorem dL_law_220 : decode cL_law 220 = .ok (.aload_n 0, 1) := by decide +kernel
theorem dL_law_221 : decode cL_law 221 = .ok (.iload_n 3, 1) := by decide +kernel
theorem dL_law_222 : decode cL_law 222 = .ok (.iconst 2, 1) := by decide +kernel
theorem dL_law_223 : decode cL_law 223 = .ok (.iadd, 1) := by decide +kernel
theorem dL_law_224 : decode cL_law 224 = .ok (.iaload, 1) := by decide +kernel
theorem dL_law_225 : decode cL_law 225 = .ok (.ifCond .eq 7, 3) := by decide +kernel
theorem dL_law_228 : decode cL_law 228 = .ok (.iconst 1, 1) := by decide +kernel
theorem dL_law_229 : decode cL_law 229 = .ok (.goto 4, 3) := by decide +kernel
theorem dL_law_232 : decode cL_law 232 = .ok (.iconst 0, 1) := by decide +kernel
theorem dL_law_233 : decode cL_law 233 = .ok (.aload_n 0, 1) := by decide +kernel
