set_option maxRecDepth 20000 in
theorem in_wsL_law_r1 : ∀ w ∈ wsL_law_r1, w ∈ lw_tbl := fun w h => (goodIn_r wsL_law_r1 [50, 51, 35, 769, 770, 43, 52, 53, 54, 55, 56, 57, 58, 197, 60, 36, 79, 80, 37, 198, 100, 101, 38, 199] (by decide +kernel) (by decide +kernel) w h).1
set_option maxRecDepth 20000 in
theorem in_wsL_law_r2 : ∀ w ∈ wsL_law_r2, w ∈ lw_tbl := fun w h => (goodIn_r wsL_law_r2 [128, 129, 39, 200, 141, 142, 40, 201, 161, 162, 41, 202, 187, 188, 42, 203, 204, 62, 63, 64, 78, 65, 82, 83] (by decide +kernel) (by decide +kernel) w h).1
set_option maxRecDepth 20000 in
theorem in_wsL_law_r3 : ∀ w ∈ wsL_law_r3, w ∈ lw_tbl := fun w h => (goodIn_r wsL_law_r3 [84, 85, 87, 88, 89, 103, 104, 105, 106, 107, 108, 109, 131, 132, 133, 134, 135, 144, 145, 146, 147, 148, 160, 149] (by decide +kernel) (by decide +kernel) w h).1
set_option maxRecDepth 20000 in
theorem in_wsL_law_r4 : ∀ w ∈ wsL_law_r4, w ∈ lw_tbl := fun w h => (goodIn_r wsL_law_r4 [163, 164, 165, 166, 167, 174, 169, 175, 171, 172, 173, 190, 191, 192, 771, 772, 773, 774, 777, 778, 779, 783, 784, 785] (by decide +kernel) (by decide +kernel) w h).1
set_option maxRecDepth 20000 in
theorem in_wsL_law_r5 : ∀ w ∈ wsL_law_r5, w ∈ lw_tbl := fun w h => (goodIn_r wsL_law_r5 [787, 788, 790, 791, 793, 795, 796, 797, 798, 799, 800, 801, 222, 223, 224, 225, 226, 228, 0, 229, 230, 231, 232, 233] (by decide +kernel) (by decide +kernel) w h).1
set_option maxRecDepth 20000 in
theorem in_wsL_law_r6 : ∀ w ∈ wsL_law_r6, w ∈ lw_tbl := fun w h => (goodIn_r wsL_law_r6 [234, 235, 236, 237, 238, 239, 240, 66, 67, 241, 242, 243, 244, 68, 245, 247, 1, 248, 249, 250, 251, 252, 253, 254] (by decide +kernel) (by decide +kernel) w h).1
set_option maxRecDepth 20000 in
theorem in_wsL_law_r7 : ∀ w ∈ wsL_law_r7, w ∈ lw_tbl := fun w h => (goodIn_r wsL_law_r7 [255, 256, 257, 258, 259, 260, 261, 262, 263, 264, 265, 266, 267, 268, 44, 269, 90, 290, 270, 271, 272, 273, 274, 47] (by decide +kernel) (by decide +kernel) w h).1
set_option maxRecDepth 20000 in
theorem in_wsL_law_r8 : ∀ w ∈ wsL_law_r8, w ∈ lw_tbl := fun w h => (goodIn_r wsL_law_r8 [298, 299, 46, 305, 45, 275, 276, 277, 278, 279, 280, 281, 282, 283, 284, 285, 286, 288, 300, 306, 311, 313, 2, 314] (by decide +kernel) (by decide +kernel) w h).1
set_option maxRecDepth 20000 in
theorem in_wsL_law_r9 : ∀ w ∈ wsL_law_r9, w ∈ lw_tbl := fun w h => (goodIn_r wsL_law_r9 [315, 316, 317, 318, 321, 319, 322, 323, 324, 325, 304, 319, 330, 318, 320, 326, 327, 328, 329, 1116, 297, 331, 332, 333] (by decide +kernel) (by decide +kernel) w h).1
set_option maxRecDepth 20000 in
theorem in_wsL_law_r10 : ∀ w ∈ wsL_law_r10, w ∈ lw_tbl := fun w h => (goodIn_r wsL_law_r10 [334, 110, 111, 112, 335, 336, 337, 338, 150, 339, 340, 341, 342, 860, 861, 862, 863, 875, 781, 782, 776, 780, 786, 789] (by decide +kernel) (by decide +kernel) w h).1
set_option maxRecDepth 20000 in
theorem in_wsL_law_r11 : ∀ w ∈ wsL_law_r11, w ∈ lw_tbl := fun w h => (goodIn_r wsL_law_r11 [794, 864, 865, 866, 867, 868, 869, 870, 871, 873, 10, 874, 775, 876, 878, 11, 879, 880, 882, 12, 883, 884, 885, 886] (by decide +kernel) (by decide +kernel) w h).1
set_option maxRecDepth 20000 in
theorem in_wsL_law_r12 : ∀ w ∈ wsL_law_r12, w ∈ lw_tbl := fun w h => (goodIn_r wsL_law_r12 [887, 889, 13, 890, 891, 893, 14, 894, 895, 897, 15, 898, 899, 901, 16, 902, 343, 344, 345, 346, 287, 289, 347, 348] (by decide +kernel) (by decide +kernel) w h).1
set_option maxRecDepth 20000 in
theorem in_wsL_law_r13 : ∀ w ∈ wsL_law_r13, w ∈ lw_tbl := fun w h => (goodIn_r wsL_law_r13 [349, 350, 351, 352, 353, 354, 355, 358, 356, 359, 360, 361, 365, 355, 356, 357, 362, 363, 364, 366, 366, 367, 368, 369] (by decide +kernel) (by decide +kernel) w h).1
