set_option maxRecDepth 100000 in
theorem in_wsL_law0_r1 : ∀ w ∈ wsL_law0_r1, w ∈ lw_tbl := fun w h => (goodIn_r wsL_law0_r1 [49, 50, 35, 779, 780, 40, 1082, 1081, 51, 52, 53, 54, 55, 56, 57, 58, 36, 170, 171, 118, 119, 37, 172, 155] (by decide +kernel) (by decide +kernel) w h).1
set_option maxRecDepth 100000 in
theorem in_wsL_law0_r2 : ∀ w ∈ wsL_law0_r2, w ∈ lw_tbl := fun w h => (goodIn_r wsL_law0_r2 [125, 38, 173, 157, 158, 39, 174, 175, 198, 176, 177, 178, 59, 60, 61, 62, 117, 67, 68, 70, 71, 72, 73, 75] (by decide +kernel) (by decide +kernel) w h).1
set_option maxRecDepth 100000 in
theorem in_wsL_law0_r3 : ∀ w ∈ wsL_law0_r3, w ∈ lw_tbl := fun w h => (goodIn_r wsL_law0_r3 [77, 78, 81, 63, 64, 65, 66, 84, 86, 88, 121, 122, 123, 124, 143, 141, 145, 127, 128, 129, 140, 130, 131, 142] (by decide +kernel) (by decide +kernel) w h).1
set_option maxRecDepth 100000 in
theorem in_wsL_law0_r4 : ∀ w ∈ wsL_law0_r4, w ∈ lw_tbl := fun w h => (goodIn_r wsL_law0_r4 [159, 160, 161, 162, 163, 166, 165, 781, 782, 783, 784, 786, 790, 792, 793, 794, 796, 797, 798, 799, 791, 329, 330, 34] (by decide +kernel) (by decide +kernel) w h).1
set_option maxRecDepth 100000 in
theorem in_wsL_law0_r5 : ∀ w ∈ wsL_law0_r5, w ∈ lw_tbl := fun w h => (goodIn_r wsL_law0_r5 [331, 332, 333, 334, 335, 336, 337, 338, 44, 410, 45, 144, 133, 406, 407, 408, 409, 426, 427, 428, 429, 835, 836, 837] (by decide +kernel) (by decide +kernel) w h).1
set_option maxRecDepth 100000 in
theorem in_wsL_law0_r6 : ∀ w ∈ wsL_law0_r6, w ∈ lw_tbl := fun w h => (goodIn_r wsL_law0_r6 [838, 839, 787, 840, 841, 842, 843, 845, 14, 846, 785, 831, 832, 833, 834, 199, 200, 201, 202, 203, 204, 205, 206, 847] (by decide +kernel) (by decide +kernel) w h).1
set_option maxRecDepth 100000 in
theorem in_wsL_law0_r7 : ∀ w ∈ wsL_law0_r7, w ∈ lw_tbl := fun w h => (goodIn_r wsL_law0_r7 [848, 849, 850, 207, 208, 209, 210, 211, 212, 213, 214, 147, 132, 215, 216, 218, 0, 219, 82, 79, 220, 221, 222, 223] (by decide +kernel) (by decide +kernel) w h).1
set_option maxRecDepth 100000 in
theorem in_wsL_law0_r8 : ∀ w ∈ wsL_law0_r8, w ∈ lw_tbl := fun w h => (goodIn_r wsL_law0_r8 [224, 226, 1, 227, 228, 230, 2, 231, 232, 234, 3, 235, 236, 237, 238, 239, 242, 244, 4, 245, 246, 248, 5, 249] (by decide +kernel) (by decide +kernel) w h).1
set_option maxRecDepth 100000 in
theorem in_wsL_law0_r9 : ∀ w ∈ wsL_law0_r9, w ∈ lw_tbl := fun w h => (goodIn_r wsL_law0_r9 [250, 251, 252, 253, 254, 255, 256, 257, 258, 259, 260, 261, 262, 263, 264, 265, 266, 267, 851, 852, 853, 854, 855, 857] (by decide +kernel) (by decide +kernel) w h).1
set_option maxRecDepth 100000 in
theorem in_wsL_law0_r10 : ∀ w ∈ wsL_law0_r10, w ∈ lw_tbl := fun w h => (goodIn_r wsL_law0_r10 [15, 858, 788, 789, 859, 861, 16, 862, 863, 865, 17, 866, 867, 869, 18, 870, 871, 872, 873, 874, 876, 19, 877, 878] (by decide +kernel) (by decide +kernel) w h).1
set_option maxRecDepth 100000 in
theorem in_wsL_law0_r11 : ∀ w ∈ wsL_law0_r11, w ∈ lw_tbl := fun w h => (goodIn_r wsL_law0_r11 [879, 881, 20, 882, 883, 884, 885, 886, 887, 888, 430, 431, 432, 433, 434, 435, 436, 146, 299, 289, 290, 291, 292, 294] (by decide +kernel) (by decide +kernel) w h).1
set_option maxRecDepth 100000 in
theorem in_wsL_law0_r12 : ∀ w ∈ wsL_law0_r12, w ∈ lw_tbl := fun w h => (goodIn_r wsL_law0_r12 [293, 46, 438, 889, 890, 891, 892, 795, 893, 894, 895, 439, 440, 441, 442, 443, 444, 445, 83, 85, 87, 80, 300, 896] (by decide +kernel) (by decide +kernel) w h).1
set_option maxRecDepth 100000 in
theorem in_wsL_law0_r13 : ∀ w ∈ wsL_law0_r13, w ∈ lw_tbl := fun w h => (goodIn_r wsL_law0_r13 [897, 898, 899, 900, 447, 448, 449, 450, 451, 452, 453, 454, 459, 47, 455, 456, 457, 458, 475, 476, 477, 479, 480, 481] (by decide +kernel) (by decide +kernel) w h).1
set_option maxRecDepth 100000 in
theorem in_wsL_law0_r14 : ∀ w ∈ wsL_law0_r14, w ∈ lw_tbl := fun w h => (goodIn_r wsL_law0_r14 [482, 901, 902, 903, 904, 909, 905, 907, 21, 908, 910, 911, 912, 483, 484, 485, 486, 487, 488, 489, 490, 491, 492, 493] (by decide +kernel) (by decide +kernel) w h).1
