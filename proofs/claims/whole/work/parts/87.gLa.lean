set_option maxRecDepth 20000 in
theorem ggL_law_X4_init : GoodIn wsL_law wsX4_init := goodIn_r _ [10, 11, 12, 13, 14, 15, 16, 17, 18, 19, 20, 21, 22, 23, 24, 25, 26, 27, 28, 29, 30, 31, 32, 33, 34, 35, 36, 37, 38, 39, 40, 41, 42, 43, 44, 45, 46, 47, 48, 49, 50, 51, 52, 53, 54, 55, 56, 57, 58, 59, 60, 61, 62, 63, 64, 65, 66, 67, 68, 69, 70, 71, 72, 73, 74, 75, 76, 77, 78, 853, 854, 855, 856, 857, 858, 859, 860, 861, 862, 863, 864, 865, 829, 830, 831, 832, 833, 834, 835, 836, 837, 866, 867, 868, 869, 870, 871] (by decide +kernel) (by decide +kernel)
set_option maxRecDepth 20000 in
theorem gL_law_X4_init : GoodIn wsL_law (wsX4_init) := ggL_law_X4_init
set_option maxRecDepth 20000 in
theorem ggL_law_X5_init : GoodIn wsL_law wsX5_init := goodIn_r _ [81, 82, 12, 13, 40, 83, 84, 85, 86, 87, 88, 32, 89, 90, 91, 92, 838, 839, 840, 841, 842, 843, 844, 845, 846, 847, 848, 849, 850, 851, 852] (by decide +kernel) (by decide +kernel)
set_option maxRecDepth 20000 in
theorem gL_law_X5_init : GoodIn wsL_law (wsX5_init) := ggL_law_X5_init
set_option maxRecDepth 20000 in
theorem ggL_law_L_append : GoodIn wsL_law wsL_append := goodIn_ca (goodIn_ca (goodIn_r _ [96, 97, 98, 99, 100, 101, 2, 102, 103, 104, 105, 106, 22, 107, 108, 109, 110, 111, 25, 112, 70, 113, 114, 115, 116, 69, 829, 830, 831, 832, 833, 834, 835, 836, 837, 866, 867, 868, 869, 870] (by decide +kernel) (by decide +kernel)) (goodIn_sub (fun _ h => List.mem_append_left _ (List.mem_append_left _ (List.mem_append_right _ h))) (by decide +kernel))) (goodIn_sub (fun _ h => List.mem_append_left _ (List.mem_append_right _ h)) (by decide +kernel))
set_option maxRecDepth 20000 in
theorem gL_law_L_append : GoodIn wsL_law (va_wsS RL 101 yL_append wsL_append) := goodIn_app (goodIn_of _ (by decide +kernel)) ggL_law_L_append
set_option maxRecDepth 20000 in
theorem ggL_law_X5_append : GoodIn wsL_law wsX5_append := goodIn_r _ [120, 121, 122, 83, 123, 124, 5, 125, 126, 127, 128, 129, 130, 838, 839, 840, 841, 842, 843, 844, 845, 846, 847, 848, 849, 850, 851, 852] (by decide +kernel) (by decide +kernel)
set_option maxRecDepth 20000 in
theorem gL_law_X5_append : GoodIn wsL_law (wsV RL 106 RX5 yX5_append wsX5_append) := goodIn_app (goodIn_of _ (by decide +kernel)) ggL_law_X5_append
set_option maxRecDepth 20000 in
theorem ggL_law_X5_thrown : GoodIn wsL_law wsX5_thrown := goodIn_r _ [134, 130, 838, 839, 840, 841, 842, 843, 844, 845, 846, 847, 848, 849, 850, 851, 852] (by decide +kernel) (by decide +kernel)
set_option maxRecDepth 20000 in
theorem gL_law_X5_thrown : GoodIn wsL_law (wsV RL 107 RX5 yX5_thrown wsX5_thrown) := goodIn_app (goodIn_of _ (by decide +kernel)) ggL_law_X5_thrown
set_option maxRecDepth 20000 in
theorem ggL_law_X4_clearText : GoodIn wsL_law wsX4_clearText := goodIn_r _ [138, 22, 107, 108, 139, 140, 141, 25, 142, 70, 829, 830, 831, 832, 833, 834, 835, 836, 837, 866, 867, 868, 869, 870] (by decide +kernel) (by decide +kernel)
set_option maxRecDepth 20000 in
theorem gL_law_X4_clearText : GoodIn wsL_law (wsV RL 110 RX4 yX4_clearText wsX4_clearText) := goodIn_app (goodIn_of _ (by decide +kernel)) ggL_law_X4_clearText
set_option maxRecDepth 20000 in
theorem ggL_law_X5_clearText : GoodIn wsL_law wsX5_clearText := goodIn_r _ [146, 130, 122, 838, 839, 840, 841, 842, 843, 844, 845, 846, 847, 848, 849, 850, 851, 852] (by decide +kernel) (by decide +kernel)
set_option maxRecDepth 20000 in
theorem gL_law_X5_clearText : GoodIn wsL_law (wsV RL 113 RX5 yX5_clearText wsX5_clearText) := goodIn_app (goodIn_of _ (by decide +kernel)) ggL_law_X5_clearText
set_option maxRecDepth 20000 in
theorem ggL_law_X4_errorPosition : GoodIn wsL_law wsX4_errorPosition := goodIn_r _ [150, 22, 151, 152, 153, 21, 154, 155, 64, 62, 156, 157, 52, 53, 16, 54, 46, 55, 56, 57, 158, 159, 160, 161, 162, 163, 164, 165, 166, 25, 167, 70, 69, 168, 169, 170, 171, 172, 173, 174, 175, 176, 177, 178, 179, 180, 181, 182, 183, 47, 184, 185, 186, 187, 188, 189, 190, 191, 192, 193, 194, 195, 196, 197, 198, 199, 200, 201, 202, 203, 204, 41, 42, 43, 44, 45, 205, 206, 207, 208, 209, 829, 830, 831, 832, 833, 834, 835, 836, 837, 866, 867, 868, 869, 870, 853, 854, 855, 856, 857, 858, 859, 860, 861, 862, 863, 864, 865] (by decide +kernel) (by decide +kernel)
set_option maxRecDepth 20000 in
theorem gL_law_X4_errorPosition : GoodIn wsL_law (wsV RL 114 RX4 yX4_errorPosition wsX4_errorPosition) := goodIn_app (goodIn_of _ (by decide +kernel)) ggL_law_X4_errorPosition
set_option maxRecDepth 20000 in
theorem ggL_law_X5_errorPosition : GoodIn wsL_law wsX5_errorPosition := goodIn_r _ [213, 130, 214, 215, 216, 5, 217, 84, 218, 122, 83, 219, 220, 221, 222, 223, 224, 225, 226, 227, 123, 124, 125, 228, 229, 230, 231, 232, 233, 234, 235, 236, 237, 238, 239, 240, 241, 242, 243, 244, 245, 246, 247, 248, 249, 838, 839, 840, 841, 842, 843, 844, 845, 846, 847, 848, 849, 850, 851, 852] (by decide +kernel) (by decide +kernel)
set_option maxRecDepth 20000 in
theorem gL_law_X5_errorPosition : GoodIn wsL_law (wsV RL 117 RX5 yX5_errorPosition wsX5_errorPosition) := goodIn_app (goodIn_of _ (by decide +kernel)) ggL_law_X5_errorPosition
set_option maxRecDepth 20000 in
theorem ggL_law_L_load : GoodIn wsL_law wsL_load := goodIn_ca (goodIn_r _ [252, 98, 253, 254, 255, 2, 256, 105, 106, 22, 17, 257, 34, 33, 151, 152, 153, 21, 154, 155, 64, 62, 156, 157, 52, 53, 16, 54, 46, 55, 56, 57, 158, 159, 160, 161, 162, 163, 164, 165, 166, 25, 167, 70, 69, 168, 169, 170, 171, 172, 173, 174, 175, 176, 177, 178, 179, 180, 181, 182, 183, 47, 184, 185, 186, 187, 188, 189, 190, 191, 192, 193, 194, 195, 196, 197, 198, 199, 200, 201, 202, 203, 204, 41, 42, 43, 44, 45, 205, 206, 207, 208, 209, 258, 259, 260, 261, 262, 263, 264, 265, 48, 49, 50, 266, 829, 830, 831, 832, 833, 834, 835, 836, 837, 866, 867, 868, 869, 870, 853, 854, 855, 856, 857, 858, 859, 860, 861, 862, 863, 864, 865] (by decide +kernel) (by decide +kernel)) (goodIn_sub (fun _ h => List.mem_append_left _ (List.mem_append_right _ h)) (by decide +kernel))
set_option maxRecDepth 20000 in
theorem gL_law_L_load : GoodIn wsL_law (va_wsS RL 118 yL_load wsL_load) := goodIn_app (goodIn_of _ (by decide +kernel)) ggL_law_L_load
set_option maxRecDepth 20000 in
theorem ggL_law_X5_load : GoodIn wsL_law wsX5_load := goodIn_r _ [270, 219, 92, 84, 85, 271, 89, 214, 215, 216, 5, 217, 218, 122, 83, 220, 221, 222, 223, 224, 225, 226, 227, 123, 124, 125, 228, 229, 230, 231, 232, 233, 234, 235, 236, 237, 238, 239, 240, 241, 242, 243, 244, 245, 246, 247, 248, 249, 126, 127, 128, 129, 130, 272, 273, 274, 838, 839, 840, 841, 842, 843, 844, 845, 846, 847, 848, 849, 850, 851, 852] (by decide +kernel) (by decide +kernel)
set_option maxRecDepth 20000 in
theorem gL_law_X5_load : GoodIn wsL_law (wsV RL 121 RX5 yX5_load wsX5_load) := goodIn_app (goodIn_of _ (by decide +kernel)) ggL_law_X5_load
set_option maxRecDepth 20000 in
theorem ggL_law_L_about : GoodIn wsL_law wsL_about := goodIn_ca (goodIn_r _ [277, 97, 278, 279, 280, 2, 281, 103, 104, 17, 282, 283, 284, 285, 266, 193, 194, 16, 195, 196, 197, 198, 199, 46, 286, 829, 830, 831, 832, 833, 834, 835, 836, 837, 853, 854, 855, 856, 857, 858, 859, 860, 861, 862, 863, 864, 865] (by decide +kernel) (by decide +kernel)) (goodIn_sub (fun _ h => List.mem_append_left _ (List.mem_append_left _ (List.mem_append_right _ h))) (by decide +kernel))
set_option maxRecDepth 20000 in
theorem gL_law_L_about : GoodIn wsL_law (va_wsS RL 122 yL_about wsL_about) := goodIn_app (goodIn_of _ (by decide +kernel)) ggL_law_L_about
set_option maxRecDepth 20000 in
theorem ggL_law_X5_about : GoodIn wsL_law wsX5_about := goodIn_r _ [290, 291, 92, 85, 123, 124, 5, 125, 126, 127, 128, 129, 130, 232, 233, 234, 838, 839, 840, 841, 842, 843, 844, 845, 846, 847, 848, 849, 850, 851, 852] (by decide +kernel) (by decide +kernel)
set_option maxRecDepth 20000 in
theorem gL_law_X5_about : GoodIn wsL_law (wsV RL 124 RX5 yX5_about wsX5_about) := goodIn_app (goodIn_of _ (by decide +kernel)) ggL_law_X5_about
set_option maxRecDepth 20000 in
theorem ggL_law_L_grip : GoodIn wsL_law wsL_grip := goodIn_ca (goodIn_ca (goodIn_r _ [294, 295, 97, 296, 297, 298, 2, 299, 300, 301, 103, 104, 17, 302, 303, 304, 16, 305, 46, 306, 307, 308, 309, 310, 311, 312, 41, 42, 43, 44, 45, 47, 48, 829, 830, 831, 832, 833, 834, 835, 836, 837, 853, 854, 855, 856, 857, 858, 859, 860, 861, 862, 863, 864, 865] (by decide +kernel) (by decide +kernel)) (goodIn_sub (fun _ h => List.mem_append_right _ h) (by decide +kernel))) (goodIn_sub (fun _ h => List.mem_append_left _ (List.mem_append_left _ (List.mem_append_right _ h))) (by decide +kernel))
set_option maxRecDepth 20000 in
theorem gL_law_L_grip : GoodIn wsL_law (va_wsS RL 125 yL_grip wsL_grip) := goodIn_app (goodIn_of _ (by decide +kernel)) ggL_law_L_grip
set_option maxRecDepth 20000 in
theorem ggL_law_X5_grip : GoodIn wsL_law wsX5_grip := goodIn_r _ [316, 317, 85, 318, 319, 320, 5, 321, 123, 124, 125, 126, 127, 128, 129, 130, 322, 323, 324, 838, 839, 840, 841, 842, 843, 844, 845, 846, 847, 848, 849, 850, 851, 852] (by decide +kernel) (by decide +kernel)
set_option maxRecDepth 20000 in
theorem gL_law_X5_grip : GoodIn wsL_law (wsV RL 128 RX5 yX5_grip wsX5_grip) := goodIn_app (goodIn_of _ (by decide +kernel)) ggL_law_X5_grip
set_option maxRecDepth 20000 in
theorem ggL_law_L_slot : GoodIn wsL_law wsL_slot := goodIn_ca (goodIn_r _ [327, 295, 328, 329, 330, 2, 331, 300, 301, 17, 332, 333, 334, 16, 335, 50, 336, 181, 182, 183, 46, 47, 829, 830, 831, 832, 833, 834, 835, 836, 837, 853, 854, 855, 856, 857, 858, 859, 860, 861, 862, 863, 864, 865] (by decide +kernel) (by decide +kernel)) (goodIn_sub (fun _ h => List.mem_append_right _ h) (by decide +kernel))
set_option maxRecDepth 20000 in
theorem gL_law_L_slot : GoodIn wsL_law (va_wsS RL 129 yL_slot wsL_slot) := goodIn_app (goodIn_of _ (by decide +kernel)) ggL_law_L_slot
set_option maxRecDepth 20000 in
theorem ggL_law_X5_slot : GoodIn wsL_law wsX5_slot := goodIn_r _ [340, 85, 341, 342, 343, 5, 344, 92, 123, 124, 125, 126, 127, 128, 129, 130, 244, 245, 246, 838, 839, 840, 841, 842, 843, 844, 845, 846, 847, 848, 849, 850, 851, 852] (by decide +kernel) (by decide +kernel)
set_option maxRecDepth 20000 in
theorem gL_law_X5_slot : GoodIn wsL_law (wsV RL 131 RX5 yX5_slot wsX5_slot) := goodIn_app (goodIn_of _ (by decide +kernel)) ggL_law_X5_slot
set_option maxRecDepth 20000 in
theorem ggL_law_X4_random : GoodIn wsL_law wsX4_random := goodIn_r _ [348, 17, 349, 829, 830, 831, 832, 833, 834, 835, 836, 837, 853, 854, 855, 856, 857, 858, 859, 860, 861, 862, 863, 864, 865] (by decide +kernel) (by decide +kernel)
set_option maxRecDepth 20000 in
theorem gL_law_X4_random : GoodIn wsL_law (wsV RL 132 RX4 yX4_random wsX4_random) := goodIn_app (goodIn_of _ (by decide +kernel)) ggL_law_X4_random
set_option maxRecDepth 20000 in
theorem ggL_law_X5_random : GoodIn wsL_law wsX5_random := goodIn_r _ [353, 130, 85, 354, 355, 5, 356, 357, 838, 839, 840, 841, 842, 843, 844, 845, 846, 847, 848, 849, 850, 851, 852] (by decide +kernel) (by decide +kernel)
set_option maxRecDepth 20000 in
theorem gL_law_X5_random : GoodIn wsL_law (wsV RL 136 RX5 yX5_random wsX5_random) := goodIn_app (goodIn_of _ (by decide +kernel)) ggL_law_X5_random
set_option maxRecDepth 20000 in
theorem ggL_law_L_report : GoodIn wsL_law wsL_report := goodIn_ca (goodIn_r _ [360, 97, 361, 362, 363, 2, 364, 103, 104, 17, 26, 365, 366, 367, 16, 368, 46, 369, 140, 141, 25, 142, 70, 370, 371, 372, 373, 374, 47, 48, 375, 114, 115, 116, 69, 376, 377, 378, 379, 380, 381, 165, 166, 167, 829, 830, 831, 832, 833, 834, 835, 836, 837, 853, 854, 855, 856, 857, 858, 859, 860, 861, 862, 863, 864, 865, 869, 870] (by decide +kernel) (by decide +kernel)) (goodIn_sub (fun _ h => List.mem_append_left _ (List.mem_append_left _ (List.mem_append_right _ h))) (by decide +kernel))
set_option maxRecDepth 20000 in
theorem gL_law_L_report : GoodIn wsL_law (va_wsS RL 137 yL_report wsL_report) := goodIn_app (goodIn_of _ (by decide +kernel)) ggL_law_L_report
set_option maxRecDepth 20000 in
theorem ggL_law_X5_report : GoodIn wsL_law wsX5_report := goodIn_r _ [385, 91, 126, 127, 128, 5, 129, 130, 386, 387, 388, 389, 85, 838, 839, 840, 841, 842, 843, 844, 845, 846, 847, 848, 849, 850, 851, 852] (by decide +kernel) (by decide +kernel)
set_option maxRecDepth 20000 in
theorem gL_law_X5_report : GoodIn wsL_law (wsV RL 139 RX5 yX5_report wsX5_report) := goodIn_app (goodIn_of _ (by decide +kernel)) ggL_law_X5_report
set_option maxRecDepth 20000 in
theorem ggL_law_L_step : GoodIn wsL_law wsL_step := goodIn_ca (goodIn_r _ [392, 97, 393, 394, 395, 2, 396, 103, 104, 17, 397, 398, 399, 400, 401, 402, 403, 30, 35, 34, 404, 405, 406, 29, 407, 408, 409, 410, 411, 77, 412, 259, 260, 16, 261, 41, 262, 263, 264, 265, 42, 43, 44, 45, 46, 47, 48, 49, 50, 55, 56, 57, 413, 414, 415, 416, 417, 418, 419, 420, 421, 422, 423, 181, 182, 183, 424, 425, 426, 427, 428, 429, 430, 431, 432, 433, 434, 435, 436, 437, 438, 439, 440, 441, 442, 443, 444, 207, 208, 209, 286, 197, 198, 199, 829, 830, 831, 832, 833, 834, 835, 836, 837, 871, 853, 854, 855, 856, 857, 858, 859, 860, 861, 862, 863, 864, 865] (by decide +kernel) (by decide +kernel)) (goodIn_sub (fun _ h => List.mem_append_left _ (List.mem_append_left _ (List.mem_append_right _ h))) (by decide +kernel))
set_option maxRecDepth 20000 in
theorem gL_law_L_step : GoodIn wsL_law (va_wsS RL 140 yL_step wsL_step) := goodIn_app (goodIn_of _ (by decide +kernel)) ggL_law_L_step
set_option maxRecDepth 20000 in
theorem ggL_law_X5_step : GoodIn wsL_law wsX5_step := goodIn_r _ [448, 449, 85, 123, 124, 5, 125, 126, 127, 128, 129, 130, 450, 451, 452, 453, 271, 87, 272, 273, 274, 454, 455, 456, 457, 90, 458, 459, 460, 461, 92, 462, 463, 354, 355, 356, 357, 464, 465, 466, 244, 245, 246, 467, 468, 469, 470, 471, 472, 473, 474, 475, 476, 477, 478, 232, 233, 234, 838, 839, 840, 841, 842, 843, 844, 845, 846, 847, 848, 849, 850, 851, 852] (by decide +kernel) (by decide +kernel)
set_option maxRecDepth 20000 in
theorem gL_law_X5_step : GoodIn wsL_law (wsV RL 142 RX5 yX5_step wsX5_step) := goodIn_app (goodIn_of _ (by decide +kernel)) ggL_law_X5_step
set_option maxRecDepth 20000 in
theorem ggL_law_L_addGrip : GoodIn wsL_law wsL_addGrip := goodIn_ca (goodIn_ca (goodIn_r _ [481, 97, 98, 482, 483, 484, 2, 485, 103, 104, 105, 106, 17, 486, 487, 488, 16, 489, 196, 197, 198, 199, 46, 400, 401, 402, 403, 30, 35, 34, 404, 405, 406, 29, 407, 408, 409, 410, 411, 77, 412, 259, 260, 261, 41, 262, 263, 264, 265, 42, 43, 44, 45, 47, 48, 49, 50, 55, 56, 57, 490, 202, 203, 204, 205, 193, 194, 195, 266, 829, 830, 831, 832, 833, 834, 835, 836, 837, 853, 854, 855, 856, 857, 858, 859, 860, 861, 862, 863, 864, 865, 871] (by decide +kernel) (by decide +kernel)) (goodIn_sub (fun _ h => List.mem_append_left _ (List.mem_append_left _ (List.mem_append_right _ h))) (by decide +kernel))) (goodIn_sub (fun _ h => List.mem_append_left _ (List.mem_append_right _ h)) (by decide +kernel))
set_option maxRecDepth 20000 in
theorem gL_law_L_addGrip : GoodIn wsL_law (va_wsS RL 143 yL_addGrip wsL_addGrip) := goodIn_app (goodIn_of _ (by decide +kernel)) ggL_law_L_addGrip
set_option maxRecDepth 20000 in
theorem ggL_law_X5_addGrip : GoodIn wsL_law wsX5_addGrip := goodIn_r _ [494, 495, 85, 123, 124, 5, 125, 126, 127, 128, 129, 130, 450, 451, 452, 453, 271, 87, 272, 273, 274, 247, 248, 249, 838, 839, 840, 841, 842, 843, 844, 845, 846, 847, 848, 849, 850, 851, 852] (by decide +kernel) (by decide +kernel)
set_option maxRecDepth 20000 in
theorem gL_law_X5_addGrip : GoodIn wsL_law (wsV RL 145 RX5 yX5_addGrip wsX5_addGrip) := goodIn_app (goodIn_of _ (by decide +kernel)) ggL_law_X5_addGrip
set_option maxRecDepth 20000 in
theorem ggL_law_L_putOn : GoodIn wsL_law wsL_putOn := goodIn_ca (goodIn_ca (goodIn_r _ [498, 295, 98, 499, 500, 501, 2, 502, 300, 301, 105, 106, 17, 302, 303, 304, 16, 305, 46, 332, 333, 334, 335, 50, 503, 504, 505, 506, 507, 437, 438, 439, 47, 49, 440, 441, 442, 443, 400, 401, 402, 403, 30, 35, 34, 404, 405, 406, 29, 407, 408, 409, 410, 411, 77, 412, 259, 260, 261, 41, 262, 263, 264, 265, 42, 43, 44, 45, 48, 55, 56, 57, 508, 207, 208, 209, 286, 197, 198, 199, 829, 830, 831, 832, 833, 834, 835, 836, 837, 853, 854, 855, 856, 857, 858, 859, 860, 861, 862, 863, 864, 865, 871] (by decide +kernel) (by decide +kernel)) (goodIn_sub (fun _ h => List.mem_append_right _ h) (by decide +kernel))) (goodIn_sub (fun _ h => List.mem_append_left _ (List.mem_append_right _ h)) (by decide +kernel))
set_option maxRecDepth 20000 in
theorem gL_law_L_putOn : GoodIn wsL_law (va_wsS RL 146 yL_putOn wsL_putOn) := goodIn_app (goodIn_of _ (by decide +kernel)) ggL_law_L_putOn
set_option maxRecDepth 20000 in
theorem ggL_law_X5_putOn : GoodIn wsL_law wsX5_putOn := goodIn_r _ [512, 85, 318, 319, 320, 5, 321, 123, 124, 125, 341, 342, 343, 344, 92, 513, 514, 515, 516, 471, 472, 473, 474, 244, 245, 246, 475, 476, 477, 478, 126, 127, 128, 129, 130, 450, 451, 452, 453, 271, 87, 272, 273, 274, 517, 518, 519, 232, 233, 234, 838, 839, 840, 841, 842, 843, 844, 845, 846, 847, 848, 849, 850, 851, 852] (by decide +kernel) (by decide +kernel)
set_option maxRecDepth 20000 in
theorem gL_law_X5_putOn : GoodIn wsL_law (wsV RL 148 RX5 yX5_putOn wsX5_putOn) := goodIn_app (goodIn_of _ (by decide +kernel)) ggL_law_X5_putOn
set_option maxRecDepth 20000 in
theorem ggL_law_L_takeOff : GoodIn wsL_law wsL_takeOff := goodIn_ca (goodIn_ca (goodIn_r _ [522, 295, 98, 523, 524, 525, 2, 526, 300, 301, 105, 106, 17, 527, 302, 303, 304, 16, 305, 46, 503, 504, 505, 506, 400, 401, 402, 403, 30, 35, 34, 404, 405, 406, 29, 407, 408, 409, 410, 411, 77, 412, 259, 260, 261, 41, 262, 263, 264, 265, 42, 43, 44, 45, 47, 48, 49, 50, 55, 56, 57, 528, 529, 530, 531, 829, 830, 831, 832, 833, 834, 835, 836, 837, 853, 854, 855, 856, 857, 858, 859, 860, 861, 862, 863, 864, 865, 871] (by decide +kernel) (by decide +kernel)) (goodIn_sub (fun _ h => List.mem_append_right _ h) (by decide +kernel))) (goodIn_sub (fun _ h => List.mem_append_left _ (List.mem_append_right _ h)) (by decide +kernel))
set_option maxRecDepth 20000 in
theorem gL_law_L_takeOff : GoodIn wsL_law (va_wsS RL 149 yL_takeOff wsL_takeOff) := goodIn_app (goodIn_of _ (by decide +kernel)) ggL_law_L_takeOff
set_option maxRecDepth 20000 in
theorem ggL_law_X5_takeOff : GoodIn wsL_law wsX5_takeOff := goodIn_r _ [535, 85, 318, 319, 320, 5, 321, 123, 124, 125, 126, 127, 128, 129, 130, 450, 451, 452, 453, 271, 87, 272, 273, 274, 838, 839, 840, 841, 842, 843, 844, 845, 846, 847, 848, 849, 850, 851, 852] (by decide +kernel) (by decide +kernel)
set_option maxRecDepth 20000 in
theorem gL_law_X5_takeOff : GoodIn wsL_law (wsV RL 151 RX5 yX5_takeOff wsX5_takeOff) := goodIn_app (goodIn_of _ (by decide +kernel)) ggL_law_X5_takeOff
set_option maxRecDepth 20000 in
theorem ggL_law_L_scrap : GoodIn wsL_law wsL_scrap := goodIn_ca (goodIn_ca (goodIn_r _ [538, 295, 98, 539, 540, 541, 2, 542, 300, 301, 105, 106, 17, 543, 302, 303, 304, 16, 305, 46, 503, 504, 505, 506, 400, 401, 402, 403, 30, 35, 34, 404, 405, 406, 29, 407, 408, 409, 410, 411, 77, 412, 259, 260, 261, 41, 262, 263, 264, 265, 42, 43, 44, 45, 47, 48, 49, 50, 55, 56, 57, 528, 529, 530, 531, 829, 830, 831, 832, 833, 834, 835, 836, 837, 853, 854, 855, 856, 857, 858, 859, 860, 861, 862, 863, 864, 865, 871] (by decide +kernel) (by decide +kernel)) (goodIn_sub (fun _ h => List.mem_append_right _ h) (by decide +kernel))) (goodIn_sub (fun _ h => List.mem_append_left _ (List.mem_append_right _ h)) (by decide +kernel))
set_option maxRecDepth 20000 in
theorem gL_law_L_scrap : GoodIn wsL_law (va_wsS RL 152 yL_scrap wsL_scrap) := goodIn_app (goodIn_of _ (by decide +kernel)) ggL_law_L_scrap
set_option maxRecDepth 20000 in
theorem ggL_law_X5_scrap : GoodIn wsL_law wsX5_scrap := goodIn_r _ [547, 85, 318, 319, 320, 5, 321, 123, 124, 125, 126, 127, 128, 129, 130, 450, 451, 452, 453, 271, 87, 272, 273, 274, 838, 839, 840, 841, 842, 843, 844, 845, 846, 847, 848, 849, 850, 851, 852] (by decide +kernel) (by decide +kernel)
set_option maxRecDepth 20000 in
theorem gL_law_X5_scrap : GoodIn wsL_law (wsV RL 154 RX5 yX5_scrap wsX5_scrap) := goodIn_app (goodIn_of _ (by decide +kernel)) ggL_law_X5_scrap
