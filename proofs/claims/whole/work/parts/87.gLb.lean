set_option maxRecDepth 20000 in
theorem ggL_law_L_setLimit : GoodIn wsL_law wsL_setLimit := goodIn_ca (goodIn_r _ [550, 97, 551, 552, 553, 2, 554, 103, 104, 17, 285, 555, 556, 557, 558, 400, 401, 402, 403, 30, 35, 34, 404, 405, 406, 29, 407, 408, 409, 410, 411, 77, 412, 259, 260, 16, 261, 41, 262, 263, 264, 265, 42, 43, 44, 45, 46, 47, 48, 49, 50, 55, 56, 57, 829, 830, 831, 832, 833, 834, 835, 836, 837, 853, 854, 855, 856, 857, 858, 859, 860, 861, 862, 863, 864, 865, 871] (by decide +kernel) (by decide +kernel)) (goodIn_sub (fun _ h => List.mem_append_left _ (List.mem_append_left _ (List.mem_append_right _ h))) (by decide +kernel))
set_option maxRecDepth 20000 in
theorem gL_law_L_setLimit : GoodIn wsL_law (va_wsS RL 155 yL_setLimit wsL_setLimit) := goodIn_app (goodIn_of _ (by decide +kernel)) ggL_law_L_setLimit
set_option maxRecDepth 20000 in
theorem ggL_law_X5_setLimit : GoodIn wsL_law wsX5_setLimit := goodIn_r _ [562, 85, 563, 564, 5, 565, 566, 123, 124, 125, 126, 127, 128, 129, 130, 450, 451, 452, 453, 271, 87, 272, 273, 274, 838, 839, 840, 841, 842, 843, 844, 845, 846, 847, 848, 849, 850, 851, 852] (by decide +kernel) (by decide +kernel)
set_option maxRecDepth 20000 in
theorem gL_law_X5_setLimit : GoodIn wsL_law (wsV RL 157 RX5 yX5_setLimit wsX5_setLimit) := goodIn_app (goodIn_of _ (by decide +kernel)) ggL_law_X5_setLimit
set_option maxRecDepth 20000 in
theorem ggL_law_X4_setRandom : GoodIn wsL_law wsX4_setRandom := goodIn_r _ [570, 17, 349, 400, 401, 402, 2, 403, 30, 35, 34, 404, 405, 406, 29, 407, 408, 409, 410, 411, 77, 412, 259, 260, 16, 261, 41, 262, 263, 264, 265, 42, 43, 44, 45, 46, 47, 48, 49, 50, 55, 56, 57, 829, 830, 831, 832, 833, 834, 835, 836, 837, 853, 854, 855, 856, 857, 858, 859, 860, 861, 862, 863, 864, 865, 871] (by decide +kernel) (by decide +kernel)
set_option maxRecDepth 20000 in
theorem gL_law_X4_setRandom : GoodIn wsL_law (wsV RL 160 RX4 yX4_setRandom wsX4_setRandom) := goodIn_app (goodIn_of _ (by decide +kernel)) ggL_law_X4_setRandom
set_option maxRecDepth 20000 in
theorem ggL_law_X5_setRandom : GoodIn wsL_law wsX5_setRandom := goodIn_r _ [574, 130, 85, 450, 451, 452, 5, 453, 271, 87, 272, 273, 274, 354, 355, 356, 357, 464, 465, 466, 838, 839, 840, 841, 842, 843, 844, 845, 846, 847, 848, 849, 850, 851, 852] (by decide +kernel) (by decide +kernel)
set_option maxRecDepth 20000 in
theorem gL_law_X5_setRandom : GoodIn wsL_law (wsV RL 164 RX5 yX5_setRandom wsX5_setRandom) := goodIn_app (goodIn_of _ (by decide +kernel)) ggL_law_X5_setRandom
set_option maxRecDepth 20000 in
theorem ggL_law_L_undo : GoodIn wsL_law wsL_undo := goodIn_ca (goodIn_r _ [577, 98, 578, 579, 580, 2, 581, 105, 106, 34, 35, 30, 17, 582, 583, 584, 29, 585, 408, 409, 410, 411, 77, 412, 259, 260, 16, 261, 41, 262, 263, 264, 265, 42, 43, 44, 45, 46, 47, 48, 49, 50, 55, 56, 57, 829, 830, 831, 832, 833, 834, 835, 836, 837, 871, 853, 854, 855, 856, 857, 858, 859, 860, 861, 862, 863, 864, 865] (by decide +kernel) (by decide +kernel)) (goodIn_sub (fun _ h => List.mem_append_left _ (List.mem_append_right _ h)) (by decide +kernel))
set_option maxRecDepth 20000 in
theorem gL_law_L_undo : GoodIn wsL_law (va_wsS RL 165 yL_undo wsL_undo) := goodIn_app (goodIn_of _ (by decide +kernel)) ggL_law_L_undo
set_option maxRecDepth 20000 in
theorem ggL_law_X5_undo : GoodIn wsL_law wsX5_undo := goodIn_r _ [589, 271, 87, 85, 126, 127, 128, 5, 129, 130, 272, 273, 274, 838, 839, 840, 841, 842, 843, 844, 845, 846, 847, 848, 849, 850, 851, 852] (by decide +kernel) (by decide +kernel)
set_option maxRecDepth 20000 in
theorem gL_law_X5_undo : GoodIn wsL_law (wsV RL 167 RX5 yX5_undo wsX5_undo) := goodIn_app (goodIn_of _ (by decide +kernel)) ggL_law_X5_undo
set_option maxRecDepth 20000 in
theorem ggL_law_L_gap : GoodIn wsL_law wsL_gap := goodIn_ca (goodIn_r _ [592, 295, 593, 594, 595, 2, 596, 300, 301, 17, 302, 303, 304, 16, 305, 46, 503, 504, 505, 506, 597, 598, 599, 600, 50, 47, 601, 602, 603, 604, 605, 606, 607, 608, 829, 830, 831, 832, 833, 834, 835, 836, 837, 853, 854, 855, 856, 857, 858, 859, 860, 861, 862, 863, 864, 865] (by decide +kernel) (by decide +kernel)) (goodIn_sub (fun _ h => List.mem_append_right _ h) (by decide +kernel))
set_option maxRecDepth 20000 in
theorem gL_law_L_gap : GoodIn wsL_law (va_wsS RL 168 yL_gap wsL_gap) := goodIn_app (goodIn_of _ (by decide +kernel)) ggL_law_L_gap
set_option maxRecDepth 20000 in
theorem ggL_law_X5_gap : GoodIn wsL_law wsX5_gap := goodIn_r _ [612, 85, 318, 319, 320, 5, 321, 123, 124, 125, 126, 127, 128, 129, 130, 613, 614, 615, 616, 92, 244, 245, 246, 838, 839, 840, 841, 842, 843, 844, 845, 846, 847, 848, 849, 850, 851, 852] (by decide +kernel) (by decide +kernel)
set_option maxRecDepth 20000 in
theorem gL_law_X5_gap : GoodIn wsL_law (wsV RL 170 RX5 yX5_gap wsX5_gap) := goodIn_app (goodIn_of _ (by decide +kernel)) ggL_law_X5_gap
set_option maxRecDepth 20000 in
theorem ggL_law_L_room : GoodIn wsL_law wsL_room := goodIn_ca (goodIn_r _ [619, 97, 620, 621, 622, 2, 623, 103, 104, 17, 624, 625, 626, 16, 627, 50, 436, 437, 438, 439, 46, 47, 49, 440, 441, 442, 443, 628, 629, 630, 631, 632, 598, 599, 600, 601, 602, 603, 604, 605, 606, 607, 608, 633, 634, 635, 636, 829, 830, 831, 832, 833, 834, 835, 836, 837, 853, 854, 855, 856, 857, 858, 859, 860, 861, 862, 863, 864, 865] (by decide +kernel) (by decide +kernel)) (goodIn_sub (fun _ h => List.mem_append_left _ (List.mem_append_left _ (List.mem_append_right _ h))) (by decide +kernel))
set_option maxRecDepth 20000 in
theorem gL_law_L_room : GoodIn wsL_law (va_wsS RL 171 yL_room wsL_room) := goodIn_app (goodIn_of _ (by decide +kernel)) ggL_law_L_room
set_option maxRecDepth 20000 in
theorem ggL_law_X5_room : GoodIn wsL_law wsX5_room := goodIn_r _ [640, 641, 92, 85, 123, 124, 5, 125, 126, 127, 128, 129, 130, 471, 472, 473, 474, 244, 245, 246, 475, 476, 477, 478, 613, 614, 615, 616, 838, 839, 840, 841, 842, 843, 844, 845, 846, 847, 848, 849, 850, 851, 852] (by decide +kernel) (by decide +kernel)
set_option maxRecDepth 20000 in
theorem gL_law_X5_room : GoodIn wsL_law (wsV RL 173 RX5 yX5_room wsX5_room) := goodIn_app (goodIn_of _ (by decide +kernel)) ggL_law_X5_room
set_option maxRecDepth 20000 in
theorem ggL_law_L_groups : GoodIn wsL_law wsL_groups := goodIn_ca (goodIn_r _ [644, 97, 645, 646, 647, 2, 648, 103, 104, 17, 649, 650, 651, 16, 652, 653, 654, 655, 656, 41, 42, 657, 658, 659, 660, 46, 661, 662, 663, 664, 829, 830, 831, 832, 833, 834, 835, 836, 837, 853, 854, 855, 856, 857, 858, 859, 860, 861, 862, 863, 864, 865] (by decide +kernel) (by decide +kernel)) (goodIn_sub (fun _ h => List.mem_append_left _ (List.mem_append_left _ (List.mem_append_right _ h))) (by decide +kernel))
set_option maxRecDepth 20000 in
theorem gL_law_L_groups : GoodIn wsL_law (va_wsS RL 174 yL_groups wsL_groups) := goodIn_app (goodIn_of _ (by decide +kernel)) ggL_law_L_groups
set_option maxRecDepth 20000 in
theorem ggL_law_X5_groups : GoodIn wsL_law wsX5_groups := goodIn_r _ [668, 641, 85, 123, 124, 5, 125, 126, 127, 128, 129, 130, 669, 670, 671, 672, 838, 839, 840, 841, 842, 843, 844, 845, 846, 847, 848, 849, 850, 851, 852] (by decide +kernel) (by decide +kernel)
set_option maxRecDepth 20000 in
theorem gL_law_X5_groups : GoodIn wsL_law (wsV RL 176 RX5 yX5_groups wsX5_groups) := goodIn_app (goodIn_of _ (by decide +kernel)) ggL_law_X5_groups
set_option maxRecDepth 20000 in
theorem ggL_law_L_dueAfter : GoodIn wsL_law wsL_dueAfter := goodIn_ca (goodIn_r _ [675, 295, 676, 677, 678, 2, 679, 300, 301, 17, 302, 303, 304, 16, 305, 46, 503, 504, 505, 506, 680, 681, 682, 683, 49, 42, 684, 685, 603, 686, 55, 47, 50, 605, 606, 607, 608, 829, 830, 831, 832, 833, 834, 835, 836, 837, 853, 854, 855, 856, 857, 858, 859, 860, 861, 862, 863, 864, 865] (by decide +kernel) (by decide +kernel)) (goodIn_sub (fun _ h => List.mem_append_right _ h) (by decide +kernel))
set_option maxRecDepth 20000 in
theorem gL_law_L_dueAfter : GoodIn wsL_law (va_wsS RL 177 yL_dueAfter wsL_dueAfter) := goodIn_app (goodIn_of _ (by decide +kernel)) ggL_law_L_dueAfter
set_option maxRecDepth 20000 in
theorem ggL_law_X5_dueAfter : GoodIn wsL_law wsX5_dueAfter := goodIn_r _ [690, 85, 92, 318, 319, 320, 5, 321, 123, 124, 125, 126, 127, 128, 129, 130, 838, 839, 840, 841, 842, 843, 844, 845, 846, 847, 848, 849, 850, 851, 852] (by decide +kernel) (by decide +kernel)
set_option maxRecDepth 20000 in
theorem gL_law_X5_dueAfter : GoodIn wsL_law (wsV RL 179 RX5 yX5_dueAfter wsX5_dueAfter) := goodIn_app (goodIn_of _ (by decide +kernel)) ggL_law_X5_dueAfter
set_option maxRecDepth 20000 in
theorem ggL_law_L_chance : GoodIn wsL_law wsL_chance := goodIn_ca (goodIn_r _ [693, 97, 694, 695, 696, 2, 697, 103, 104, 17, 285, 829, 830, 831, 832, 833, 834, 835, 836, 837, 853, 854, 855, 856, 857, 858, 859, 860, 861, 862, 863, 864, 865] (by decide +kernel) (by decide +kernel)) (goodIn_sub (fun _ h => List.mem_append_left _ (List.mem_append_left _ (List.mem_append_right _ h))) (by decide +kernel))
set_option maxRecDepth 20000 in
theorem gL_law_L_chance : GoodIn wsL_law (va_wsS RL 180 yL_chance wsL_chance) := goodIn_app (goodIn_of _ (by decide +kernel)) ggL_law_L_chance
set_option maxRecDepth 20000 in
theorem ggL_law_X5_chance : GoodIn wsL_law wsX5_chance := goodIn_r _ [701, 239, 85, 123, 124, 5, 125, 126, 127, 128, 129, 130, 838, 839, 840, 841, 842, 843, 844, 845, 846, 847, 848, 849, 850, 851, 852] (by decide +kernel) (by decide +kernel)
set_option maxRecDepth 20000 in
theorem gL_law_X5_chance : GoodIn wsL_law (wsV RL 183 RX5 yX5_chance wsX5_chance) := goodIn_app (goodIn_of _ (by decide +kernel)) ggL_law_X5_chance
set_option maxRecDepth 20000 in
theorem ggL_law_L_ahead : GoodIn wsL_law wsL_ahead := goodIn_ca (goodIn_ca (goodIn_r _ [704, 295, 97, 705, 706, 707, 2, 708, 300, 301, 103, 104, 17, 18, 302, 303, 304, 16, 305, 46, 306, 307, 308, 258, 259, 260, 261, 41, 262, 263, 264, 265, 42, 43, 44, 45, 47, 48, 49, 50, 55, 56, 57, 413, 414, 415, 416, 417, 418, 419, 420, 421, 422, 423, 181, 182, 183, 424, 425, 426, 427, 428, 429, 430, 431, 432, 433, 434, 435, 436, 437, 438, 439, 440, 441, 442, 443, 444, 207, 208, 209, 309, 310, 311, 312, 829, 830, 831, 832, 833, 834, 835, 836, 837, 853, 854, 855, 856, 857, 858, 859, 860, 861, 862, 863, 864, 865] (by decide +kernel) (by decide +kernel)) (goodIn_sub (fun _ h => List.mem_append_right _ h) (by decide +kernel))) (goodIn_sub (fun _ h => List.mem_append_left _ (List.mem_append_left _ (List.mem_append_right _ h))) (by decide +kernel))
set_option maxRecDepth 20000 in
theorem gL_law_L_ahead : GoodIn wsL_law (va_wsS RL 184 yL_ahead wsL_ahead) := goodIn_app (goodIn_of _ (by decide +kernel)) ggL_law_L_ahead
set_option maxRecDepth 20000 in
theorem ggL_law_X5_ahead : GoodIn wsL_law wsX5_ahead := goodIn_r _ [712, 449, 317, 85, 86, 318, 319, 320, 5, 321, 123, 124, 125, 126, 127, 128, 129, 130, 272, 273, 274, 454, 455, 456, 457, 90, 458, 459, 460, 461, 92, 462, 463, 354, 355, 356, 357, 464, 465, 466, 244, 245, 246, 467, 468, 469, 470, 471, 472, 473, 474, 475, 476, 477, 478, 322, 323, 324, 838, 839, 840, 841, 842, 843, 844, 845, 846, 847, 848, 849, 850, 851, 852] (by decide +kernel) (by decide +kernel)
set_option maxRecDepth 20000 in
theorem gL_law_X5_ahead : GoodIn wsL_law (wsV RL 187 RX5 yX5_ahead wsX5_ahead) := goodIn_app (goodIn_of _ (by decide +kernel)) ggL_law_X5_ahead
set_option maxRecDepth 20000 in
theorem ggL_law_L_happens : GoodIn wsL_law wsL_happens := goodIn_ca (goodIn_r _ [715, 97, 716, 717, 718, 2, 719, 103, 104, 18, 17, 397, 398, 399, 258, 259, 260, 16, 261, 41, 262, 263, 264, 265, 42, 43, 44, 45, 46, 47, 48, 49, 50, 55, 56, 57, 720, 418, 419, 420, 421, 422, 423, 181, 182, 183, 424, 425, 426, 427, 428, 429, 430, 431, 432, 433, 434, 435, 436, 437, 438, 439, 440, 441, 442, 443, 444, 207, 208, 209, 829, 830, 831, 832, 833, 834, 835, 836, 837, 853, 854, 855, 856, 857, 858, 859, 860, 861, 862, 863, 864, 865] (by decide +kernel) (by decide +kernel)) (goodIn_sub (fun _ h => List.mem_append_left _ (List.mem_append_left _ (List.mem_append_right _ h))) (by decide +kernel))
set_option maxRecDepth 20000 in
theorem gL_law_L_happens : GoodIn wsL_law (va_wsS RL 188 yL_happens wsL_happens) := goodIn_app (goodIn_of _ (by decide +kernel)) ggL_law_L_happens
set_option maxRecDepth 20000 in
theorem ggL_law_X5_happens : GoodIn wsL_law wsX5_happens := goodIn_r _ [724, 449, 495, 85, 86, 90, 123, 124, 5, 125, 126, 127, 128, 129, 130, 272, 273, 274, 454, 455, 456, 457, 458, 459, 460, 461, 92, 462, 463, 354, 355, 356, 357, 464, 465, 466, 244, 245, 246, 467, 468, 469, 470, 471, 472, 473, 474, 475, 476, 477, 478, 838, 839, 840, 841, 842, 843, 844, 845, 846, 847, 848, 849, 850, 851, 852] (by decide +kernel) (by decide +kernel)
set_option maxRecDepth 20000 in
theorem gL_law_X5_happens : GoodIn wsL_law (wsV RL 190 RX5 yX5_happens wsX5_happens) := goodIn_app (goodIn_of _ (by decide +kernel)) ggL_law_X5_happens
set_option maxRecDepth 20000 in
theorem ggL_law_L_bestLimit : GoodIn wsL_law wsL_bestLimit := goodIn_ca (goodIn_r _ [727, 97, 728, 729, 730, 2, 731, 103, 104, 558, 397, 398, 399, 732, 733, 734, 735, 18, 17, 285, 258, 259, 260, 16, 261, 41, 262, 263, 264, 265, 42, 43, 44, 45, 46, 47, 48, 49, 50, 55, 56, 57, 720, 418, 419, 420, 421, 422, 423, 181, 182, 183, 424, 425, 426, 427, 428, 429, 430, 431, 432, 433, 434, 435, 436, 437, 438, 439, 440, 441, 442, 443, 444, 207, 208, 209, 829, 830, 831, 832, 833, 834, 835, 836, 837, 853, 854, 855, 856, 857, 858, 859, 860, 861, 862, 863, 864, 865] (by decide +kernel) (by decide +kernel)) (goodIn_sub (fun _ h => List.mem_append_left _ (List.mem_append_left _ (List.mem_append_right _ h))) (by decide +kernel))
set_option maxRecDepth 20000 in
theorem gL_law_L_bestLimit : GoodIn wsL_law (va_wsS RL 191 yL_bestLimit wsL_bestLimit) := goodIn_app (goodIn_of _ (by decide +kernel)) ggL_law_L_bestLimit
set_option maxRecDepth 20000 in
theorem ggL_law_X5_bestLimit : GoodIn wsL_law wsX5_bestLimit := goodIn_r _ [739, 449, 85, 86, 90, 123, 124, 5, 125, 126, 127, 128, 129, 130, 272, 273, 274, 454, 455, 456, 457, 458, 459, 460, 461, 92, 462, 463, 354, 355, 356, 357, 464, 465, 466, 244, 245, 246, 467, 468, 469, 470, 471, 472, 473, 474, 475, 476, 477, 478, 838, 839, 840, 841, 842, 843, 844, 845, 846, 847, 848, 849, 850, 851, 852] (by decide +kernel) (by decide +kernel)
set_option maxRecDepth 20000 in
theorem gL_law_X5_bestLimit : GoodIn wsL_law (wsV RL 193 RX5 yX5_bestLimit wsX5_bestLimit) := goodIn_app (goodIn_of _ (by decide +kernel)) ggL_law_X5_bestLimit
set_option maxRecDepth 20000 in
theorem ggL_law_X4_emptyAfter : GoodIn wsL_law wsX4_emptyAfter := goodIn_r _ [743, 18, 17, 258, 259, 260, 16, 261, 41, 262, 263, 264, 265, 42, 43, 44, 45, 46, 47, 48, 49, 50, 55, 56, 57, 286, 197, 198, 199, 720, 418, 419, 420, 421, 422, 423, 181, 182, 183, 424, 425, 426, 427, 428, 429, 430, 431, 432, 433, 434, 435, 436, 437, 438, 439, 440, 441, 442, 443, 444, 207, 208, 209, 829, 830, 831, 832, 833, 834, 835, 836, 837, 853, 854, 855, 856, 857, 858, 859, 860, 861, 862, 863, 864, 865] (by decide +kernel) (by decide +kernel)
set_option maxRecDepth 20000 in
theorem gL_law_X4_emptyAfter : GoodIn wsL_law (wsV RL 194 RX4 yX4_emptyAfter wsX4_emptyAfter) := goodIn_app (goodIn_of _ (by decide +kernel)) ggL_law_X4_emptyAfter
set_option maxRecDepth 20000 in
theorem ggL_law_X5_emptyAfter : GoodIn wsL_law wsX5_emptyAfter := goodIn_r _ [747, 130, 85, 86, 272, 273, 5, 274, 232, 233, 234, 458, 459, 460, 461, 92, 462, 463, 90, 354, 355, 356, 357, 464, 465, 466, 244, 245, 246, 467, 468, 469, 470, 471, 472, 473, 474, 475, 476, 477, 478, 838, 839, 840, 841, 842, 843, 844, 845, 846, 847, 848, 849, 850, 851, 852] (by decide +kernel) (by decide +kernel)
set_option maxRecDepth 20000 in
theorem gL_law_X5_emptyAfter : GoodIn wsL_law (wsV RL 197 RX5 yX5_emptyAfter wsX5_emptyAfter) := goodIn_app (goodIn_of _ (by decide +kernel)) ggL_law_X5_emptyAfter
set_option maxRecDepth 20000 in
theorem ggL_law_L_runScript : GoodIn wsL_law wsL_runScript := goodIn_ca (goodIn_r _ [750, 97, 751, 752, 753, 2, 754, 103, 104, 18, 17, 755, 756, 757, 758, 258, 259, 260, 16, 261, 41, 262, 263, 264, 265, 42, 43, 44, 45, 46, 47, 48, 49, 50, 55, 56, 57, 759, 760, 761, 762, 763, 764, 765, 766, 527, 397, 398, 399, 413, 414, 415, 416, 417, 418, 419, 420, 421, 422, 423, 181, 182, 183, 424, 425, 426, 427, 428, 429, 430, 431, 432, 433, 434, 435, 436, 437, 438, 439, 440, 441, 442, 443, 444, 207, 208, 209, 767, 768, 769, 770, 302, 303, 304, 305, 332, 333, 334, 335, 503, 504, 505, 506, 507, 508, 771, 772, 773, 774, 528, 529, 530, 531, 775, 776, 777, 778, 285, 555, 556, 557, 558, 286, 197, 198, 199, 829, 830, 831, 832, 833, 834, 835, 836, 837, 853, 854, 855, 856, 857, 858, 859, 860, 861, 862, 863, 864, 865] (by decide +kernel) (by decide +kernel)) (goodIn_sub (fun _ h => List.mem_append_left _ (List.mem_append_left _ (List.mem_append_right _ h))) (by decide +kernel))
set_option maxRecDepth 20000 in
theorem gL_law_L_runScript : GoodIn wsL_law (va_wsS RL 198 yL_runScript wsL_runScript) := goodIn_app (goodIn_of _ (by decide +kernel)) ggL_law_L_runScript
set_option maxRecDepth 20000 in
theorem ggL_law_X5_runScript : GoodIn wsL_law wsX5_runScript := goodIn_r _ [782, 495, 85, 86, 783, 123, 124, 5, 125, 784, 785, 786, 787, 126, 127, 128, 129, 130, 272, 273, 274, 788, 789, 790, 791, 454, 455, 456, 457, 90, 458, 459, 460, 461, 92, 462, 463, 354, 355, 356, 357, 464, 465, 466, 244, 245, 246, 467, 468, 469, 470, 471, 472, 473, 474, 475, 476, 477, 478, 341, 342, 343, 344, 513, 514, 515, 516, 517, 518, 519, 563, 564, 565, 566, 232, 233, 234, 838, 839, 840, 841, 842, 843, 844, 845, 846, 847, 848, 849, 850, 851, 852] (by decide +kernel) (by decide +kernel)
set_option maxRecDepth 20000 in
theorem gL_law_X5_runScript : GoodIn wsL_law (wsV RL 201 RX5 yX5_runScript wsX5_runScript) := goodIn_app (goodIn_of _ (by decide +kernel)) ggL_law_X5_runScript
set_option maxRecDepth 20000 in
theorem ggL_law_L_simulate : GoodIn wsL_law wsL_simulate := goodIn_ca (goodIn_r _ [794, 97, 795, 796, 797, 2, 798, 103, 104, 18, 17, 349, 397, 398, 399, 258, 259, 260, 16, 261, 41, 262, 263, 264, 265, 42, 43, 44, 45, 46, 47, 48, 49, 50, 55, 56, 57, 413, 414, 415, 416, 417, 418, 419, 420, 421, 422, 423, 181, 182, 183, 424, 425, 426, 427, 428, 429, 430, 431, 432, 433, 434, 435, 436, 437, 438, 439, 440, 441, 442, 443, 444, 207, 208, 209, 799, 800, 801, 802, 286, 197, 198, 199, 829, 830, 831, 832, 833, 834, 835, 836, 837, 853, 854, 855, 856, 857, 858, 859, 860, 861, 862, 863, 864, 865] (by decide +kernel) (by decide +kernel)) (goodIn_sub (fun _ h => List.mem_append_left _ (List.mem_append_left _ (List.mem_append_right _ h))) (by decide +kernel))
set_option maxRecDepth 20000 in
theorem gL_law_L_simulate : GoodIn wsL_law (va_wsS RL 202 yL_simulate wsL_simulate) := goodIn_app (goodIn_of _ (by decide +kernel)) ggL_law_L_simulate
set_option maxRecDepth 20000 in
theorem ggL_law_X5_simulate : GoodIn wsL_law wsX5_simulate := goodIn_r _ [806, 449, 85, 86, 123, 124, 5, 125, 126, 127, 128, 129, 130, 272, 273, 274, 464, 465, 466, 454, 455, 456, 457, 90, 458, 459, 460, 461, 92, 462, 463, 354, 355, 356, 357, 244, 245, 246, 467, 468, 469, 470, 471, 472, 473, 474, 475, 476, 477, 478, 232, 233, 234, 838, 839, 840, 841, 842, 843, 844, 845, 846, 847, 848, 849, 850, 851, 852] (by decide +kernel) (by decide +kernel)
set_option maxRecDepth 20000 in
theorem gL_law_X5_simulate : GoodIn wsL_law (wsV RL 205 RX5 yX5_simulate wsX5_simulate) := goodIn_app (goodIn_of _ (by decide +kernel)) ggL_law_X5_simulate
set_option maxRecDepth 20000 in
theorem ggL_law_L_save : GoodIn wsL_law wsL_save := goodIn_ca (goodIn_r _ [809, 295, 810, 811, 812, 2, 813, 300, 301, 31, 17, 33, 284, 404, 405, 406, 29, 407, 408, 409, 410, 411, 77, 412, 259, 260, 16, 261, 41, 262, 263, 264, 265, 42, 43, 44, 45, 46, 47, 48, 49, 50, 55, 56, 57, 829, 830, 831, 832, 833, 834, 835, 836, 837, 853, 854, 855, 856, 857, 858, 859, 860, 861, 862, 863, 864, 865, 871] (by decide +kernel) (by decide +kernel)) (goodIn_sub (fun _ h => List.mem_append_right _ h) (by decide +kernel))
set_option maxRecDepth 20000 in
theorem gL_law_L_save : GoodIn wsL_law (va_wsS RL 206 yL_save wsL_save) := goodIn_app (goodIn_of _ (by decide +kernel)) ggL_law_L_save
set_option maxRecDepth 20000 in
theorem ggL_law_X5_save : GoodIn wsL_law wsX5_save := goodIn_r _ [817, 89, 85, 88, 123, 124, 5, 125, 126, 127, 128, 129, 130, 272, 273, 274, 838, 839, 840, 841, 842, 843, 844, 845, 846, 847, 848, 849, 850, 851, 852] (by decide +kernel) (by decide +kernel)
set_option maxRecDepth 20000 in
theorem gL_law_X5_save : GoodIn wsL_law (wsV RL 208 RX5 yX5_save wsX5_save) := goodIn_app (goodIn_of _ (by decide +kernel)) ggL_law_X5_save
set_option maxRecDepth 20000 in
theorem ggL_law_L_restore : GoodIn wsL_law wsL_restore := goodIn_ca (goodIn_ca (goodIn_r _ [820, 295, 98, 821, 822, 823, 2, 824, 300, 301, 105, 106, 33, 31, 17, 34, 284, 582, 583, 584, 29, 585, 408, 409, 410, 411, 77, 412, 259, 260, 16, 261, 41, 262, 263, 264, 265, 42, 43, 44, 45, 46, 47, 48, 49, 50, 55, 56, 57, 829, 830, 831, 832, 833, 834, 835, 836, 837, 853, 854, 855, 856, 857, 858, 859, 860, 861, 862, 863, 864, 865, 871] (by decide +kernel) (by decide +kernel)) (goodIn_sub (fun _ h => List.mem_append_right _ h) (by decide +kernel))) (goodIn_sub (fun _ h => List.mem_append_left _ (List.mem_append_right _ h)) (by decide +kernel))
set_option maxRecDepth 20000 in
theorem gL_law_L_restore : GoodIn wsL_law (va_wsS RL 209 yL_restore wsL_restore) := goodIn_app (goodIn_of _ (by decide +kernel)) ggL_law_L_restore
set_option maxRecDepth 20000 in
theorem ggL_law_X5_restore : GoodIn wsL_law wsX5_restore := goodIn_r _ [828, 89, 88, 85, 271, 123, 124, 5, 125, 126, 127, 128, 129, 130, 272, 273, 274, 838, 839, 840, 841, 842, 843, 844, 845, 846, 847, 848, 849, 850, 851, 852] (by decide +kernel) (by decide +kernel)
set_option maxRecDepth 20000 in
theorem gL_law_X5_restore : GoodIn wsL_law (wsV RL 211 RX5 yX5_restore wsX5_restore) := goodIn_app (goodIn_of _ (by decide +kernel)) ggL_law_X5_restore
