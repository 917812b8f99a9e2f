set_option maxRecDepth 100000 in
theorem in_wsL_law0_r15 : ∀ w ∈ wsL_law0_r15, w ∈ lw_tbl := fun w h => (goodIn_r wsL_law0_r15 [495, 913, 914, 915, 916, 917, 919, 22, 920, 268, 269, 270, 271, 89, 921, 922, 923, 924, 925, 926, 927, 928, 496, 497] (by decide +kernel) (by decide +kernel) w h).1
set_option maxRecDepth 100000 in
theorem in_wsL_law0_r16 : ∀ w ∈ wsL_law0_r16, w ∈ lw_tbl := fun w h => (goodIn_r wsL_law0_r16 [498, 499, 500, 501, 502, 504, 505, 506, 507, 508, 509, 510, 511, 512, 134, 513, 514, 515, 516, 517, 518, 519, 929, 930] (by decide +kernel) (by decide +kernel) w h).1
set_option maxRecDepth 100000 in
theorem in_wsL_law0_r17 : ∀ w ∈ wsL_law0_r17, w ∈ lw_tbl := fun w h => (goodIn_r wsL_law0_r17 [931, 932, 933, 935, 23, 936, 520, 521, 522, 523, 524, 525, 526, 527, 528, 529, 276, 278, 6, 279, 280, 281, 282, 283] (by decide +kernel) (by decide +kernel) w h).1
set_option maxRecDepth 100000 in
theorem in_wsL_law0_r18 : ∀ w ∈ wsL_law0_r18, w ∈ lw_tbl := fun w h => (goodIn_r wsL_law0_r18 [284, 286, 7, 287, 288, 531, 532, 533, 534, 535, 302, 303, 304, 305, 306, 307, 308, 309, 310, 311, 312, 313, 314, 315] (by decide +kernel) (by decide +kernel) w h).1
set_option maxRecDepth 100000 in
theorem in_wsL_law0_r19 : ∀ w ∈ wsL_law0_r19, w ∈ lw_tbl := fun w h => (goodIn_r wsL_law0_r19 [316, 317, 318, 319, 320, 321, 322, 323, 324, 325, 326, 327, 328, 937, 938, 939, 940, 941, 942, 944, 24, 945, 946, 948] (by decide +kernel) (by decide +kernel) w h).1
set_option maxRecDepth 100000 in
theorem in_wsL_law0_r20 : ∀ w ∈ wsL_law0_r20, w ∈ lw_tbl := fun w h => (goodIn_r wsL_law0_r20 [25, 949, 950, 952, 26, 953, 954, 955, 956, 957, 958, 959, 961, 27, 962, 963, 965, 28, 966, 967, 969, 29, 970, 536] (by decide +kernel) (by decide +kernel) w h).1
set_option maxRecDepth 100000 in
theorem in_wsL_law0_r21 : ∀ w ∈ wsL_law0_r21, w ∈ lw_tbl := fun w h => (goodIn_r wsL_law0_r21 [537, 538, 539, 540, 541, 542, 544, 545, 546, 547, 549, 971, 972, 973, 974, 975, 550, 551, 552, 553, 554, 555, 556, 558] (by decide +kernel) (by decide +kernel) w h).1
set_option maxRecDepth 100000 in
theorem in_wsL_law0_r22 : ∀ w ∈ wsL_law0_r22, w ∈ lw_tbl := fun w h => (goodIn_r wsL_law0_r22 [559, 560, 561, 562, 564, 976, 977, 978, 979, 980, 982, 30, 983, 984, 985, 986, 565, 566, 567, 568, 569, 570, 571, 76] (by decide +kernel) (by decide +kernel) w h).1
set_option maxRecDepth 100000 in
theorem in_wsL_law0_r23 : ∀ w ∈ wsL_law0_r23, w ∈ lw_tbl := fun w h => (goodIn_r wsL_law0_r23 [573, 574, 575, 576, 987, 988, 989, 990, 577, 578, 579, 580, 581, 582, 583, 74, 991, 992, 993, 994, 585, 586, 587, 588] (by decide +kernel) (by decide +kernel) w h).1
set_option maxRecDepth 100000 in
theorem in_wsL_law0_r24 : ∀ w ∈ wsL_law0_r24, w ∈ lw_tbl := fun w h => (goodIn_r wsL_law0_r24 [589, 590, 591, 592, 593, 594, 595, 995, 996, 997, 998, 999, 1000, 1001, 1002, 272, 273, 274, 275, 1003, 1004, 1005, 1006, 597] (by decide +kernel) (by decide +kernel) w h).1
set_option maxRecDepth 100000 in
theorem in_wsL_law0_r25 : ∀ w ∈ wsL_law0_r25, w ∈ lw_tbl := fun w h => (goodIn_r wsL_law0_r25 [598, 599, 600, 601, 602, 603, 605, 606, 607, 608, 1007, 1008, 1009, 1010, 609, 610, 611, 612, 613, 614, 615, 616, 617, 618] (by decide +kernel) (by decide +kernel) w h).1
set_option maxRecDepth 100000 in
theorem in_wsL_law0_r26 : ∀ w ∈ wsL_law0_r26, w ∈ lw_tbl := fun w h => (goodIn_r wsL_law0_r26 [619, 624, 625, 48, 626, 620, 621, 622, 623, 1011, 1012, 1013, 1014, 1015, 1017, 31, 1018, 627, 628, 629, 630, 631, 632, 633] (by decide +kernel) (by decide +kernel) w h).1
set_option maxRecDepth 100000 in
theorem in_wsL_law0_r27 : ∀ w ∈ wsL_law0_r27, w ∈ lw_tbl := fun w h => (goodIn_r wsL_law0_r27 [634, 635, 636, 637, 638, 639, 640, 641, 642, 643, 644, 645, 646, 1019, 1020, 1021, 1022, 1023, 648, 649, 650, 651, 652, 653] (by decide +kernel) (by decide +kernel) w h).1
set_option maxRecDepth 100000 in
theorem in_wsL_law0_r28 : ∀ w ∈ wsL_law0_r28, w ∈ lw_tbl := fun w h => (goodIn_r wsL_law0_r28 [654, 655, 656, 657, 658, 659, 660, 661, 662, 663, 664, 665, 666, 667, 668, 669, 670, 1024, 1025, 1026, 1027, 1028, 1030, 32] (by decide +kernel) (by decide +kernel) w h).1
