theorem dJ9_max_7cf53_0 : decode cJ9_max_7cf53 0 = .ok (.iload_n 0, 1) := by decide +kernel
theorem dJ9_max_7cf53_1 : decode cJ9_max_7cf53 1 = .ok (.iload_n 1, 1) := by decide +kernel
theorem dJ9_max_7cf53_2 : decode cJ9_max_7cf53 2 = .ok (.if_icmp .lt 7, 3) := by decide +kernel
theorem dJ9_max_7cf53_5 : decode cJ9_max_7cf53 5 = .ok (.iload_n 0, 1) := by decide +kernel
theorem dJ9_max_7cf53_6 : decode cJ9_max_7cf53 6 = .ok (.goto 4, 3) := by decide +kernel
theorem dJ9_max_7cf53_9 : decode cJ9_max_7cf53 9 = .ok (.iload_n 1, 1) := by decide +kernel
theorem dJ9_max_7cf53_10 : decode cJ9_max_7cf53 10 = .ok (.ireturn, 1) := by decide +kernel
theorem dJ9_min_7cf53_0 : decode cJ9_min_7cf53 0 = .ok (.iload_n 0, 1) := by decide +kernel
theorem dJ9_min_7cf53_1 : decode cJ9_min_7cf53 1 = .ok (.iload_n 1, 1) := by decide +kernel
theorem dJ9_min_7cf53_2 : decode cJ9_min_7cf53 2 = .ok (.if_icmp .gt 7, 3) := by decide +kernel
theorem dJ9_min_7cf53_5 : decode cJ9_min_7cf53 5 = .ok (.iload_n 0, 1) := by decide +kernel
theorem dJ9_min_7cf53_6 : decode cJ9_min_7cf53 6 = .ok (.goto 4, 3) := by decide +kernel
theorem dJ9_min_7cf53_9 : decode cJ9_min_7cf53 9 = .ok (.iload_n 1, 1) := by decide +kernel
theorem dJ9_min_7cf53_10 : decode cJ9_min_7cf53 10 = .ok (.ireturn, 1) := by decide +kernel
set_option maxRecDepth 20000 in
theorem ggL_append_X4_append : GoodIn wsL_append wsX4_append := goodIn_ca (goodIn_ca (goodIn_r _ [7, 8, 9, 10, 11, 12, 13, 14, 15, 16, 17, 18, 19, 20, 21, 22, 23, 24, 25, 26, 27, 28, 29, 30, 31, 32, 33, 34, 35, 36, 37, 38, 39] (by decide +kernel) (by decide +kernel)) (goodIn_sub (fun _ h => List.mem_cons_of_mem _ (List.mem_append_left _ (List.mem_append_right _ h))) (by decide +kernel))) (goodIn_sub (fun _ h => List.mem_cons_of_mem _ (List.mem_append_right _ h)) (by decide +kernel))
set_option maxRecDepth 20000 in
theorem gL_append_X4_append : GoodIn wsL_append (wsV RL 7 RX4 yX4_append wsX4_append) := goodIn_app (goodIn_of _ (by decide +kernel)) ggL_append_X4_append
theorem dL_append_0 : decode cL_append 0 = .ok (.aload_n 2, 1) := by decide +kernel
theorem dL_append_1 : decode cL_append 1 = .ok (.iconst 0, 1) := by decide +kernel
theorem dL_append_2 : decode cL_append 2 = .ok (.aload_n 0, 1) := by decide +kernel
theorem dL_append_3 : decode cL_append 3 = .ok (.iload_n 1, 1) := by decide +kernel
theorem dL_append_4 : decode cL_append 4 = .ok (.invokevirtual 7, 3) := by decide +kernel
theorem dL_append_7 : decode cL_append 7 = .ok (.i2l, 1) := by decide +kernel
theorem dL_append_8 : decode cL_append 8 = .ok (.lastore, 1) := by decide +kernel
theorem dL_append_9 : decode cL_append 9 = .ok (.goto 9, 3) := by decide +kernel
theorem dL_append_12 : decode cL_append 12 = .ok (.astore_n 3, 1) := by decide +kernel
theorem dL_append_13 : decode cL_append 13 = .ok (.iconst 1, 1) := by decide +kernel
theorem dL_append_14 : decode cL_append 14 = .ok (.ireturn, 1) := by decide +kernel
theorem dL_append_15 : decode cL_append 15 = .ok (.astore_n 3, 1) := by decide +kernel
theorem dL_append_16 : decode cL_append 16 = .ok (.iconst 2, 1) := by decide +kernel
theorem dL_append_17 : decode cL_append 17 = .ok (.ireturn, 1) := by decide +kernel
theorem dL_append_18 : decode cL_append 18 = .ok (.iconst 0, 1) := by decide +kernel
theorem dL_append_19 : decode cL_append 19 = .ok (.ireturn, 1) := by decide +kernel
set_option maxRecDepth 20000 in
theorem ggL_load_X4_load : GoodIn wsL_load wsX4_load := goodIn_ca (goodIn_r _ [6, 7, 8, 9, 10, 11, 12, 13, 14, 15, 16, 17, 18, 19, 20, 21, 22, 23, 24, 25, 26, 27, 28, 29, 30, 31, 32, 33, 34, 35, 36, 37, 38, 39, 40, 41, 42, 43, 44, 45, 46, 47, 48, 49, 50, 51, 52, 53, 54, 55, 56, 57, 58, 59, 60, 61, 62, 63, 64, 65, 66, 67, 68, 69, 70, 71, 72, 73, 74, 75, 76, 77, 78, 79, 80, 81, 82, 83, 84, 85, 86, 87, 88, 89, 90, 91, 92, 93, 94, 95, 96, 97, 98, 99, 100, 101, 102, 103, 104, 105, 106, 107, 108, 109, 110, 111, 112, 113, 114, 115, 116, 117, 118, 119, 120, 121, 122, 123, 124, 125, 126, 127, 128, 129, 130, 131] (by decide +kernel) (by decide +kernel)) (goodIn_sub (fun _ h => List.mem_cons_of_mem _ (List.mem_append_right _ h)) (by decide +kernel))
set_option maxRecDepth 20000 in
theorem gL_load_X4_load : GoodIn wsL_load (wsV RL 17 RX4 yX4_load wsX4_load) := goodIn_app (goodIn_of _ (by decide +kernel)) ggL_load_X4_load
theorem dL_load_0 : decode cL_load 0 = .ok (.aload_n 1, 1) := by decide +kernel
theorem dL_load_1 : decode cL_load 1 = .ok (.iconst 0, 1) := by decide +kernel
theorem dL_load_2 : decode cL_load 2 = .ok (.aload_n 0, 1) := by decide +kernel
theorem dL_load_3 : decode cL_load 3 = .ok (.invokevirtual 17, 3) := by decide +kernel
theorem dL_load_6 : decode cL_load 6 = .ok (.i2l, 1) := by decide +kernel
theorem dL_load_7 : decode cL_load 7 = .ok (.lastore, 1) := by decide +kernel
theorem dL_load_8 : decode cL_load 8 = .ok (.goto 6, 3) := by decide +kernel
theorem dL_load_11 : decode cL_load 11 = .ok (.astore_n 2, 1) := by decide +kernel
theorem dL_load_12 : decode cL_load 12 = .ok (.iconst 1, 1) := by decide +kernel
theorem dL_load_13 : decode cL_load 13 = .ok (.ireturn, 1) := by decide +kernel
theorem dL_load_14 : decode cL_load 14 = .ok (.iconst 0, 1) := by decide +kernel
theorem dL_load_15 : decode cL_load 15 = .ok (.ireturn, 1) := by decide +kernel
set_option maxRecDepth 20000 in
theorem ggL_about_X4_about : GoodIn wsL_about wsX4_about := goodIn_ca (goodIn_r _ [6, 7, 8, 9, 10, 11, 12, 13, 14, 15, 16, 17, 18, 19, 20, 21, 22, 23, 24, 25, 26, 27, 28, 29, 30, 31, 32, 33, 34, 35, 36, 37, 38, 39, 40, 41, 42, 43, 44, 45, 46] (by decide +kernel) (by decide +kernel)) (goodIn_sub (fun _ h => List.mem_cons_of_mem _ (List.mem_append_right _ h)) (by decide +kernel))
set_option maxRecDepth 20000 in
theorem gL_about_X4_about : GoodIn wsL_about (wsV RL 21 RX4 yX4_about wsX4_about) := goodIn_app (goodIn_of _ (by decide +kernel)) ggL_about_X4_about
theorem dL_about_0 : decode cL_about 0 = .ok (.aload_n 2, 1) := by decide +kernel
theorem dL_about_1 : decode cL_about 1 = .ok (.iconst 0, 1) := by decide +kernel
theorem dL_about_2 : decode cL_about 2 = .ok (.aload_n 0, 1) := by decide +kernel
theorem dL_about_3 : decode cL_about 3 = .ok (.iload_n 1, 1) := by decide +kernel
theorem dL_about_4 : decode cL_about 4 = .ok (.invokevirtual 21, 3) := by decide +kernel
theorem dL_about_7 : decode cL_about 7 = .ok (.i2l, 1) := by decide +kernel
theorem dL_about_8 : decode cL_about 8 = .ok (.lastore, 1) := by decide +kernel
theorem dL_about_9 : decode cL_about 9 = .ok (.goto 6, 3) := by decide +kernel
theorem dL_about_12 : decode cL_about 12 = .ok (.astore_n 3, 1) := by decide +kernel
theorem dL_about_13 : decode cL_about 13 = .ok (.iconst 1, 1) := by decide +kernel
theorem dL_about_14 : decode cL_about 14 = .ok (.ireturn, 1) := by decide +kernel
theorem dL_about_15 : decode cL_about 15 = .ok (.iconst 0, 1) := by decide +kernel
theorem dL_about_16 : decode cL_about 16 = .ok (.ireturn, 1) := by decide +kernel
set_option maxRecDepth 20000 in
theorem ggL_grip_X4_grip : GoodIn wsL_grip wsX4_grip := goodIn_ca (goodIn_ca (goodIn_r _ [7, 8, 9, 10, 11, 12, 13, 14, 15, 16, 17, 18, 19, 20, 6, 21, 22, 23, 24, 25, 26, 27, 28, 29, 30, 31, 32, 33, 34, 35, 36, 37, 38, 39, 40, 41, 42, 43, 44, 45, 46, 47, 48, 49, 50, 51, 52, 53, 54] (by decide +kernel) (by decide +kernel)) (goodIn_sub (fun _ h => List.mem_cons_of_mem _ (List.mem_append_left _ (List.mem_append_right _ h))) (by decide +kernel))) (goodIn_sub (fun _ h => List.mem_cons_of_mem _ (List.mem_append_right _ h)) (by decide +kernel))
set_option maxRecDepth 20000 in
theorem gL_grip_X4_grip : GoodIn wsL_grip (wsV RL 24 RX4 yX4_grip wsX4_grip) := goodIn_app (goodIn_of _ (by decide +kernel)) ggL_grip_X4_grip
theorem dL_grip_0 : decode cL_grip 0 = .ok (.aload_n 3, 1) := by decide +kernel
theorem dL_grip_1 : decode cL_grip 1 = .ok (.iconst 0, 1) := by decide +kernel
theorem dL_grip_2 : decode cL_grip 2 = .ok (.aload_n 0, 1) := by decide +kernel
theorem dL_grip_3 : decode cL_grip 3 = .ok (.iload_n 1, 1) := by decide +kernel
theorem dL_grip_4 : decode cL_grip 4 = .ok (.iload_n 2, 1) := by decide +kernel
theorem dL_grip_5 : decode cL_grip 5 = .ok (.invokevirtual 24, 3) := by decide +kernel
theorem dL_grip_8 : decode cL_grip 8 = .ok (.i2l, 1) := by decide +kernel
theorem dL_grip_9 : decode cL_grip 9 = .ok (.lastore, 1) := by decide +kernel
theorem dL_grip_10 : decode cL_grip 10 = .ok (.goto 11, 3) := by decide +kernel
theorem dL_grip_13 : decode cL_grip 13 = .ok (.astore 4, 2) := by decide +kernel
theorem dL_grip_15 : decode cL_grip 15 = .ok (.iconst 1, 1) := by decide +kernel
theorem dL_grip_16 : decode cL_grip 16 = .ok (.ireturn, 1) := by decide +kernel
theorem dL_grip_17 : decode cL_grip 17 = .ok (.astore 4, 2) := by decide +kernel
theorem dL_grip_19 : decode cL_grip 19 = .ok (.iconst 2, 1) := by decide +kernel
theorem dL_grip_20 : decode cL_grip 20 = .ok (.ireturn, 1) := by decide +kernel
theorem dL_grip_21 : decode cL_grip 21 = .ok (.iconst 0, 1) := by decide +kernel
theorem dL_grip_22 : decode cL_grip 22 = .ok (.ireturn, 1) := by decide +kernel
set_option maxRecDepth 20000 in
theorem ggL_slot_X4_slot : GoodIn wsL_slot wsX4_slot := goodIn_ca (goodIn_r _ [6, 7, 8, 9, 10, 11, 12, 13, 14, 15, 16, 17, 18, 19, 20, 21, 22, 23, 24, 25, 26, 27, 28, 29, 30, 31, 32, 33, 34, 35, 36, 37, 38, 39, 40, 41, 42, 43] (by decide +kernel) (by decide +kernel)) (goodIn_sub (fun _ h => List.mem_cons_of_mem _ (List.mem_append_right _ h)) (by decide +kernel))
set_option maxRecDepth 20000 in
theorem gL_slot_X4_slot : GoodIn wsL_slot (wsV RL 30 RX4 yX4_slot wsX4_slot) := goodIn_app (goodIn_of _ (by decide +kernel)) ggL_slot_X4_slot
theorem dL_slot_0 : decode cL_slot 0 = .ok (.aload_n 2, 1) := by decide +kernel
theorem dL_slot_1 : decode cL_slot 1 = .ok (.iconst 0, 1) := by decide +kernel
theorem dL_slot_2 : decode cL_slot 2 = .ok (.aload_n 0, 1) := by decide +kernel
theorem dL_slot_3 : decode cL_slot 3 = .ok (.iload_n 1, 1) := by decide +kernel
theorem dL_slot_4 : decode cL_slot 4 = .ok (.invokevirtual 30, 3) := by decide +kernel
theorem dL_slot_7 : decode cL_slot 7 = .ok (.i2l, 1) := by decide +kernel
theorem dL_slot_8 : decode cL_slot 8 = .ok (.lastore, 1) := by decide +kernel
theorem dL_slot_9 : decode cL_slot 9 = .ok (.goto 6, 3) := by decide +kernel
theorem dL_slot_12 : decode cL_slot 12 = .ok (.astore_n 3, 1) := by decide +kernel
theorem dL_slot_13 : decode cL_slot 13 = .ok (.iconst 1, 1) := by decide +kernel
theorem dL_slot_14 : decode cL_slot 14 = .ok (.ireturn, 1) := by decide +kernel
theorem dL_slot_15 : decode cL_slot 15 = .ok (.iconst 0, 1) := by decide +kernel
theorem dL_slot_16 : decode cL_slot 16 = .ok (.ireturn, 1) := by decide +kernel
set_option maxRecDepth 20000 in
theorem ggL_report_X4_report : GoodIn wsL_report wsX4_report := goodIn_ca (goodIn_r _ [6, 7, 8, 9, 10, 11, 12, 13, 14, 15, 16, 17, 18, 19, 20, 21, 22, 23, 24, 25, 26, 27, 28, 29, 30, 31, 32, 33, 34, 35, 36, 37, 38, 39, 40, 41, 42, 43, 44, 45, 46, 47, 48, 49, 50, 51, 52, 53, 54, 55, 56, 57, 58, 59, 60, 61, 62, 63, 64, 65, 66, 67] (by decide +kernel) (by decide +kernel)) (goodIn_sub (fun _ h => List.mem_cons_of_mem _ (List.mem_append_right _ h)) (by decide +kernel))
set_option maxRecDepth 20000 in
theorem gL_report_X4_report : GoodIn wsL_report (wsV RL 33 RX4 yX4_report wsX4_report) := goodIn_app (goodIn_of _ (by decide +kernel)) ggL_report_X4_report
theorem dL_report_0 : decode cL_report 0 = .ok (.aload_n 2, 1) := by decide +kernel
theorem dL_report_1 : decode cL_report 1 = .ok (.iconst 0, 1) := by decide +kernel
theorem dL_report_2 : decode cL_report 2 = .ok (.aload_n 0, 1) := by decide +kernel
theorem dL_report_3 : decode cL_report 3 = .ok (.iload_n 1, 1) := by decide +kernel
theorem dL_report_4 : decode cL_report 4 = .ok (.invokevirtual 33, 3) := by decide +kernel
theorem dL_report_7 : decode cL_report 7 = .ok (.i2l, 1) := by decide +kernel
theorem dL_report_8 : decode cL_report 8 = .ok (.lastore, 1) := by decide +kernel
theorem dL_report_9 : decode cL_report 9 = .ok (.goto 6, 3) := by decide +kernel
theorem dL_report_12 : decode cL_report 12 = .ok (.astore_n 3, 1) := by decide +kernel
theorem dL_report_13 : decode cL_report 13 = .ok (.iconst 1, 1) := by decide +kernel
theorem dL_report_14 : decode cL_report 14 = .ok (.ireturn, 1) := by decide +kernel
theorem dL_report_15 : decode cL_report 15 = .ok (.iconst 0, 1) := by decide +kernel
theorem dL_report_16 : decode cL_report 16 = .ok (.ireturn, 1) := by decide +kernel
set_option maxRecDepth 20000 in
theorem ggL_step_X4_step : GoodIn wsL_step wsX4_step := goodIn_ca (goodIn_r _ [6, 7, 8, 9, 10, 11, 5, 12, 13, 14, 15, 16, 17, 18, 19, 20, 21, 22, 23, 24, 25, 26, 27, 28, 29, 30, 31, 32, 33, 34, 35, 36, 37, 38, 39, 40, 41, 42, 43, 44, 45, 46, 47, 48, 49, 50, 51, 52, 53, 54, 55, 56, 57, 58, 59, 60, 61, 62, 63, 64, 65, 66, 67, 68, 69, 70, 71, 72, 73, 74, 75, 76, 77, 78, 79, 80, 81, 82, 83, 84, 85, 86, 87, 88, 89, 90, 91, 92, 93, 94, 95, 96, 97, 98, 99, 100, 101, 102, 103, 104, 105, 106, 107, 108, 109, 110, 111, 112, 113, 114, 115, 116] (by decide +kernel) (by decide +kernel)) (goodIn_sub (fun _ h => List.mem_cons_of_mem _ (List.mem_append_right _ h)) (by decide +kernel))
set_option maxRecDepth 20000 in
theorem gL_step_X4_step : GoodIn wsL_step (wsV RL 36 RX4 yX4_step wsX4_step) := goodIn_app (goodIn_of _ (by decide +kernel)) ggL_step_X4_step
theorem dL_step_0 : decode cL_step 0 = .ok (.aload_n 2, 1) := by decide +kernel
theorem dL_step_1 : decode cL_step 1 = .ok (.iconst 0, 1) := by decide +kernel
theorem dL_step_2 : decode cL_step 2 = .ok (.aload_n 0, 1) := by decide +kernel
theorem dL_step_3 : decode cL_step 3 = .ok (.iload_n 1, 1) := by decide +kernel
theorem dL_step_4 : decode cL_step 4 = .ok (.invokevirtual 36, 3) := by decide +kernel
theorem dL_step_7 : decode cL_step 7 = .ok (.i2l, 1) := by decide +kernel
theorem dL_step_8 : decode cL_step 8 = .ok (.lastore, 1) := by decide +kernel
theorem dL_step_9 : decode cL_step 9 = .ok (.goto 6, 3) := by decide +kernel
theorem dL_step_12 : decode cL_step 12 = .ok (.astore_n 3, 1) := by decide +kernel
theorem dL_step_13 : decode cL_step 13 = .ok (.iconst 1, 1) := by decide +kernel
theorem dL_step_14 : decode cL_step 14 = .ok (.ireturn, 1) := by decide +kernel
theorem dL_step_15 : decode cL_step 15 = .ok (.iconst 0, 1) := by decide +kernel
theorem dL_step_16 : decode cL_step 16 = .ok (.ireturn, 1) := by decide +kernel
set_option maxRecDepth 20000 in
theorem ggL_addGrip_X4_addGrip : GoodIn wsL_addGrip wsX4_addGrip := goodIn_ca (goodIn_ca (goodIn_r _ [7, 8, 9, 10, 11, 12, 13, 14, 15, 16, 17, 18, 19, 20, 21, 22, 23, 24, 25, 6, 26, 27, 28, 29, 30, 31, 32, 33, 34, 35, 36, 37, 38, 39, 40, 41, 42, 43, 44, 45, 46, 47, 48, 49, 50, 51, 52, 53, 54, 55, 56, 57, 58, 59, 60, 61, 62, 63, 64, 65, 66, 67, 68, 69, 70, 71, 72, 73, 74, 75, 76, 77, 78, 79, 80, 81, 82, 83, 84, 85, 86, 87, 88, 89, 90, 91] (by decide +kernel) (by decide +kernel)) (goodIn_sub (fun _ h => List.mem_cons_of_mem _ (List.mem_append_left _ (List.mem_append_right _ h))) (by decide +kernel))) (goodIn_sub (fun _ h => List.mem_cons_of_mem _ (List.mem_append_right _ h)) (by decide +kernel))
set_option maxRecDepth 20000 in
theorem gL_addGrip_X4_addGrip : GoodIn wsL_addGrip (wsV RL 39 RX4 yX4_addGrip wsX4_addGrip) := goodIn_app (goodIn_of _ (by decide +kernel)) ggL_addGrip_X4_addGrip
theorem dL_addGrip_0 : decode cL_addGrip 0 = .ok (.aload_n 2, 1) := by decide +kernel
theorem dL_addGrip_1 : decode cL_addGrip 1 = .ok (.iconst 0, 1) := by decide +kernel
theorem dL_addGrip_2 : decode cL_addGrip 2 = .ok (.aload_n 0, 1) := by decide +kernel
theorem dL_addGrip_3 : decode cL_addGrip 3 = .ok (.iload_n 1, 1) := by decide +kernel
theorem dL_addGrip_4 : decode cL_addGrip 4 = .ok (.invokevirtual 39, 3) := by decide +kernel
theorem dL_addGrip_7 : decode cL_addGrip 7 = .ok (.i2l, 1) := by decide +kernel
theorem dL_addGrip_8 : decode cL_addGrip 8 = .ok (.lastore, 1) := by decide +kernel
theorem dL_addGrip_9 : decode cL_addGrip 9 = .ok (.goto 9, 3) := by decide +kernel
theorem dL_addGrip_12 : decode cL_addGrip 12 = .ok (.astore_n 3, 1) := by decide +kernel
theorem dL_addGrip_13 : decode cL_addGrip 13 = .ok (.iconst 1, 1) := by decide +kernel
theorem dL_addGrip_14 : decode cL_addGrip 14 = .ok (.ireturn, 1) := by decide +kernel
theorem dL_addGrip_15 : decode cL_addGrip 15 = .ok (.astore_n 3, 1) := by decide +kernel
theorem dL_addGrip_16 : decode cL_addGrip 16 = .ok (.iconst 2, 1) := by decide +kernel
theorem dL_addGrip_17 : decode cL_addGrip 17 = .ok (.ireturn, 1) := by decide +kernel
theorem dL_addGrip_18 : decode cL_addGrip 18 = .ok (.iconst 0, 1) := by decide +kernel
theorem dL_addGrip_19 : decode cL_addGrip 19 = .ok (.ireturn, 1) := by decide +kernel
set_option maxRecDepth 20000 in
theorem ggL_putOn_X4_putOn : GoodIn wsL_putOn wsX4_putOn := goodIn_ca (goodIn_ca (goodIn_r _ [7, 8, 9, 10, 11, 12, 13, 14, 15, 16, 17, 18, 19, 20, 21, 22, 23, 24, 25, 26, 27, 28, 29, 30, 31, 32, 33, 34, 35, 36, 37, 38, 39, 40, 6, 41, 42, 43, 44, 45, 46, 47, 48, 49, 50, 51, 52, 53, 54, 55, 56, 57, 58, 59, 60, 61, 62, 63, 64, 65, 66, 67, 68, 69, 70, 71, 72, 73, 74, 75, 76, 77, 78, 79, 80, 81, 82, 83, 84, 85, 86, 87, 88, 89, 90, 91, 92, 93, 94, 95, 96, 97, 98, 99, 100, 101, 102] (by decide +kernel) (by decide +kernel)) (goodIn_sub (fun _ h => List.mem_cons_of_mem _ (List.mem_append_left _ (List.mem_append_right _ h))) (by decide +kernel))) (goodIn_sub (fun _ h => List.mem_cons_of_mem _ (List.mem_append_right _ h)) (by decide +kernel))
set_option maxRecDepth 20000 in
theorem gL_putOn_X4_putOn : GoodIn wsL_putOn (wsV RL 42 RX4 yX4_putOn wsX4_putOn) := goodIn_app (goodIn_of _ (by decide +kernel)) ggL_putOn_X4_putOn
theorem dL_putOn_0 : decode cL_putOn 0 = .ok (.aload_n 3, 1) := by decide +kernel
theorem dL_putOn_1 : decode cL_putOn 1 = .ok (.iconst 0, 1) := by decide +kernel
theorem dL_putOn_2 : decode cL_putOn 2 = .ok (.aload_n 0, 1) := by decide +kernel
theorem dL_putOn_3 : decode cL_putOn 3 = .ok (.iload_n 1, 1) := by decide +kernel
theorem dL_putOn_4 : decode cL_putOn 4 = .ok (.iload_n 2, 1) := by decide +kernel
theorem dL_putOn_5 : decode cL_putOn 5 = .ok (.invokevirtual 42, 3) := by decide +kernel
theorem dL_putOn_8 : decode cL_putOn 8 = .ok (.i2l, 1) := by decide +kernel
theorem dL_putOn_9 : decode cL_putOn 9 = .ok (.lastore, 1) := by decide +kernel
theorem dL_putOn_10 : decode cL_putOn 10 = .ok (.goto 11, 3) := by decide +kernel
theorem dL_putOn_13 : decode cL_putOn 13 = .ok (.astore 4, 2) := by decide +kernel
theorem dL_putOn_15 : decode cL_putOn 15 = .ok (.iconst 1, 1) := by decide +kernel
theorem dL_putOn_16 : decode cL_putOn 16 = .ok (.ireturn, 1) := by decide +kernel
theorem dL_putOn_17 : decode cL_putOn 17 = .ok (.astore 4, 2) := by decide +kernel
theorem dL_putOn_19 : decode cL_putOn 19 = .ok (.iconst 2, 1) := by decide +kernel
theorem dL_putOn_20 : decode cL_putOn 20 = .ok (.ireturn, 1) := by decide +kernel
theorem dL_putOn_21 : decode cL_putOn 21 = .ok (.iconst 0, 1) := by decide +kernel
theorem dL_putOn_22 : decode cL_putOn 22 = .ok (.ireturn, 1) := by decide +kernel
set_option maxRecDepth 20000 in
theorem ggL_takeOff_X4_takeOff : GoodIn wsL_takeOff wsX4_takeOff := goodIn_ca (goodIn_ca (goodIn_r _ [7, 8, 9, 10, 11, 12, 13, 14, 15, 16, 17, 18, 19, 20, 21, 22, 23, 24, 25, 26, 6, 27, 28, 29, 30, 31, 32, 33, 34, 35, 36, 37, 38, 39, 40, 41, 42, 43, 44, 45, 46, 47, 48, 49, 50, 51, 52, 53, 54, 55, 56, 57, 58, 59, 60, 61, 62, 63, 64, 65, 66, 67, 68, 69, 70, 71, 72, 73, 74, 75, 76, 77, 78, 79, 80, 81, 82, 83, 84, 85, 86, 87] (by decide +kernel) (by decide +kernel)) (goodIn_sub (fun _ h => List.mem_cons_of_mem _ (List.mem_append_left _ (List.mem_append_right _ h))) (by decide +kernel))) (goodIn_sub (fun _ h => List.mem_cons_of_mem _ (List.mem_append_right _ h)) (by decide +kernel))
set_option maxRecDepth 20000 in
theorem gL_takeOff_X4_takeOff : GoodIn wsL_takeOff (wsV RL 45 RX4 yX4_takeOff wsX4_takeOff) := goodIn_app (goodIn_of _ (by decide +kernel)) ggL_takeOff_X4_takeOff
theorem dL_takeOff_0 : decode cL_takeOff 0 = .ok (.aload_n 2, 1) := by decide +kernel
theorem dL_takeOff_1 : decode cL_takeOff 1 = .ok (.iconst 0, 1) := by decide +kernel
theorem dL_takeOff_2 : decode cL_takeOff 2 = .ok (.aload_n 0, 1) := by decide +kernel
theorem dL_takeOff_3 : decode cL_takeOff 3 = .ok (.iload_n 1, 1) := by decide +kernel
theorem dL_takeOff_4 : decode cL_takeOff 4 = .ok (.invokevirtual 45, 3) := by decide +kernel
theorem dL_takeOff_7 : decode cL_takeOff 7 = .ok (.i2l, 1) := by decide +kernel
theorem dL_takeOff_8 : decode cL_takeOff 8 = .ok (.lastore, 1) := by decide +kernel
theorem dL_takeOff_9 : decode cL_takeOff 9 = .ok (.goto 9, 3) := by decide +kernel
theorem dL_takeOff_12 : decode cL_takeOff 12 = .ok (.astore_n 3, 1) := by decide +kernel
theorem dL_takeOff_13 : decode cL_takeOff 13 = .ok (.iconst 1, 1) := by decide +kernel
theorem dL_takeOff_14 : decode cL_takeOff 14 = .ok (.ireturn, 1) := by decide +kernel
theorem dL_takeOff_15 : decode cL_takeOff 15 = .ok (.astore_n 3, 1) := by decide +kernel
theorem dL_takeOff_16 : decode cL_takeOff 16 = .ok (.iconst 2, 1) := by decide +kernel
theorem dL_takeOff_17 : decode cL_takeOff 17 = .ok (.ireturn, 1) := by decide +kernel
theorem dL_takeOff_18 : decode cL_takeOff 18 = .ok (.iconst 0, 1) := by decide +kernel
theorem dL_takeOff_19 : decode cL_takeOff 19 = .ok (.ireturn, 1) := by decide +kernel
set_option maxRecDepth 20000 in
theorem ggL_scrap_X4_scrap : GoodIn wsL_scrap wsX4_scrap := goodIn_ca (goodIn_ca (goodIn_r _ [7, 8, 9, 10, 11, 12, 13, 14, 15, 16, 17, 18, 19, 20, 21, 22, 23, 24, 25, 26, 6, 27, 28, 29, 30, 31, 32, 33, 34, 35, 36, 37, 38, 39, 40, 41, 42, 43, 44, 45, 46, 47, 48, 49, 50, 51, 52, 53, 54, 55, 56, 57, 58, 59, 60, 61, 62, 63, 64, 65, 66, 67, 68, 69, 70, 71, 72, 73, 74, 75, 76, 77, 78, 79, 80, 81, 82, 83, 84, 85, 86, 87] (by decide +kernel) (by decide +kernel)) (goodIn_sub (fun _ h => List.mem_cons_of_mem _ (List.mem_append_left _ (List.mem_append_right _ h))) (by decide +kernel))) (goodIn_sub (fun _ h => List.mem_cons_of_mem _ (List.mem_append_right _ h)) (by decide +kernel))
set_option maxRecDepth 20000 in
theorem gL_scrap_X4_scrap : GoodIn wsL_scrap (wsV RL 48 RX4 yX4_scrap wsX4_scrap) := goodIn_app (goodIn_of _ (by decide +kernel)) ggL_scrap_X4_scrap
theorem dL_scrap_0 : decode cL_scrap 0 = .ok (.aload_n 2, 1) := by decide +kernel
theorem dL_scrap_1 : decode cL_scrap 1 = .ok (.iconst 0, 1) := by decide +kernel
theorem dL_scrap_2 : decode cL_scrap 2 = .ok (.aload_n 0, 1) := by decide +kernel
theorem dL_scrap_3 : decode cL_scrap 3 = .ok (.iload_n 1, 1) := by decide +kernel
theorem dL_scrap_4 : decode cL_scrap 4 = .ok (.invokevirtual 48, 3) := by decide +kernel
theorem dL_scrap_7 : decode cL_scrap 7 = .ok (.i2l, 1) := by decide +kernel
theorem dL_scrap_8 : decode cL_scrap 8 = .ok (.lastore, 1) := by decide +kernel
theorem dL_scrap_9 : decode cL_scrap 9 = .ok (.goto 9, 3) := by decide +kernel
theorem dL_scrap_12 : decode cL_scrap 12 = .ok (.astore_n 3, 1) := by decide +kernel
theorem dL_scrap_13 : decode cL_scrap 13 = .ok (.iconst 1, 1) := by decide +kernel
theorem dL_scrap_14 : decode cL_scrap 14 = .ok (.ireturn, 1) := by decide +kernel
theorem dL_scrap_15 : decode cL_scrap 15 = .ok (.astore_n 3, 1) := by decide +kernel
theorem dL_scrap_16 : decode cL_scrap 16 = .ok (.iconst 2, 1) := by decide +kernel
theorem dL_scrap_17 : decode cL_scrap 17 = .ok (.ireturn, 1) := by decide +kernel
theorem dL_scrap_18 : decode cL_scrap 18 = .ok (.iconst 0, 1) := by decide +kernel
theorem dL_scrap_19 : decode cL_scrap 19 = .ok (.ireturn, 1) := by decide +kernel
set_option maxRecDepth 20000 in
theorem ggL_setLimit_X4_setLimit : GoodIn wsL_setLimit wsX4_setLimit := goodIn_ca (goodIn_r _ [6, 7, 8, 9, 10, 11, 12, 5, 13, 14, 15, 16, 17, 18, 19, 20, 21, 22, 23, 24, 25, 26, 27, 28, 29, 30, 31, 32, 33, 34, 35, 36, 37, 38, 39, 40, 41, 42, 43, 44, 45, 46, 47, 48, 49, 50, 51, 52, 53, 54, 55, 56, 57, 58, 59, 60, 61, 62, 63, 64, 65, 66, 67, 68, 69, 70, 71, 72, 73, 74, 75, 76] (by decide +kernel) (by decide +kernel)) (goodIn_sub (fun _ h => List.mem_cons_of_mem _ (List.mem_append_right _ h)) (by decide +kernel))
set_option maxRecDepth 20000 in
theorem gL_setLimit_X4_setLimit : GoodIn wsL_setLimit (wsV RL 51 RX4 yX4_setLimit wsX4_setLimit) := goodIn_app (goodIn_of _ (by decide +kernel)) ggL_setLimit_X4_setLimit
theorem dL_setLimit_0 : decode cL_setLimit 0 = .ok (.aload_n 3, 1) := by decide +kernel
theorem dL_setLimit_1 : decode cL_setLimit 1 = .ok (.iconst 0, 1) := by decide +kernel
theorem dL_setLimit_2 : decode cL_setLimit 2 = .ok (.aload_n 0, 1) := by decide +kernel
theorem dL_setLimit_3 : decode cL_setLimit 3 = .ok (.iload_n 1, 1) := by decide +kernel
theorem dL_setLimit_4 : decode cL_setLimit 4 = .ok (.iload_n 2, 1) := by decide +kernel
theorem dL_setLimit_5 : decode cL_setLimit 5 = .ok (.invokevirtual 51, 3) := by decide +kernel
theorem dL_setLimit_8 : decode cL_setLimit 8 = .ok (.i2l, 1) := by decide +kernel
theorem dL_setLimit_9 : decode cL_setLimit 9 = .ok (.lastore, 1) := by decide +kernel
theorem dL_setLimit_10 : decode cL_setLimit 10 = .ok (.goto 7, 3) := by decide +kernel
theorem dL_setLimit_13 : decode cL_setLimit 13 = .ok (.astore 4, 2) := by decide +kernel
theorem dL_setLimit_15 : decode cL_setLimit 15 = .ok (.iconst 1, 1) := by decide +kernel
theorem dL_setLimit_16 : decode cL_setLimit 16 = .ok (.ireturn, 1) := by decide +kernel
theorem dL_setLimit_17 : decode cL_setLimit 17 = .ok (.iconst 0, 1) := by decide +kernel
theorem dL_setLimit_18 : decode cL_setLimit 18 = .ok (.ireturn, 1) := by decide +kernel
set_option maxRecDepth 20000 in
theorem ggL_undo_X4_undo : GoodIn wsL_undo wsX4_undo := goodIn_ca (goodIn_r _ [6, 7, 8, 9, 10, 11, 12, 13, 14, 15, 16, 17, 18, 19, 20, 21, 22, 23, 24, 25, 26, 27, 28, 29, 30, 31, 32, 33, 34, 35, 36, 37, 38, 39, 40, 41, 42, 43, 44, 45, 46, 47, 48, 49, 50, 51, 52, 53, 54, 55, 56, 57, 58, 59, 60, 61, 62, 63, 64, 65, 66, 67] (by decide +kernel) (by decide +kernel)) (goodIn_sub (fun _ h => List.mem_cons_of_mem _ (List.mem_append_right _ h)) (by decide +kernel))
set_option maxRecDepth 20000 in
theorem gL_undo_X4_undo : GoodIn wsL_undo (wsV RL 54 RX4 yX4_undo wsX4_undo) := goodIn_app (goodIn_of _ (by decide +kernel)) ggL_undo_X4_undo
theorem dL_undo_0 : decode cL_undo 0 = .ok (.aload_n 1, 1) := by decide +kernel
theorem dL_undo_1 : decode cL_undo 1 = .ok (.iconst 0, 1) := by decide +kernel
theorem dL_undo_2 : decode cL_undo 2 = .ok (.aload_n 0, 1) := by decide +kernel
theorem dL_undo_3 : decode cL_undo 3 = .ok (.invokevirtual 54, 3) := by decide +kernel
theorem dL_undo_6 : decode cL_undo 6 = .ok (.i2l, 1) := by decide +kernel
theorem dL_undo_7 : decode cL_undo 7 = .ok (.lastore, 1) := by decide +kernel
theorem dL_undo_8 : decode cL_undo 8 = .ok (.goto 6, 3) := by decide +kernel
theorem dL_undo_11 : decode cL_undo 11 = .ok (.astore_n 2, 1) := by decide +kernel
theorem dL_undo_12 : decode cL_undo 12 = .ok (.iconst 1, 1) := by decide +kernel
theorem dL_undo_13 : decode cL_undo 13 = .ok (.ireturn, 1) := by decide +kernel
theorem dL_undo_14 : decode cL_undo 14 = .ok (.iconst 0, 1) := by decide +kernel
theorem dL_undo_15 : decode cL_undo 15 = .ok (.ireturn, 1) := by decide +kernel
set_option maxRecDepth 20000 in
theorem ggL_gap_X4_gap : GoodIn wsL_gap wsX4_gap := goodIn_ca (goodIn_r _ [6, 7, 8, 9, 10, 11, 12, 13, 14, 15, 16, 17, 18, 19, 20, 21, 22, 23, 24, 25, 26, 27, 28, 29, 30, 31, 32, 33, 34, 35, 36, 37, 38, 39, 40, 41, 42, 43, 44, 45, 46, 47, 48, 49, 50, 51, 52, 53, 54, 55] (by decide +kernel) (by decide +kernel)) (goodIn_sub (fun _ h => List.mem_cons_of_mem _ (List.mem_append_right _ h)) (by decide +kernel))
set_option maxRecDepth 20000 in
theorem gL_gap_X4_gap : GoodIn wsL_gap (wsV RL 57 RX4 yX4_gap wsX4_gap) := goodIn_app (goodIn_of _ (by decide +kernel)) ggL_gap_X4_gap
theorem dL_gap_0 : decode cL_gap 0 = .ok (.aload_n 2, 1) := by decide +kernel
theorem dL_gap_1 : decode cL_gap 1 = .ok (.iconst 0, 1) := by decide +kernel
theorem dL_gap_2 : decode cL_gap 2 = .ok (.aload_n 0, 1) := by decide +kernel
theorem dL_gap_3 : decode cL_gap 3 = .ok (.iload_n 1, 1) := by decide +kernel
theorem dL_gap_4 : decode cL_gap 4 = .ok (.invokevirtual 57, 3) := by decide +kernel
theorem dL_gap_7 : decode cL_gap 7 = .ok (.i2l, 1) := by decide +kernel
theorem dL_gap_8 : decode cL_gap 8 = .ok (.lastore, 1) := by decide +kernel
theorem dL_gap_9 : decode cL_gap 9 = .ok (.goto 6, 3) := by decide +kernel
theorem dL_gap_12 : decode cL_gap 12 = .ok (.astore_n 3, 1) := by decide +kernel
theorem dL_gap_13 : decode cL_gap 13 = .ok (.iconst 1, 1) := by decide +kernel
theorem dL_gap_14 : decode cL_gap 14 = .ok (.ireturn, 1) := by decide +kernel
theorem dL_gap_15 : decode cL_gap 15 = .ok (.iconst 0, 1) := by decide +kernel
theorem dL_gap_16 : decode cL_gap 16 = .ok (.ireturn, 1) := by decide +kernel
set_option maxRecDepth 20000 in
theorem ggL_room_X4_room : GoodIn wsL_room wsX4_room := goodIn_ca (goodIn_r _ [6, 7, 8, 9, 10, 11, 12, 13, 14, 15, 16, 17, 18, 19, 20, 21, 22, 23, 24, 25, 26, 27, 28, 29, 30, 31, 32, 33, 34, 35, 36, 37, 38, 39, 40, 41, 42, 43, 44, 45, 46, 47, 48, 49, 50, 51, 52, 53, 54, 55, 56, 57, 58, 59, 60, 61, 62, 63, 64, 65, 66, 67, 68] (by decide +kernel) (by decide +kernel)) (goodIn_sub (fun _ h => List.mem_cons_of_mem _ (List.mem_append_right _ h)) (by decide +kernel))
set_option maxRecDepth 20000 in
theorem gL_room_X4_room : GoodIn wsL_room (wsV RL 60 RX4 yX4_room wsX4_room) := goodIn_app (goodIn_of _ (by decide +kernel)) ggL_room_X4_room
theorem dL_room_0 : decode cL_room 0 = .ok (.aload_n 2, 1) := by decide +kernel
theorem dL_room_1 : decode cL_room 1 = .ok (.iconst 0, 1) := by decide +kernel
theorem dL_room_2 : decode cL_room 2 = .ok (.aload_n 0, 1) := by decide +kernel
theorem dL_room_3 : decode cL_room 3 = .ok (.iload_n 1, 1) := by decide +kernel
theorem dL_room_4 : decode cL_room 4 = .ok (.invokevirtual 60, 3) := by decide +kernel
theorem dL_room_7 : decode cL_room 7 = .ok (.i2l, 1) := by decide +kernel
theorem dL_room_8 : decode cL_room 8 = .ok (.lastore, 1) := by decide +kernel
theorem dL_room_9 : decode cL_room 9 = .ok (.goto 6, 3) := by decide +kernel
theorem dL_room_12 : decode cL_room 12 = .ok (.astore_n 3, 1) := by decide +kernel
theorem dL_room_13 : decode cL_room 13 = .ok (.iconst 1, 1) := by decide +kernel
theorem dL_room_14 : decode cL_room 14 = .ok (.ireturn, 1) := by decide +kernel
theorem dL_room_15 : decode cL_room 15 = .ok (.iconst 0, 1) := by decide +kernel
theorem dL_room_16 : decode cL_room 16 = .ok (.ireturn, 1) := by decide +kernel
set_option maxRecDepth 20000 in
theorem ggL_groups_X4_groups : GoodIn wsL_groups wsX4_groups := goodIn_ca (goodIn_r _ [6, 7, 8, 9, 10, 11, 12, 13, 14, 15, 16, 17, 18, 19, 20, 21, 22, 23, 24, 25, 26, 27, 28, 29, 30, 31, 32, 33, 34, 35, 36, 37, 38, 39, 40, 41, 42, 43, 44, 45, 46, 47, 48, 49, 50, 51] (by decide +kernel) (by decide +kernel)) (goodIn_sub (fun _ h => List.mem_cons_of_mem _ (List.mem_append_right _ h)) (by decide +kernel))
set_option maxRecDepth 20000 in
theorem gL_groups_X4_groups : GoodIn wsL_groups (wsV RL 63 RX4 yX4_groups wsX4_groups) := goodIn_app (goodIn_of _ (by decide +kernel)) ggL_groups_X4_groups
theorem dL_groups_0 : decode cL_groups 0 = .ok (.aload_n 2, 1) := by decide +kernel
theorem dL_groups_1 : decode cL_groups 1 = .ok (.iconst 0, 1) := by decide +kernel
theorem dL_groups_2 : decode cL_groups 2 = .ok (.aload_n 0, 1) := by decide +kernel
theorem dL_groups_3 : decode cL_groups 3 = .ok (.iload_n 1, 1) := by decide +kernel
theorem dL_groups_4 : decode cL_groups 4 = .ok (.invokevirtual 63, 3) := by decide +kernel
theorem dL_groups_7 : decode cL_groups 7 = .ok (.i2l, 1) := by decide +kernel
theorem dL_groups_8 : decode cL_groups 8 = .ok (.lastore, 1) := by decide +kernel
theorem dL_groups_9 : decode cL_groups 9 = .ok (.goto 6, 3) := by decide +kernel
theorem dL_groups_12 : decode cL_groups 12 = .ok (.astore_n 3, 1) := by decide +kernel
theorem dL_groups_13 : decode cL_groups 13 = .ok (.iconst 1, 1) := by decide +kernel
theorem dL_groups_14 : decode cL_groups 14 = .ok (.ireturn, 1) := by decide +kernel
theorem dL_groups_15 : decode cL_groups 15 = .ok (.iconst 0, 1) := by decide +kernel
theorem dL_groups_16 : decode cL_groups 16 = .ok (.ireturn, 1) := by decide +kernel
set_option maxRecDepth 20000 in
theorem ggL_dueAfter_X4_dueAfter : GoodIn wsL_dueAfter wsX4_dueAfter := goodIn_ca (goodIn_r _ [6, 7, 8, 9, 10, 11, 12, 13, 14, 15, 16, 17, 18, 19, 20, 21, 22, 23, 24, 25, 26, 27, 28, 29, 30, 31, 32, 33, 34, 35, 36, 37, 38, 39, 40, 41, 42, 43, 44, 45, 46, 47, 48, 49, 50, 51, 52, 53, 54, 55, 56, 57, 58] (by decide +kernel) (by decide +kernel)) (goodIn_sub (fun _ h => List.mem_cons_of_mem _ (List.mem_append_right _ h)) (by decide +kernel))
set_option maxRecDepth 20000 in
theorem gL_dueAfter_X4_dueAfter : GoodIn wsL_dueAfter (wsV RL 66 RX4 yX4_dueAfter wsX4_dueAfter) := goodIn_app (goodIn_of _ (by decide +kernel)) ggL_dueAfter_X4_dueAfter
theorem dL_dueAfter_0 : decode cL_dueAfter 0 = .ok (.aload_n 2, 1) := by decide +kernel
theorem dL_dueAfter_1 : decode cL_dueAfter 1 = .ok (.iconst 0, 1) := by decide +kernel
theorem dL_dueAfter_2 : decode cL_dueAfter 2 = .ok (.aload_n 0, 1) := by decide +kernel
theorem dL_dueAfter_3 : decode cL_dueAfter 3 = .ok (.iload_n 1, 1) := by decide +kernel
theorem dL_dueAfter_4 : decode cL_dueAfter 4 = .ok (.invokevirtual 66, 3) := by decide +kernel
theorem dL_dueAfter_7 : decode cL_dueAfter 7 = .ok (.i2l, 1) := by decide +kernel
theorem dL_dueAfter_8 : decode cL_dueAfter 8 = .ok (.lastore, 1) := by decide +kernel
theorem dL_dueAfter_9 : decode cL_dueAfter 9 = .ok (.goto 6, 3) := by decide +kernel
theorem dL_dueAfter_12 : decode cL_dueAfter 12 = .ok (.astore_n 3, 1) := by decide +kernel
theorem dL_dueAfter_13 : decode cL_dueAfter 13 = .ok (.iconst 1, 1) := by decide +kernel
theorem dL_dueAfter_14 : decode cL_dueAfter 14 = .ok (.ireturn, 1) := by decide +kernel
theorem dL_dueAfter_15 : decode cL_dueAfter 15 = .ok (.iconst 0, 1) := by decide +kernel
theorem dL_dueAfter_16 : decode cL_dueAfter 16 = .ok (.ireturn, 1) := by decide +kernel
set_option maxRecDepth 20000 in
theorem ggL_chance_X4_chance : GoodIn wsL_chance wsX4_chance := goodIn_ca (goodIn_r _ [6, 7, 8, 9, 10, 11, 12, 13, 14, 15, 16, 17, 18, 19, 20, 21, 22, 23, 24, 25, 26, 27, 28, 29, 30, 31, 32] (by decide +kernel) (by decide +kernel)) (goodIn_sub (fun _ h => List.mem_cons_of_mem _ (List.mem_append_right _ h)) (by decide +kernel))
set_option maxRecDepth 20000 in
theorem gL_chance_X4_chance : GoodIn wsL_chance (wsV RL 69 RX4 yX4_chance wsX4_chance) := goodIn_app (goodIn_of _ (by decide +kernel)) ggL_chance_X4_chance
theorem dL_chance_0 : decode cL_chance 0 = .ok (.aload_n 3, 1) := by decide +kernel
theorem dL_chance_1 : decode cL_chance 1 = .ok (.iconst 0, 1) := by decide +kernel
theorem dL_chance_2 : decode cL_chance 2 = .ok (.aload_n 0, 1) := by decide +kernel
theorem dL_chance_3 : decode cL_chance 3 = .ok (.iload_n 1, 1) := by decide +kernel
theorem dL_chance_4 : decode cL_chance 4 = .ok (.iload_n 2, 1) := by decide +kernel
theorem dL_chance_5 : decode cL_chance 5 = .ok (.invokevirtual 69, 3) := by decide +kernel
theorem dL_chance_8 : decode cL_chance 8 = .ok (.i2l, 1) := by decide +kernel
theorem dL_chance_9 : decode cL_chance 9 = .ok (.lastore, 1) := by decide +kernel
theorem dL_chance_10 : decode cL_chance 10 = .ok (.goto 7, 3) := by decide +kernel
theorem dL_chance_13 : decode cL_chance 13 = .ok (.astore 4, 2) := by decide +kernel
theorem dL_chance_15 : decode cL_chance 15 = .ok (.iconst 1, 1) := by decide +kernel
theorem dL_chance_16 : decode cL_chance 16 = .ok (.ireturn, 1) := by decide +kernel
theorem dL_chance_17 : decode cL_chance 17 = .ok (.iconst 0, 1) := by decide +kernel
theorem dL_chance_18 : decode cL_chance 18 = .ok (.ireturn, 1) := by decide +kernel
set_option maxRecDepth 20000 in
theorem ggL_ahead_X4_ahead : GoodIn wsL_ahead wsX4_ahead := goodIn_ca (goodIn_ca (goodIn_r _ [7, 8, 9, 10, 11, 12, 13, 14, 15, 16, 17, 18, 19, 20, 21, 6, 22, 23, 24, 25, 26, 27, 28, 29, 30, 31, 32, 33, 34, 35, 36, 37, 38, 39, 40, 41, 42, 43, 44, 45, 46, 47, 48, 49, 50, 51, 52, 53, 54, 55, 56, 57, 58, 59, 60, 61, 62, 63, 64, 65, 66, 67, 68, 69, 70, 71, 72, 73, 74, 75, 76, 77, 78, 79, 80, 81, 82, 83, 84, 85, 86, 87, 88, 89, 90, 91, 92, 93, 94, 95, 96, 97, 98, 99, 100, 101, 102, 103, 104, 105, 106] (by decide +kernel) (by decide +kernel)) (goodIn_sub (fun _ h => List.mem_cons_of_mem _ (List.mem_append_left _ (List.mem_append_right _ h))) (by decide +kernel))) (goodIn_sub (fun _ h => List.mem_cons_of_mem _ (List.mem_append_right _ h)) (by decide +kernel))
set_option maxRecDepth 20000 in
theorem gL_ahead_X4_ahead : GoodIn wsL_ahead (wsV RL 73 RX4 yX4_ahead wsX4_ahead) := goodIn_app (goodIn_of _ (by decide +kernel)) ggL_ahead_X4_ahead
theorem dL_ahead_0 : decode cL_ahead 0 = .ok (.aload 4, 2) := by decide +kernel
theorem dL_ahead_2 : decode cL_ahead 2 = .ok (.iconst 0, 1) := by decide +kernel
theorem dL_ahead_3 : decode cL_ahead 3 = .ok (.aload_n 0, 1) := by decide +kernel
theorem dL_ahead_4 : decode cL_ahead 4 = .ok (.iload_n 1, 1) := by decide +kernel
theorem dL_ahead_5 : decode cL_ahead 5 = .ok (.iload_n 2, 1) := by decide +kernel
theorem dL_ahead_6 : decode cL_ahead 6 = .ok (.iload_n 3, 1) := by decide +kernel
theorem dL_ahead_7 : decode cL_ahead 7 = .ok (.invokevirtual 73, 3) := by decide +kernel
theorem dL_ahead_10 : decode cL_ahead 10 = .ok (.i2l, 1) := by decide +kernel
theorem dL_ahead_11 : decode cL_ahead 11 = .ok (.lastore, 1) := by decide +kernel
theorem dL_ahead_12 : decode cL_ahead 12 = .ok (.goto 11, 3) := by decide +kernel
theorem dL_ahead_15 : decode cL_ahead 15 = .ok (.astore 5, 2) := by decide +kernel
theorem dL_ahead_17 : decode cL_ahead 17 = .ok (.iconst 1, 1) := by decide +kernel
theorem dL_ahead_18 : decode cL_ahead 18 = .ok (.ireturn, 1) := by decide +kernel
theorem dL_ahead_19 : decode cL_ahead 19 = .ok (.astore 5, 2) := by decide +kernel
theorem dL_ahead_21 : decode cL_ahead 21 = .ok (.iconst 2, 1) := by decide +kernel
theorem dL_ahead_22 : decode cL_ahead 22 = .ok (.ireturn, 1) := by decide +kernel
theorem dL_ahead_23 : decode cL_ahead 23 = .ok (.iconst 0, 1) := by decide +kernel
theorem dL_ahead_24 : decode cL_ahead 24 = .ok (.ireturn, 1) := by decide +kernel
set_option maxRecDepth 20000 in
theorem ggL_happens_X4_happens : GoodIn wsL_happens wsX4_happens := goodIn_ca (goodIn_r _ [6, 7, 8, 9, 10, 11, 12, 5, 13, 14, 15, 16, 17, 18, 19, 20, 21, 22, 23, 24, 25, 26, 27, 28, 29, 30, 31, 32, 33, 34, 35, 36, 37, 38, 39, 40, 41, 42, 43, 44, 45, 46, 47, 48, 49, 50, 51, 52, 53, 54, 55, 56, 57, 58, 59, 60, 61, 62, 63, 64, 65, 66, 67, 68, 69, 70, 71, 72, 73, 74, 75, 76, 77, 78, 79, 80, 81, 82, 83, 84, 85, 86, 87, 88, 89, 90, 91] (by decide +kernel) (by decide +kernel)) (goodIn_sub (fun _ h => List.mem_cons_of_mem _ (List.mem_append_right _ h)) (by decide +kernel))
set_option maxRecDepth 20000 in
theorem gL_happens_X4_happens : GoodIn wsL_happens (wsV RL 77 RX4 yX4_happens wsX4_happens) := goodIn_app (goodIn_of _ (by decide +kernel)) ggL_happens_X4_happens
theorem dL_happens_0 : decode cL_happens 0 = .ok (.aload_n 3, 1) := by decide +kernel
theorem dL_happens_1 : decode cL_happens 1 = .ok (.iconst 0, 1) := by decide +kernel
theorem dL_happens_2 : decode cL_happens 2 = .ok (.aload_n 0, 1) := by decide +kernel
theorem dL_happens_3 : decode cL_happens 3 = .ok (.iload_n 1, 1) := by decide +kernel
theorem dL_happens_4 : decode cL_happens 4 = .ok (.iload_n 2, 1) := by decide +kernel
theorem dL_happens_5 : decode cL_happens 5 = .ok (.invokevirtual 77, 3) := by decide +kernel
theorem dL_happens_8 : decode cL_happens 8 = .ok (.i2l, 1) := by decide +kernel
theorem dL_happens_9 : decode cL_happens 9 = .ok (.lastore, 1) := by decide +kernel
theorem dL_happens_10 : decode cL_happens 10 = .ok (.goto 7, 3) := by decide +kernel
theorem dL_happens_13 : decode cL_happens 13 = .ok (.astore 4, 2) := by decide +kernel
theorem dL_happens_15 : decode cL_happens 15 = .ok (.iconst 1, 1) := by decide +kernel
theorem dL_happens_16 : decode cL_happens 16 = .ok (.ireturn, 1) := by decide +kernel
theorem dL_happens_17 : decode cL_happens 17 = .ok (.iconst 0, 1) := by decide +kernel
theorem dL_happens_18 : decode cL_happens 18 = .ok (.ireturn, 1) := by decide +kernel
set_option maxRecDepth 20000 in
theorem ggL_bestLimit_X4_bestLimit : GoodIn wsL_bestLimit wsX4_bestLimit := goodIn_ca (goodIn_r _ [6, 7, 8, 9, 10, 11, 5, 12, 13, 14, 15, 16, 17, 18, 19, 20, 21, 22, 23, 24, 25, 26, 27, 28, 29, 30, 31, 32, 33, 34, 35, 36, 37, 38, 39, 40, 41, 42, 43, 44, 45, 46, 47, 48, 49, 50, 51, 52, 53, 54, 55, 56, 57, 58, 59, 60, 61, 62, 63, 64, 65, 66, 67, 68, 69, 70, 71, 72, 73, 74, 75, 76, 77, 78, 79, 80, 81, 82, 83, 84, 85, 86, 87, 88, 89, 90, 91, 92, 93, 94, 95, 96, 97] (by decide +kernel) (by decide +kernel)) (goodIn_sub (fun _ h => List.mem_cons_of_mem _ (List.mem_append_right _ h)) (by decide +kernel))
set_option maxRecDepth 20000 in
theorem gL_bestLimit_X4_bestLimit : GoodIn wsL_bestLimit (wsV RL 80 RX4 yX4_bestLimit wsX4_bestLimit) := goodIn_app (goodIn_of _ (by decide +kernel)) ggL_bestLimit_X4_bestLimit
theorem dL_bestLimit_0 : decode cL_bestLimit 0 = .ok (.aload_n 2, 1) := by decide +kernel
theorem dL_bestLimit_1 : decode cL_bestLimit 1 = .ok (.iconst 0, 1) := by decide +kernel
theorem dL_bestLimit_2 : decode cL_bestLimit 2 = .ok (.aload_n 0, 1) := by decide +kernel
theorem dL_bestLimit_3 : decode cL_bestLimit 3 = .ok (.iload_n 1, 1) := by decide +kernel
theorem dL_bestLimit_4 : decode cL_bestLimit 4 = .ok (.invokevirtual 80, 3) := by decide +kernel
theorem dL_bestLimit_7 : decode cL_bestLimit 7 = .ok (.i2l, 1) := by decide +kernel
theorem dL_bestLimit_8 : decode cL_bestLimit 8 = .ok (.lastore, 1) := by decide +kernel
theorem dL_bestLimit_9 : decode cL_bestLimit 9 = .ok (.goto 6, 3) := by decide +kernel
theorem dL_bestLimit_12 : decode cL_bestLimit 12 = .ok (.astore_n 3, 1) := by decide +kernel
theorem dL_bestLimit_13 : decode cL_bestLimit 13 = .ok (.iconst 1, 1) := by decide +kernel
theorem dL_bestLimit_14 : decode cL_bestLimit 14 = .ok (.ireturn, 1) := by decide +kernel
theorem dL_bestLimit_15 : decode cL_bestLimit 15 = .ok (.iconst 0, 1) := by decide +kernel
theorem dL_bestLimit_16 : decode cL_bestLimit 16 = .ok (.ireturn, 1) := by decide +kernel
set_option maxRecDepth 20000 in
theorem ggL_runScript_X4_runScript : GoodIn wsL_runScript wsX4_runScript := goodIn_ca (goodIn_r _ [6, 7, 8, 9, 10, 11, 12, 5, 13, 14, 15, 16, 17, 18, 19, 20, 21, 22, 23, 24, 25, 26, 27, 28, 29, 30, 31, 32, 33, 34, 35, 36, 37, 38, 39, 40, 41, 42, 43, 44, 45, 46, 47, 48, 49, 50, 51, 52, 53, 54, 55, 56, 57, 58, 59, 60, 61, 62, 63, 64, 65, 66, 67, 68, 69, 70, 71, 72, 73, 74, 75, 76, 77, 78, 79, 80, 81, 82, 83, 84, 85, 86, 87, 88, 89, 90, 91, 92, 93, 94, 95, 96, 97, 98, 99, 100, 101, 102, 103, 104, 105, 106, 107, 108, 109, 110, 111, 112, 113, 114, 115, 116, 117, 118, 119, 120, 121, 122, 123, 124, 125, 126, 127, 128, 129, 130, 131, 132, 133, 134, 135, 136, 137, 138, 139, 140, 141, 142, 143, 144, 145, 146, 147] (by decide +kernel) (by decide +kernel)) (goodIn_sub (fun _ h => List.mem_cons_of_mem _ (List.mem_append_right _ h)) (by decide +kernel))
set_option maxRecDepth 20000 in
theorem gL_runScript_X4_runScript : GoodIn wsL_runScript (wsV RL 83 RX4 yX4_runScript wsX4_runScript) := goodIn_app (goodIn_of _ (by decide +kernel)) ggL_runScript_X4_runScript
theorem dL_runScript_0 : decode cL_runScript 0 = .ok (.aload 4, 2) := by decide +kernel
theorem dL_runScript_2 : decode cL_runScript 2 = .ok (.iconst 0, 1) := by decide +kernel
theorem dL_runScript_3 : decode cL_runScript 3 = .ok (.aload_n 0, 1) := by decide +kernel
theorem dL_runScript_4 : decode cL_runScript 4 = .ok (.iload_n 1, 1) := by decide +kernel
theorem dL_runScript_5 : decode cL_runScript 5 = .ok (.lload_n 2, 1) := by decide +kernel
theorem dL_runScript_6 : decode cL_runScript 6 = .ok (.invokevirtual 83, 3) := by decide +kernel
theorem dL_runScript_9 : decode cL_runScript 9 = .ok (.i2l, 1) := by decide +kernel
theorem dL_runScript_10 : decode cL_runScript 10 = .ok (.lastore, 1) := by decide +kernel
theorem dL_runScript_11 : decode cL_runScript 11 = .ok (.goto 7, 3) := by decide +kernel
theorem dL_runScript_14 : decode cL_runScript 14 = .ok (.astore 5, 2) := by decide +kernel
theorem dL_runScript_16 : decode cL_runScript 16 = .ok (.iconst 1, 1) := by decide +kernel
theorem dL_runScript_17 : decode cL_runScript 17 = .ok (.ireturn, 1) := by decide +kernel
theorem dL_runScript_18 : decode cL_runScript 18 = .ok (.iconst 0, 1) := by decide +kernel
theorem dL_runScript_19 : decode cL_runScript 19 = .ok (.ireturn, 1) := by decide +kernel
set_option maxRecDepth 20000 in
theorem ggL_simulate_X4_simulate : GoodIn wsL_simulate wsX4_simulate := goodIn_ca (goodIn_r _ [6, 7, 8, 9, 10, 11, 12, 13, 5, 14, 15, 16, 17, 18, 19, 20, 21, 22, 23, 24, 25, 26, 27, 28, 29, 30, 31, 32, 33, 34, 35, 36, 37, 38, 39, 40, 41, 42, 43, 44, 45, 46, 47, 48, 49, 50, 51, 52, 53, 54, 55, 56, 57, 58, 59, 60, 61, 62, 63, 64, 65, 66, 67, 68, 69, 70, 71, 72, 73, 74, 75, 76, 77, 78, 79, 80, 81, 82, 83, 84, 85, 86, 87, 88, 89, 90, 91, 92, 93, 94, 95, 96, 97, 98, 99, 100, 101, 102, 103, 104] (by decide +kernel) (by decide +kernel)) (goodIn_sub (fun _ h => List.mem_cons_of_mem _ (List.mem_append_right _ h)) (by decide +kernel))
set_option maxRecDepth 20000 in
theorem gL_simulate_X4_simulate : GoodIn wsL_simulate (wsV RL 87 RX4 yX4_simulate wsX4_simulate) := goodIn_app (goodIn_of _ (by decide +kernel)) ggL_simulate_X4_simulate
theorem dL_simulate_0 : decode cL_simulate 0 = .ok (.aload 4, 2) := by decide +kernel
theorem dL_simulate_2 : decode cL_simulate 2 = .ok (.iconst 0, 1) := by decide +kernel
theorem dL_simulate_3 : decode cL_simulate 3 = .ok (.aload_n 0, 1) := by decide +kernel
theorem dL_simulate_4 : decode cL_simulate 4 = .ok (.lload_n 1, 1) := by decide +kernel
theorem dL_simulate_5 : decode cL_simulate 5 = .ok (.iload_n 3, 1) := by decide +kernel
theorem dL_simulate_6 : decode cL_simulate 6 = .ok (.invokevirtual 87, 3) := by decide +kernel
theorem dL_simulate_9 : decode cL_simulate 9 = .ok (.i2l, 1) := by decide +kernel
theorem dL_simulate_10 : decode cL_simulate 10 = .ok (.lastore, 1) := by decide +kernel
theorem dL_simulate_11 : decode cL_simulate 11 = .ok (.goto 7, 3) := by decide +kernel
theorem dL_simulate_14 : decode cL_simulate 14 = .ok (.astore 5, 2) := by decide +kernel
theorem dL_simulate_16 : decode cL_simulate 16 = .ok (.iconst 1, 1) := by decide +kernel
theorem dL_simulate_17 : decode cL_simulate 17 = .ok (.ireturn, 1) := by decide +kernel
theorem dL_simulate_18 : decode cL_simulate 18 = .ok (.iconst 0, 1) := by decide +kernel
theorem dL_simulate_19 : decode cL_simulate 19 = .ok (.ireturn, 1) := by decide +kernel
set_option maxRecDepth 20000 in
theorem ggL_save_X4_save : GoodIn wsL_save wsX4_save := goodIn_ca (goodIn_r _ [6, 7, 8, 9, 10, 11, 12, 13, 14, 15, 16, 17, 18, 19, 20, 21, 22, 23, 24, 25, 26, 27, 28, 29, 30, 31, 32, 33, 34, 35, 36, 37, 38, 39, 40, 41, 42, 43, 44, 45, 46, 47, 48, 49, 50, 51, 52, 53, 54, 55, 56, 57, 58, 59, 60, 61, 62, 63, 64, 65, 66, 67] (by decide +kernel) (by decide +kernel)) (goodIn_sub (fun _ h => List.mem_cons_of_mem _ (List.mem_append_right _ h)) (by decide +kernel))
set_option maxRecDepth 20000 in
theorem gL_save_X4_save : GoodIn wsL_save (wsV RL 91 RX4 yX4_save wsX4_save) := goodIn_app (goodIn_of _ (by decide +kernel)) ggL_save_X4_save
theorem dL_save_0 : decode cL_save 0 = .ok (.aload_n 2, 1) := by decide +kernel
theorem dL_save_1 : decode cL_save 1 = .ok (.iconst 0, 1) := by decide +kernel
theorem dL_save_2 : decode cL_save 2 = .ok (.aload_n 0, 1) := by decide +kernel
theorem dL_save_3 : decode cL_save 3 = .ok (.iload_n 1, 1) := by decide +kernel
theorem dL_save_4 : decode cL_save 4 = .ok (.invokevirtual 91, 3) := by decide +kernel
theorem dL_save_7 : decode cL_save 7 = .ok (.i2l, 1) := by decide +kernel
theorem dL_save_8 : decode cL_save 8 = .ok (.lastore, 1) := by decide +kernel
theorem dL_save_9 : decode cL_save 9 = .ok (.goto 6, 3) := by decide +kernel
theorem dL_save_12 : decode cL_save 12 = .ok (.astore_n 3, 1) := by decide +kernel
theorem dL_save_13 : decode cL_save 13 = .ok (.iconst 1, 1) := by decide +kernel
theorem dL_save_14 : decode cL_save 14 = .ok (.ireturn, 1) := by decide +kernel
theorem dL_save_15 : decode cL_save 15 = .ok (.iconst 0, 1) := by decide +kernel
theorem dL_save_16 : decode cL_save 16 = .ok (.ireturn, 1) := by decide +kernel
set_option maxRecDepth 20000 in
theorem ggL_restore_X4_restore : GoodIn wsL_restore wsX4_restore := goodIn_ca (goodIn_ca (goodIn_r _ [7, 8, 9, 10, 11, 12, 13, 14, 15, 16, 17, 18, 19, 20, 21, 22, 23, 24, 25, 26, 27, 28, 29, 30, 31, 32, 33, 34, 35, 36, 37, 38, 39, 40, 41, 42, 43, 44, 45, 46, 47, 48, 49, 50, 51, 52, 53, 54, 55, 56, 57, 58, 59, 60, 61, 62, 63, 64, 65, 66, 67, 68, 69, 70, 71] (by decide +kernel) (by decide +kernel)) (goodIn_sub (fun _ h => List.mem_cons_of_mem _ (List.mem_append_left _ (List.mem_append_right _ h))) (by decide +kernel))) (goodIn_sub (fun _ h => List.mem_cons_of_mem _ (List.mem_append_right _ h)) (by decide +kernel))
set_option maxRecDepth 20000 in
theorem gL_restore_X4_restore : GoodIn wsL_restore (wsV RL 94 RX4 yX4_restore wsX4_restore) := goodIn_app (goodIn_of _ (by decide +kernel)) ggL_restore_X4_restore
theorem dL_restore_0 : decode cL_restore 0 = .ok (.aload_n 2, 1) := by decide +kernel
theorem dL_restore_1 : decode cL_restore 1 = .ok (.iconst 0, 1) := by decide +kernel
theorem dL_restore_2 : decode cL_restore 2 = .ok (.aload_n 0, 1) := by decide +kernel
theorem dL_restore_3 : decode cL_restore 3 = .ok (.iload_n 1, 1) := by decide +kernel
theorem dL_restore_4 : decode cL_restore 4 = .ok (.invokevirtual 94, 3) := by decide +kernel
theorem dL_restore_7 : decode cL_restore 7 = .ok (.i2l, 1) := by decide +kernel
theorem dL_restore_8 : decode cL_restore 8 = .ok (.lastore, 1) := by decide +kernel
theorem dL_restore_9 : decode cL_restore 9 = .ok (.goto 9, 3) := by decide +kernel
theorem dL_restore_12 : decode cL_restore 12 = .ok (.astore_n 3, 1) := by decide +kernel
theorem dL_restore_13 : decode cL_restore 13 = .ok (.iconst 1, 1) := by decide +kernel
theorem dL_restore_14 : decode cL_restore 14 = .ok (.ireturn, 1) := by decide +kernel
theorem dL_restore_15 : decode cL_restore 15 = .ok (.astore_n 3, 1) := by decide +kernel
theorem dL_restore_16 : decode cL_restore 16 = .ok (.iconst 2, 1) := by decide +kernel
theorem dL_restore_17 : decode cL_restore 17 = .ok (.ireturn, 1) := by decide +kernel
theorem dL_restore_18 : decode cL_restore 18 = .ok (.iconst 0, 1) := by decide +kernel
theorem dL_restore_19 : decode cL_restore 19 = .ok (.ireturn, 1) := by decide +kernel
