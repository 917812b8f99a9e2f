theorem dX5_report_13 : decode cX5_report 13 = .ok (.ifCond .eq 5, 3) := by decide +kernel
theorem dX5_report_16 : decode cX5_report 16 = .ok (.iconst 0, 1) := by decide +kernel
theorem dX5_report_17 : decode cX5_report 17 = .ok (.ireturn, 1) := by decide +kernel
theorem dX5_report_18 : decode cX5_report 18 = .ok (.iload_n 1, 1) := by decide +kernel
theorem dX5_report_19 : decode cX5_report 19 = .ok (.aload_n 0, 1) := by decide +kernel
theorem dX5_report_20 : decode cX5_report 20 = .ok (.invokevirtual 149, 3) := by decide +kernel
theorem dX5_report_23 : decode cX5_report 23 = .ok (.if_icmp .ge 12, 3) := by decide +kernel
theorem dX5_report_26 : decode cX5_report 26 = .ok (.aload_n 0, 1) := by decide +kernel
theorem dX5_report_27 : decode cX5_report 27 = .ok (.getfield 35, 3) := by decide +kernel
theorem dX5_report_30 : decode cX5_report 30 = .ok (.iload_n 1, 1) := by decide +kernel
theorem dX5_report_31 : decode cX5_report 31 = .ok (.iaload, 1) := by decide +kernel
theorem dX5_report_32 : decode cX5_report 32 = .ok (.goto 5, 3) := by decide +kernel
theorem dX5_report_35 : decode cX5_report 35 = .ok (.bipush (-9), 2) := by decide +kernel
theorem dX5_report_37 : decode cX5_report 37 = .ok (.ireturn, 1) := by decide +kernel
set_option maxRecDepth 20000 in
theorem ggX5_step_X5_in : GoodIn wsX5_step wsX5_in := goodIn_r _ [6] (by decide +kernel) (by decide +kernel)
set_option maxRecDepth 20000 in
theorem gX5_step_X5_in : GoodIn wsX5_step (va_wsS RX5 54 yX5_in wsX5_in) := goodIn_app (goodIn_of _ (by decide +kernel)) ggX5_step_X5_in
set_option maxRecDepth 20000 in
theorem ggX5_step_X5_refused : GoodIn wsX5_step wsX5_refused := goodIn_r _ [10, 11, 58, 59, 60, 61, 62, 63, 64, 65, 66, 67, 68, 69, 70, 71, 72] (by decide +kernel) (by decide +kernel)
set_option maxRecDepth 20000 in
theorem gX5_step_X5_refused : GoodIn wsX5_step (wsV RX5 97 RX5 yX5_refused wsX5_refused) := goodIn_app (goodIn_of _ (by decide +kernel)) ggX5_step_X5_refused
set_option maxRecDepth 20000 in
theorem ggX5_step_X5_note : GoodIn wsX5_step wsX5_note := goodIn_r _ [15, 16, 17, 2, 18, 19, 5, 20, 58, 59, 60, 61, 62, 63, 64, 65, 66, 67, 68, 69, 70, 71, 72] (by decide +kernel) (by decide +kernel)
set_option maxRecDepth 20000 in
theorem gX5_step_X5_note : GoodIn wsX5_step (wsV RX5 154 RX5 yX5_note wsX5_note) := goodIn_app (goodIn_of _ (by decide +kernel)) ggX5_step_X5_note
set_option maxRecDepth 20000 in
theorem ggX5_step_X5_stepsOn : GoodIn wsX5_step wsX5_stepsOn := goodIn_r _ [24, 25, 26, 27, 28, 5, 29, 30, 31, 32, 33, 34, 35, 36, 37, 38, 39, 40, 41, 42, 43, 44, 45, 46, 47, 48, 49, 50, 51, 52, 53, 54, 58, 59, 60, 61, 62, 63, 64, 65, 66, 67, 68, 69, 70, 71, 72] (by decide +kernel) (by decide +kernel)
set_option maxRecDepth 20000 in
theorem gX5_step_X5_stepsOn : GoodIn wsX5_step (wsV RX5 157 RX5 yX5_stepsOn wsX5_stepsOn) := goodIn_app (goodIn_of _ (by decide +kernel)) ggX5_step_X5_stepsOn
set_option maxRecDepth 20000 in
theorem ggX5_step_X5_count : GoodIn wsX5_step wsX5_count := goodIn_r _ [57] (by decide +kernel) (by decide +kernel)
set_option maxRecDepth 20000 in
theorem gX5_step_X5_count : GoodIn wsX5_step (va_wsS RX5 115 yX5_count wsX5_count) := goodIn_app (goodIn_of _ (by decide +kernel)) ggX5_step_X5_count
theorem dX5_step_0 : decode cX5_step 0 = .ok (.aload_n 0, 1) := by decide +kernel
theorem dX5_step_1 : decode cX5_step 1 = .ok (.iload_n 1, 1) := by decide +kernel
theorem dX5_step_2 : decode cX5_step 2 = .ok (.i2l, 1) := by decide +kernel
theorem dX5_step_3 : decode cX5_step 3 = .ok (.lconst 1, 1) := by decide +kernel
theorem dX5_step_4 : decode cX5_step 4 = .ok (.ldc2_w 152, 3) := by decide +kernel
theorem dX5_step_7 : decode cX5_step 7 = .ok (.invokestatic 54, 3) := by decide +kernel
theorem dX5_step_10 : decode cX5_step 10 = .ok (.ifCond .eq 7, 3) := by decide +kernel
theorem dX5_step_13 : decode cX5_step 13 = .ok (.iconst 0, 1) := by decide +kernel
theorem dX5_step_14 : decode cX5_step 14 = .ok (.goto 4, 3) := by decide +kernel
theorem dX5_step_17 : decode cX5_step 17 = .ok (.iconst 1, 1) := by decide +kernel
theorem dX5_step_18 : decode cX5_step 18 = .ok (.invokevirtual 97, 3) := by decide +kernel
theorem dX5_step_21 : decode cX5_step 21 = .ok (.ifCond .eq 5, 3) := by decide +kernel
theorem dX5_step_24 : decode cX5_step 24 = .ok (.iconst 0, 1) := by decide +kernel
theorem dX5_step_25 : decode cX5_step 25 = .ok (.ireturn, 1) := by decide +kernel
theorem dX5_step_26 : decode cX5_step 26 = .ok (.aload_n 0, 1) := by decide +kernel
theorem dX5_step_27 : decode cX5_step 27 = .ok (.invokevirtual 154, 3) := by decide +kernel
theorem dX5_step_30 : decode cX5_step 30 = .ok (.aload_n 0, 1) := by decide +kernel
theorem dX5_step_31 : decode cX5_step 31 = .ok (.aload_n 0, 1) := by decide +kernel
theorem dX5_step_32 : decode cX5_step 32 = .ok (.getfield 16, 3) := by decide +kernel
theorem dX5_step_35 : decode cX5_step 35 = .ok (.iload_n 1, 1) := by decide +kernel
theorem dX5_step_36 : decode cX5_step 36 = .ok (.invokevirtual 157, 3) := by decide +kernel
theorem dX5_step_39 : decode cX5_step 39 = .ok (.aload_n 0, 1) := by decide +kernel
theorem dX5_step_40 : decode cX5_step 40 = .ok (.getfield 16, 3) := by decide +kernel
theorem dX5_step_43 : decode cX5_step 43 = .ok (.iconst 2, 1) := by decide +kernel
theorem dX5_step_44 : decode cX5_step 44 = .ok (.invokestatic 115, 3) := by decide +kernel
theorem dX5_step_47 : decode cX5_step 47 = .ok (.ireturn, 1) := by decide +kernel
set_option maxRecDepth 20000 in
theorem ggX5_addGrip_X5_in : GoodIn wsX5_addGrip wsX5_in := goodIn_r _ [6] (by decide +kernel) (by decide +kernel)
set_option maxRecDepth 20000 in
theorem gX5_addGrip_X5_in : GoodIn wsX5_addGrip (va_wsS RX5 54 yX5_in wsX5_in) := goodIn_app (goodIn_of _ (by decide +kernel)) ggX5_addGrip_X5_in
set_option maxRecDepth 20000 in
theorem ggX5_addGrip_X5_refused : GoodIn wsX5_addGrip wsX5_refused := goodIn_r _ [10, 11, 24, 25, 26, 27, 28, 29, 30, 31, 32, 33, 34, 35, 36, 37, 38] (by decide +kernel) (by decide +kernel)
set_option maxRecDepth 20000 in
theorem gX5_addGrip_X5_refused : GoodIn wsX5_addGrip (wsV RX5 97 RX5 yX5_refused wsX5_refused) := goodIn_app (goodIn_of _ (by decide +kernel)) ggX5_addGrip_X5_refused
set_option maxRecDepth 20000 in
theorem ggX5_addGrip_X5_note : GoodIn wsX5_addGrip wsX5_note := goodIn_r _ [15, 16, 17, 2, 18, 19, 5, 20, 24, 25, 26, 27, 28, 29, 30, 31, 32, 33, 34, 35, 36, 37, 38] (by decide +kernel) (by decide +kernel)
set_option maxRecDepth 20000 in
theorem gX5_addGrip_X5_note : GoodIn wsX5_addGrip (wsV RX5 154 RX5 yX5_note wsX5_note) := goodIn_app (goodIn_of _ (by decide +kernel)) ggX5_addGrip_X5_note
set_option maxRecDepth 20000 in
theorem ggX5_addGrip_X5_addOn : GoodIn wsX5_addGrip wsX5_addOn := goodIn_r _ [23] (by decide +kernel) (by decide +kernel)
set_option maxRecDepth 20000 in
theorem gX5_addGrip_X5_addOn : GoodIn wsX5_addGrip (va_wsS RX5 122 yX5_addOn wsX5_addOn) := goodIn_app (goodIn_of _ (by decide +kernel)) ggX5_addGrip_X5_addOn
theorem dX5_addGrip_0 : decode cX5_addGrip 0 = .ok (.aload_n 0, 1) := by decide +kernel
theorem dX5_addGrip_1 : decode cX5_addGrip 1 = .ok (.iload_n 1, 1) := by decide +kernel
theorem dX5_addGrip_2 : decode cX5_addGrip 2 = .ok (.i2l, 1) := by decide +kernel
theorem dX5_addGrip_3 : decode cX5_addGrip 3 = .ok (.lconst 0, 1) := by decide +kernel
theorem dX5_addGrip_4 : decode cX5_addGrip 4 = .ok (.ldc2_w 161, 3) := by decide +kernel
theorem dX5_addGrip_7 : decode cX5_addGrip 7 = .ok (.invokestatic 54, 3) := by decide +kernel
theorem dX5_addGrip_10 : decode cX5_addGrip 10 = .ok (.ifCond .ne 7, 3) := by decide +kernel
theorem dX5_addGrip_13 : decode cX5_addGrip 13 = .ok (.iconst 1, 1) := by decide +kernel
theorem dX5_addGrip_14 : decode cX5_addGrip 14 = .ok (.goto 20, 3) := by decide +kernel
theorem dX5_addGrip_17 : decode cX5_addGrip 17 = .ok (.aload_n 0, 1) := by decide +kernel
theorem dX5_addGrip_18 : decode cX5_addGrip 18 = .ok (.getfield 16, 3) := by decide +kernel
theorem dX5_addGrip_21 : decode cX5_addGrip 21 = .ok (.bipush 96, 2) := by decide +kernel
theorem dX5_addGrip_23 : decode cX5_addGrip 23 = .ok (.iaload, 1) := by decide +kernel
theorem dX5_addGrip_24 : decode cX5_addGrip 24 = .ok (.bipush 12, 2) := by decide +kernel
theorem dX5_addGrip_26 : decode cX5_addGrip 26 = .ok (.if_icmp .ne 7, 3) := by decide +kernel
theorem dX5_addGrip_29 : decode cX5_addGrip 29 = .ok (.iconst 2, 1) := by decide +kernel
theorem dX5_addGrip_30 : decode cX5_addGrip 30 = .ok (.goto 4, 3) := by decide +kernel
theorem dX5_addGrip_33 : decode cX5_addGrip 33 = .ok (.iconst 0, 1) := by decide +kernel
theorem dX5_addGrip_34 : decode cX5_addGrip 34 = .ok (.invokevirtual 97, 3) := by decide +kernel
theorem dX5_addGrip_37 : decode cX5_addGrip 37 = .ok (.ifCond .eq 5, 3) := by decide +kernel
theorem dX5_addGrip_40 : decode cX5_addGrip 40 = .ok (.iconst 0, 1) := by decide +kernel
theorem dX5_addGrip_41 : decode cX5_addGrip 41 = .ok (.ireturn, 1) := by decide +kernel
theorem dX5_addGrip_42 : decode cX5_addGrip 42 = .ok (.aload_n 0, 1) := by decide +kernel
theorem dX5_addGrip_43 : decode cX5_addGrip 43 = .ok (.invokevirtual 154, 3) := by decide +kernel
theorem dX5_addGrip_46 : decode cX5_addGrip 46 = .ok (.aload_n 0, 1) := by decide +kernel
theorem dX5_addGrip_47 : decode cX5_addGrip 47 = .ok (.getfield 16, 3) := by decide +kernel
theorem dX5_addGrip_50 : decode cX5_addGrip 50 = .ok (.iload_n 1, 1) := by decide +kernel
theorem dX5_addGrip_51 : decode cX5_addGrip 51 = .ok (.iconst 1, 1) := by decide +kernel
theorem dX5_addGrip_52 : decode cX5_addGrip 52 = .ok (.iconst 0, 1) := by decide +kernel
theorem dX5_addGrip_53 : decode cX5_addGrip 53 = .ok (.invokestatic 122, 3) := by decide +kernel
theorem dX5_addGrip_56 : decode cX5_addGrip 56 = .ok (.aload_n 0, 1) := by decide +kernel
theorem dX5_addGrip_57 : decode cX5_addGrip 57 = .ok (.getfield 16, 3) := by decide +kernel
theorem dX5_addGrip_60 : decode cX5_addGrip 60 = .ok (.bipush 96, 2) := by decide +kernel
theorem dX5_addGrip_62 : decode cX5_addGrip 62 = .ok (.iaload, 1) := by decide +kernel
theorem dX5_addGrip_63 : decode cX5_addGrip 63 = .ok (.iconst 1, 1) := by decide +kernel
theorem dX5_addGrip_64 : decode cX5_addGrip 64 = .ok (.isub, 1) := by decide +kernel
theorem dX5_addGrip_65 : decode cX5_addGrip 65 = .ok (.ireturn, 1) := by decide +kernel
set_option maxRecDepth 20000 in
theorem ggX5_canPut_X5_isFree : GoodIn wsX5_canPut wsX5_isFree := goodIn_r _ [5, 6, 7, 4, 8, 9, 10, 11, 12, 13, 14, 15, 16, 17, 18, 19, 20, 21, 22, 23, 24, 25, 26, 27, 28] (by decide +kernel) (by decide +kernel)
set_option maxRecDepth 20000 in
theorem gX5_canPut_X5_isFree : GoodIn wsX5_canPut (wsV RX5 84 RX5 yX5_isFree wsX5_isFree) := goodIn_app (goodIn_of _ (by decide +kernel)) ggX5_canPut_X5_isFree
theorem dX5_canPut_0 : decode cX5_canPut 0 = .ok (.aload_n 1, 1) := by decide +kernel
theorem dX5_canPut_1 : decode cX5_canPut 1 = .ok (.bipush 60, 2) := by decide +kernel
theorem dX5_canPut_3 : decode cX5_canPut 3 = .ok (.iload_n 2, 1) := by decide +kernel
theorem dX5_canPut_4 : decode cX5_canPut 4 = .ok (.iadd, 1) := by decide +kernel
theorem dX5_canPut_5 : decode cX5_canPut 5 = .ok (.iaload, 1) := by decide +kernel
theorem dX5_canPut_6 : decode cX5_canPut 6 = .ok (.iconst 1, 1) := by decide +kernel
theorem dX5_canPut_7 : decode cX5_canPut 7 = .ok (.if_icmp .ne 16, 3) := by decide +kernel
theorem dX5_canPut_10 : decode cX5_canPut 10 = .ok (.aload_n 0, 1) := by decide +kernel
theorem dX5_canPut_11 : decode cX5_canPut 11 = .ok (.aload_n 1, 1) := by decide +kernel
theorem dX5_canPut_12 : decode cX5_canPut 12 = .ok (.iload_n 3, 1) := by decide +kernel
theorem dX5_canPut_13 : decode cX5_canPut 13 = .ok (.invokevirtual 84, 3) := by decide +kernel
theorem dX5_canPut_16 : decode cX5_canPut 16 = .ok (.ifCond .eq 7, 3) := by decide +kernel
theorem dX5_canPut_19 : decode cX5_canPut 19 = .ok (.iconst 1, 1) := by decide +kernel
theorem dX5_canPut_20 : decode cX5_canPut 20 = .ok (.goto 4, 3) := by decide +kernel
theorem dX5_canPut_23 : decode cX5_canPut 23 = .ok (.iconst 0, 1) := by decide +kernel
theorem dX5_canPut_24 : decode cX5_canPut 24 = .ok (.ireturn, 1) := by decide +kernel
theorem dX5_putAt_0 : decode cX5_putAt 0 = .ok (.aload_n 0, 1) := by decide +kernel
theorem dX5_putAt_1 : decode cX5_putAt 1 = .ok (.bipush 60, 2) := by decide +kernel
theorem dX5_putAt_3 : decode cX5_putAt 3 = .ok (.iload_n 1, 1) := by decide +kernel
theorem dX5_putAt_4 : decode cX5_putAt 4 = .ok (.iadd, 1) := by decide +kernel
theorem dX5_putAt_5 : decode cX5_putAt 5 = .ok (.iconst 0, 1) := by decide +kernel
theorem dX5_putAt_6 : decode cX5_putAt 6 = .ok (.iastore, 1) := by decide +kernel
theorem dX5_putAt_7 : decode cX5_putAt 7 = .ok (.aload_n 0, 1) := by decide +kernel
theorem dX5_putAt_8 : decode cX5_putAt 8 = .ok (.bipush 72, 2) := by decide +kernel
theorem dX5_putAt_10 : decode cX5_putAt 10 = .ok (.iload_n 1, 1) := by decide +kernel
theorem dX5_putAt_11 : decode cX5_putAt 11 = .ok (.iadd, 1) := by decide +kernel
theorem dX5_putAt_12 : decode cX5_putAt 12 = .ok (.iload_n 2, 1) := by decide +kernel
theorem dX5_putAt_13 : decode cX5_putAt 13 = .ok (.iastore, 1) := by decide +kernel
theorem dX5_putAt_14 : decode cX5_putAt 14 = .ok (.return_, 1) := by decide +kernel
set_option maxRecDepth 20000 in
theorem ggX5_putOn_X5_isGrip : GoodIn wsX5_putOn wsX5_isGrip := goodIn_r _ [6, 1, 7, 8, 5, 9, 50, 51, 52, 53, 54, 55, 56, 57, 58, 59, 60, 61, 62, 63, 64] (by decide +kernel) (by decide +kernel)
set_option maxRecDepth 20000 in
theorem gX5_putOn_X5_isGrip : GoodIn wsX5_putOn (wsV RX5 138 RX5 yX5_isGrip wsX5_isGrip) := goodIn_app (goodIn_of _ (by decide +kernel)) ggX5_putOn_X5_isGrip
set_option maxRecDepth 20000 in
theorem ggX5_putOn_X5_isSlot : GoodIn wsX5_putOn wsX5_isSlot := goodIn_r _ [13, 14, 7, 8, 5, 9, 50, 51, 52, 53, 54, 55, 56, 57, 58, 59, 60, 61, 62, 63, 64] (by decide +kernel) (by decide +kernel)
set_option maxRecDepth 20000 in
theorem gX5_putOn_X5_isSlot : GoodIn wsX5_putOn (wsV RX5 146 RX5 yX5_isSlot wsX5_isSlot) := goodIn_app (goodIn_of _ (by decide +kernel)) ggX5_putOn_X5_isSlot
set_option maxRecDepth 20000 in
theorem ggX5_putOn_X5_canPut : GoodIn wsX5_putOn wsX5_canPut := goodIn_r _ [18, 19, 20, 21, 5, 22, 23, 24, 25, 26, 27, 28, 29, 14, 50, 51, 52, 53, 54, 55, 56, 57, 58, 59, 60, 61, 62, 63, 64] (by decide +kernel) (by decide +kernel)
set_option maxRecDepth 20000 in
theorem gX5_putOn_X5_canPut : GoodIn wsX5_putOn (wsV RX5 163 RX5 yX5_canPut wsX5_canPut) := goodIn_app (goodIn_of _ (by decide +kernel)) ggX5_putOn_X5_canPut
set_option maxRecDepth 20000 in
theorem ggX5_putOn_X5_refused : GoodIn wsX5_putOn wsX5_refused := goodIn_r _ [33, 34, 50, 51, 52, 53, 54, 55, 56, 57, 58, 59, 60, 61, 62, 63, 64] (by decide +kernel) (by decide +kernel)
set_option maxRecDepth 20000 in
theorem gX5_putOn_X5_refused : GoodIn wsX5_putOn (wsV RX5 97 RX5 yX5_refused wsX5_refused) := goodIn_app (goodIn_of _ (by decide +kernel)) ggX5_putOn_X5_refused
set_option maxRecDepth 20000 in
theorem ggX5_putOn_X5_note : GoodIn wsX5_putOn wsX5_note := goodIn_r _ [38, 39, 40, 1, 41, 42, 5, 43, 50, 51, 52, 53, 54, 55, 56, 57, 58, 59, 60, 61, 62, 63, 64] (by decide +kernel) (by decide +kernel)
set_option maxRecDepth 20000 in
theorem gX5_putOn_X5_note : GoodIn wsX5_putOn (wsV RX5 154 RX5 yX5_note wsX5_note) := goodIn_app (goodIn_of _ (by decide +kernel)) ggX5_putOn_X5_note
set_option maxRecDepth 20000 in
theorem ggX5_putOn_X5_putAt : GoodIn wsX5_putOn wsX5_putAt := goodIn_r _ [46] (by decide +kernel) (by decide +kernel)
set_option maxRecDepth 20000 in
theorem gX5_putOn_X5_putAt : GoodIn wsX5_putOn (va_wsS RX5 167 yX5_putAt wsX5_putAt) := goodIn_app (goodIn_of _ (by decide +kernel)) ggX5_putOn_X5_putAt
set_option maxRecDepth 20000 in
theorem ggX5_putOn_X5_count : GoodIn wsX5_putOn wsX5_count := goodIn_r _ [49] (by decide +kernel) (by decide +kernel)
set_option maxRecDepth 20000 in
theorem gX5_putOn_X5_count : GoodIn wsX5_putOn (va_wsS RX5 115 yX5_count wsX5_count) := goodIn_app (goodIn_of _ (by decide +kernel)) ggX5_putOn_X5_count
theorem dX5_putOn_0 : decode cX5_putOn 0 = .ok (.aload_n 0, 1) := by decide +kernel
theorem dX5_putOn_1 : decode cX5_putOn 1 = .ok (.aload_n 0, 1) := by decide +kernel
theorem dX5_putOn_2 : decode cX5_putOn 2 = .ok (.iload_n 1, 1) := by decide +kernel
theorem dX5_putOn_3 : decode cX5_putOn 3 = .ok (.invokevirtual 138, 3) := by decide +kernel
theorem dX5_putOn_6 : decode cX5_putOn 6 = .ok (.ifCond .eq 11, 3) := by decide +kernel
theorem dX5_putOn_9 : decode cX5_putOn 9 = .ok (.aload_n 0, 1) := by decide +kernel
theorem dX5_putOn_10 : decode cX5_putOn 10 = .ok (.iload_n 2, 1) := by decide +kernel
theorem dX5_putOn_11 : decode cX5_putOn 11 = .ok (.invokevirtual 146, 3) := by decide +kernel
theorem dX5_putOn_14 : decode cX5_putOn 14 = .ok (.ifCond .ne 7, 3) := by decide +kernel
theorem dX5_putOn_17 : decode cX5_putOn 17 = .ok (.iconst 1, 1) := by decide +kernel
theorem dX5_putOn_18 : decode cX5_putOn 18 = .ok (.goto 21, 3) := by decide +kernel
theorem dX5_putOn_21 : decode cX5_putOn 21 = .ok (.aload_n 0, 1) := by decide +kernel
theorem dX5_putOn_22 : decode cX5_putOn 22 = .ok (.aload_n 0, 1) := by decide +kernel
theorem dX5_putOn_23 : decode cX5_putOn 23 = .ok (.getfield 16, 3) := by decide +kernel
theorem dX5_putOn_26 : decode cX5_putOn 26 = .ok (.iload_n 1, 1) := by decide +kernel
theorem dX5_putOn_27 : decode cX5_putOn 27 = .ok (.iload_n 2, 1) := by decide +kernel
theorem dX5_putOn_28 : decode cX5_putOn 28 = .ok (.invokevirtual 163, 3) := by decide +kernel
theorem dX5_putOn_31 : decode cX5_putOn 31 = .ok (.ifCond .ne 7, 3) := by decide +kernel
theorem dX5_putOn_34 : decode cX5_putOn 34 = .ok (.iconst 2, 1) := by decide +kernel
theorem dX5_putOn_35 : decode cX5_putOn 35 = .ok (.goto 4, 3) := by decide +kernel
theorem dX5_putOn_38 : decode cX5_putOn 38 = .ok (.iconst 0, 1) := by decide +kernel
theorem dX5_putOn_39 : decode cX5_putOn 39 = .ok (.invokevirtual 97, 3) := by decide +kernel
theorem dX5_putOn_42 : decode cX5_putOn 42 = .ok (.ifCond .eq 5, 3) := by decide +kernel
theorem dX5_putOn_45 : decode cX5_putOn 45 = .ok (.iconst 0, 1) := by decide +kernel
theorem dX5_putOn_46 : decode cX5_putOn 46 = .ok (.ireturn, 1) := by decide +kernel
theorem dX5_putOn_47 : decode cX5_putOn 47 = .ok (.aload_n 0, 1) := by decide +kernel
theorem dX5_putOn_48 : decode cX5_putOn 48 = .ok (.invokevirtual 154, 3) := by decide +kernel
theorem dX5_putOn_51 : decode cX5_putOn 51 = .ok (.aload_n 0, 1) := by decide +kernel
theorem dX5_putOn_52 : decode cX5_putOn 52 = .ok (.getfield 16, 3) := by decide +kernel
theorem dX5_putOn_55 : decode cX5_putOn 55 = .ok (.iload_n 1, 1) := by decide +kernel
theorem dX5_putOn_56 : decode cX5_putOn 56 = .ok (.iload_n 2, 1) := by decide +kernel
theorem dX5_putOn_57 : decode cX5_putOn 57 = .ok (.invokestatic 167, 3) := by decide +kernel
theorem dX5_putOn_60 : decode cX5_putOn 60 = .ok (.aload_n 0, 1) := by decide +kernel
theorem dX5_putOn_61 : decode cX5_putOn 61 = .ok (.getfield 16, 3) := by decide +kernel
theorem dX5_putOn_64 : decode cX5_putOn 64 = .ok (.iconst 0, 1) := by decide +kernel
theorem dX5_putOn_65 : decode cX5_putOn 65 = .ok (.invokestatic 115, 3) := by decide +kernel
theorem dX5_putOn_68 : decode cX5_putOn 68 = .ok (.ireturn, 1) := by decide +kernel
set_option maxRecDepth 20000 in
theorem ggX5_takeOff_X5_isGrip : GoodIn wsX5_takeOff wsX5_isGrip := goodIn_r _ [6, 1, 7, 8, 5, 9, 24, 25, 26, 27, 28, 29, 30, 31, 32, 33, 34, 35, 36, 37, 38] (by decide +kernel) (by decide +kernel)
set_option maxRecDepth 20000 in
theorem gX5_takeOff_X5_isGrip : GoodIn wsX5_takeOff (wsV RX5 138 RX5 yX5_isGrip wsX5_isGrip) := goodIn_app (goodIn_of _ (by decide +kernel)) ggX5_takeOff_X5_isGrip
set_option maxRecDepth 20000 in
theorem ggX5_takeOff_X5_refused : GoodIn wsX5_takeOff wsX5_refused := goodIn_r _ [13, 14, 24, 25, 26, 27, 28, 29, 30, 31, 32, 33, 34, 35, 36, 37, 38] (by decide +kernel) (by decide +kernel)
set_option maxRecDepth 20000 in
theorem gX5_takeOff_X5_refused : GoodIn wsX5_takeOff (wsV RX5 97 RX5 yX5_refused wsX5_refused) := goodIn_app (goodIn_of _ (by decide +kernel)) ggX5_takeOff_X5_refused
set_option maxRecDepth 20000 in
theorem ggX5_takeOff_X5_note : GoodIn wsX5_takeOff wsX5_note := goodIn_r _ [18, 19, 20, 1, 21, 22, 5, 23, 24, 25, 26, 27, 28, 29, 30, 31, 32, 33, 34, 35, 36, 37, 38] (by decide +kernel) (by decide +kernel)
set_option maxRecDepth 20000 in
theorem gX5_takeOff_X5_note : GoodIn wsX5_takeOff (wsV RX5 154 RX5 yX5_note wsX5_note) := goodIn_app (goodIn_of _ (by decide +kernel)) ggX5_takeOff_X5_note
theorem dX5_takeOff_0 : decode cX5_takeOff 0 = .ok (.aload_n 0, 1) := by decide +kernel
theorem dX5_takeOff_1 : decode cX5_takeOff 1 = .ok (.aload_n 0, 1) := by decide +kernel
theorem dX5_takeOff_2 : decode cX5_takeOff 2 = .ok (.iload_n 1, 1) := by decide +kernel
theorem dX5_takeOff_3 : decode cX5_takeOff 3 = .ok (.invokevirtual 138, 3) := by decide +kernel
theorem dX5_takeOff_6 : decode cX5_takeOff 6 = .ok (.ifCond .ne 7, 3) := by decide +kernel
theorem dX5_takeOff_9 : decode cX5_takeOff 9 = .ok (.iconst 1, 1) := by decide +kernel
theorem dX5_takeOff_10 : decode cX5_takeOff 10 = .ok (.goto 20, 3) := by decide +kernel
theorem dX5_takeOff_13 : decode cX5_takeOff 13 = .ok (.aload_n 0, 1) := by decide +kernel
theorem dX5_takeOff_14 : decode cX5_takeOff 14 = .ok (.getfield 16, 3) := by decide +kernel
theorem dX5_takeOff_17 : decode cX5_takeOff 17 = .ok (.bipush 60, 2) := by decide +kernel
theorem dX5_takeOff_19 : decode cX5_takeOff 19 = .ok (.iload_n 1, 1) := by decide +kernel
theorem dX5_takeOff_20 : decode cX5_takeOff 20 = .ok (.iadd, 1) := by decide +kernel
theorem dX5_takeOff_21 : decode cX5_takeOff 21 = .ok (.iaload, 1) := by decide +kernel
theorem dX5_takeOff_22 : decode cX5_takeOff 22 = .ok (.ifCond .eq 7, 3) := by decide +kernel
theorem dX5_takeOff_25 : decode cX5_takeOff 25 = .ok (.iconst 2, 1) := by decide +kernel
theorem dX5_takeOff_26 : decode cX5_takeOff 26 = .ok (.goto 4, 3) := by decide +kernel
theorem dX5_takeOff_29 : decode cX5_takeOff 29 = .ok (.iconst 0, 1) := by decide +kernel
theorem dX5_takeOff_30 : decode cX5_takeOff 30 = .ok (.invokevirtual 97, 3) := by decide +kernel
theorem dX5_takeOff_33 : decode cX5_takeOff 33 = .ok (.ifCond .eq 5, 3) := by decide +kernel
theorem dX5_takeOff_36 : decode cX5_takeOff 36 = .ok (.iconst 0, 1) := by decide +kernel
theorem dX5_takeOff_37 : decode cX5_takeOff 37 = .ok (.ireturn, 1) := by decide +kernel
theorem dX5_takeOff_38 : decode cX5_takeOff 38 = .ok (.aload_n 0, 1) := by decide +kernel
theorem dX5_takeOff_39 : decode cX5_takeOff 39 = .ok (.invokevirtual 154, 3) := by decide +kernel
theorem dX5_takeOff_42 : decode cX5_takeOff 42 = .ok (.aload_n 0, 1) := by decide +kernel
theorem dX5_takeOff_43 : decode cX5_takeOff 43 = .ok (.getfield 16, 3) := by decide +kernel
theorem dX5_takeOff_46 : decode cX5_takeOff 46 = .ok (.bipush 60, 2) := by decide +kernel
theorem dX5_takeOff_48 : decode cX5_takeOff 48 = .ok (.iload_n 1, 1) := by decide +kernel
theorem dX5_takeOff_49 : decode cX5_takeOff 49 = .ok (.iadd, 1) := by decide +kernel
theorem dX5_takeOff_50 : decode cX5_takeOff 50 = .ok (.iconst 1, 1) := by decide +kernel
theorem dX5_takeOff_51 : decode cX5_takeOff 51 = .ok (.iastore, 1) := by decide +kernel
theorem dX5_takeOff_52 : decode cX5_takeOff 52 = .ok (.aload_n 0, 1) := by decide +kernel
theorem dX5_takeOff_53 : decode cX5_takeOff 53 = .ok (.getfield 16, 3) := by decide +kernel
theorem dX5_takeOff_56 : decode cX5_takeOff 56 = .ok (.bipush 72, 2) := by decide +kernel
theorem dX5_takeOff_58 : decode cX5_takeOff 58 = .ok (.iload_n 1, 1) := by decide +kernel
theorem dX5_takeOff_59 : decode cX5_takeOff 59 = .ok (.iadd, 1) := by decide +kernel
theorem dX5_takeOff_60 : decode cX5_takeOff 60 = .ok (.iaload, 1) := by decide +kernel
theorem dX5_takeOff_61 : decode cX5_takeOff 61 = .ok (.ireturn, 1) := by decide +kernel
set_option maxRecDepth 20000 in
theorem ggX5_scrap_X5_isGrip : GoodIn wsX5_scrap wsX5_isGrip := goodIn_r _ [6, 1, 7, 8, 5, 9, 24, 25, 26, 27, 28, 29, 30, 31, 32, 33, 34, 35, 36, 37, 38] (by decide +kernel) (by decide +kernel)
set_option maxRecDepth 20000 in
theorem gX5_scrap_X5_isGrip : GoodIn wsX5_scrap (wsV RX5 138 RX5 yX5_isGrip wsX5_isGrip) := goodIn_app (goodIn_of _ (by decide +kernel)) ggX5_scrap_X5_isGrip
set_option maxRecDepth 20000 in
theorem ggX5_scrap_X5_refused : GoodIn wsX5_scrap wsX5_refused := goodIn_r _ [13, 14, 24, 25, 26, 27, 28, 29, 30, 31, 32, 33, 34, 35, 36, 37, 38] (by decide +kernel) (by decide +kernel)
set_option maxRecDepth 20000 in
theorem gX5_scrap_X5_refused : GoodIn wsX5_scrap (wsV RX5 97 RX5 yX5_refused wsX5_refused) := goodIn_app (goodIn_of _ (by decide +kernel)) ggX5_scrap_X5_refused
set_option maxRecDepth 20000 in
theorem ggX5_scrap_X5_note : GoodIn wsX5_scrap wsX5_note := goodIn_r _ [18, 19, 20, 1, 21, 22, 5, 23, 24, 25, 26, 27, 28, 29, 30, 31, 32, 33, 34, 35, 36, 37, 38] (by decide +kernel) (by decide +kernel)
set_option maxRecDepth 20000 in
theorem gX5_scrap_X5_note : GoodIn wsX5_scrap (wsV RX5 154 RX5 yX5_note wsX5_note) := goodIn_app (goodIn_of _ (by decide +kernel)) ggX5_scrap_X5_note
theorem dX5_scrap_0 : decode cX5_scrap 0 = .ok (.aload_n 0, 1) := by decide +kernel
theorem dX5_scrap_1 : decode cX5_scrap 1 = .ok (.aload_n 0, 1) := by decide +kernel
theorem dX5_scrap_2 : decode cX5_scrap 2 = .ok (.iload_n 1, 1) := by decide +kernel
theorem dX5_scrap_3 : decode cX5_scrap 3 = .ok (.invokevirtual 138, 3) := by decide +kernel
theorem dX5_scrap_6 : decode cX5_scrap 6 = .ok (.ifCond .ne 7, 3) := by decide +kernel
theorem dX5_scrap_9 : decode cX5_scrap 9 = .ok (.iconst 1, 1) := by decide +kernel
theorem dX5_scrap_10 : decode cX5_scrap 10 = .ok (.goto 21, 3) := by decide +kernel
theorem dX5_scrap_13 : decode cX5_scrap 13 = .ok (.aload_n 0, 1) := by decide +kernel
theorem dX5_scrap_14 : decode cX5_scrap 14 = .ok (.getfield 16, 3) := by decide +kernel
theorem dX5_scrap_17 : decode cX5_scrap 17 = .ok (.bipush 60, 2) := by decide +kernel
theorem dX5_scrap_19 : decode cX5_scrap 19 = .ok (.iload_n 1, 1) := by decide +kernel
theorem dX5_scrap_20 : decode cX5_scrap 20 = .ok (.iadd, 1) := by decide +kernel
theorem dX5_scrap_21 : decode cX5_scrap 21 = .ok (.iaload, 1) := by decide +kernel
theorem dX5_scrap_22 : decode cX5_scrap 22 = .ok (.iconst 3, 1) := by decide +kernel
theorem dX5_scrap_23 : decode cX5_scrap 23 = .ok (.if_icmp .ne 7, 3) := by decide +kernel
theorem dX5_scrap_26 : decode cX5_scrap 26 = .ok (.iconst 2, 1) := by decide +kernel
theorem dX5_scrap_27 : decode cX5_scrap 27 = .ok (.goto 4, 3) := by decide +kernel
theorem dX5_scrap_30 : decode cX5_scrap 30 = .ok (.iconst 0, 1) := by decide +kernel
theorem dX5_scrap_31 : decode cX5_scrap 31 = .ok (.invokevirtual 97, 3) := by decide +kernel
theorem dX5_scrap_34 : decode cX5_scrap 34 = .ok (.ifCond .eq 5, 3) := by decide +kernel
theorem dX5_scrap_37 : decode cX5_scrap 37 = .ok (.iconst 0, 1) := by decide +kernel
theorem dX5_scrap_38 : decode cX5_scrap 38 = .ok (.ireturn, 1) := by decide +kernel
theorem dX5_scrap_39 : decode cX5_scrap 39 = .ok (.aload_n 0, 1) := by decide +kernel
theorem dX5_scrap_40 : decode cX5_scrap 40 = .ok (.invokevirtual 154, 3) := by decide +kernel
theorem dX5_scrap_43 : decode cX5_scrap 43 = .ok (.aload_n 0, 1) := by decide +kernel
theorem dX5_scrap_44 : decode cX5_scrap 44 = .ok (.getfield 16, 3) := by decide +kernel
theorem dX5_scrap_47 : decode cX5_scrap 47 = .ok (.bipush 60, 2) := by decide +kernel
theorem dX5_scrap_49 : decode cX5_scrap 49 = .ok (.iload_n 1, 1) := by decide +kernel
theorem dX5_scrap_50 : decode cX5_scrap 50 = .ok (.iadd, 1) := by decide +kernel
theorem dX5_scrap_51 : decode cX5_scrap 51 = .ok (.iaload, 1) := by decide +kernel
theorem dX5_scrap_52 : decode cX5_scrap 52 = .ok (.istore_n 2, 1) := by decide +kernel
theorem dX5_scrap_53 : decode cX5_scrap 53 = .ok (.aload_n 0, 1) := by decide +kernel
theorem dX5_scrap_54 : decode cX5_scrap 54 = .ok (.getfield 16, 3) := by decide +kernel
theorem dX5_scrap_57 : decode cX5_scrap 57 = .ok (.bipush 60, 2) := by decide +kernel
theorem dX5_scrap_59 : decode cX5_scrap 59 = .ok (.iload_n 1, 1) := by decide +kernel
theorem dX5_scrap_60 : decode cX5_scrap 60 = .ok (.iadd, 1) := by decide +kernel
theorem dX5_scrap_61 : decode cX5_scrap 61 = .ok (.iconst 3, 1) := by decide +kernel
theorem dX5_scrap_62 : decode cX5_scrap 62 = .ok (.iastore, 1) := by decide +kernel
theorem dX5_scrap_63 : decode cX5_scrap 63 = .ok (.iload_n 2, 1) := by decide +kernel
theorem dX5_scrap_64 : decode cX5_scrap 64 = .ok (.ireturn, 1) := by decide +kernel
set_option maxRecDepth 20000 in
theorem ggX5_isLimit_X5_in : GoodIn wsX5_isLimit wsX5_in := goodIn_r _ [5] (by decide +kernel) (by decide +kernel)
set_option maxRecDepth 20000 in
theorem gX5_isLimit_X5_in : GoodIn wsX5_isLimit (va_wsS RX5 54 yX5_in wsX5_in) := goodIn_app (goodIn_of _ (by decide +kernel)) ggX5_isLimit_X5_in
theorem dX5_isLimit_0 : decode cX5_isLimit 0 = .ok (.iload_n 0, 1) := by decide +kernel
theorem dX5_isLimit_1 : decode cX5_isLimit 1 = .ok (.ifCond .ne 8, 3) := by decide +kernel
theorem dX5_isLimit_4 : decode cX5_isLimit 4 = .ok (.bipush 99, 2) := by decide +kernel
theorem dX5_isLimit_6 : decode cX5_isLimit 6 = .ok (.goto 24, 3) := by decide +kernel
theorem dX5_isLimit_9 : decode cX5_isLimit 9 = .ok (.iload_n 0, 1) := by decide +kernel
theorem dX5_isLimit_10 : decode cX5_isLimit 10 = .ok (.iconst 1, 1) := by decide +kernel
theorem dX5_isLimit_11 : decode cX5_isLimit 11 = .ok (.if_icmp .ne 8, 3) := by decide +kernel
theorem dX5_isLimit_14 : decode cX5_isLimit 14 = .ok (.bipush 50, 2) := by decide +kernel
theorem dX5_isLimit_16 : decode cX5_isLimit 16 = .ok (.goto 14, 3) := by decide +kernel
theorem dX5_isLimit_19 : decode cX5_isLimit 19 = .ok (.iload_n 0, 1) := by decide +kernel
theorem dX5_isLimit_20 : decode cX5_isLimit 20 = .ok (.iconst 3, 1) := by decide +kernel
theorem dX5_isLimit_21 : decode cX5_isLimit 21 = .ok (.if_icmp .ne 7, 3) := by decide +kernel
theorem dX5_isLimit_24 : decode cX5_isLimit 24 = .ok (.iconst 4, 1) := by decide +kernel
theorem dX5_isLimit_25 : decode cX5_isLimit 25 = .ok (.goto 5, 3) := by decide +kernel
theorem dX5_isLimit_28 : decode cX5_isLimit 28 = .ok (.bipush 9, 2) := by decide +kernel
theorem dX5_isLimit_30 : decode cX5_isLimit 30 = .ok (.istore_n 2, 1) := by decide +kernel
theorem dX5_isLimit_31 : decode cX5_isLimit 31 = .ok (.iload_n 0, 1) := by decide +kernel
theorem dX5_isLimit_32 : decode cX5_isLimit 32 = .ok (.i2l, 1) := by decide +kernel
theorem dX5_isLimit_33 : decode cX5_isLimit 33 = .ok (.lconst 0, 1) := by decide +kernel
theorem dX5_isLimit_34 : decode cX5_isLimit 34 = .ok (.ldc2_w 171, 3) := by decide +kernel
theorem dX5_isLimit_37 : decode cX5_isLimit 37 = .ok (.invokestatic 54, 3) := by decide +kernel
theorem dX5_isLimit_40 : decode cX5_isLimit 40 = .ok (.ifCond .eq 18, 3) := by decide +kernel
theorem dX5_isLimit_43 : decode cX5_isLimit 43 = .ok (.iload_n 1, 1) := by decide +kernel
theorem dX5_isLimit_44 : decode cX5_isLimit 44 = .ok (.i2l, 1) := by decide +kernel
theorem dX5_isLimit_45 : decode cX5_isLimit 45 = .ok (.lconst 1, 1) := by decide +kernel
theorem dX5_isLimit_46 : decode cX5_isLimit 46 = .ok (.iload_n 2, 1) := by decide +kernel
theorem dX5_isLimit_47 : decode cX5_isLimit 47 = .ok (.i2l, 1) := by decide +kernel
theorem dX5_isLimit_48 : decode cX5_isLimit 48 = .ok (.invokestatic 54, 3) := by decide +kernel
theorem dX5_isLimit_51 : decode cX5_isLimit 51 = .ok (.ifCond .eq 7, 3) := by decide +kernel
theorem dX5_isLimit_54 : decode cX5_isLimit 54 = .ok (.iconst 1, 1) := by decide +kernel
theorem dX5_isLimit_55 : decode cX5_isLimit 55 = .ok (.goto 4, 3) := by decide +kernel
theorem dX5_isLimit_58 : decode cX5_isLimit 58 = .ok (.iconst 0, 1) := by decide +kernel
theorem dX5_isLimit_59 : decode cX5_isLimit 59 = .ok (.ireturn, 1) := by decide +kernel
set_option maxRecDepth 20000 in
theorem ggX5_setLimit_X5_isLimit : GoodIn wsX5_setLimit wsX5_isLimit := goodIn_r _ [5, 6, 7, 8, 4, 9] (by decide +kernel) (by decide +kernel)
set_option maxRecDepth 20000 in
theorem gX5_setLimit_X5_isLimit : GoodIn wsX5_setLimit (va_wsS RX5 173 yX5_isLimit wsX5_isLimit) := goodIn_app (goodIn_of _ (by decide +kernel)) ggX5_setLimit_X5_isLimit
set_option maxRecDepth 20000 in
theorem ggX5_setLimit_X5_refused : GoodIn wsX5_setLimit wsX5_refused := goodIn_r _ [13, 14, 24, 25, 26, 27, 28, 29, 30, 31, 32, 33, 34, 35, 36, 37, 38] (by decide +kernel) (by decide +kernel)
set_option maxRecDepth 20000 in
theorem gX5_setLimit_X5_refused : GoodIn wsX5_setLimit (wsV RX5 97 RX5 yX5_refused wsX5_refused) := goodIn_app (goodIn_of _ (by decide +kernel)) ggX5_setLimit_X5_refused
set_option maxRecDepth 20000 in
theorem ggX5_setLimit_X5_note : GoodIn wsX5_setLimit wsX5_note := goodIn_r _ [18, 19, 20, 1, 21, 22, 4, 23, 24, 25, 26, 27, 28, 29, 30, 31, 32, 33, 34, 35, 36, 37, 38] (by decide +kernel) (by decide +kernel)
set_option maxRecDepth 20000 in
theorem gX5_setLimit_X5_note : GoodIn wsX5_setLimit (wsV RX5 154 RX5 yX5_note wsX5_note) := goodIn_app (goodIn_of _ (by decide +kernel)) ggX5_setLimit_X5_note
theorem dX5_setLimit_0 : decode cX5_setLimit 0 = .ok (.aload_n 0, 1) := by decide +kernel
theorem dX5_setLimit_1 : decode cX5_setLimit 1 = .ok (.iload_n 1, 1) := by decide +kernel
theorem dX5_setLimit_2 : decode cX5_setLimit 2 = .ok (.iload_n 2, 1) := by decide +kernel
theorem dX5_setLimit_3 : decode cX5_setLimit 3 = .ok (.invokestatic 173, 3) := by decide +kernel
theorem dX5_setLimit_6 : decode cX5_setLimit 6 = .ok (.ifCond .eq 7, 3) := by decide +kernel
theorem dX5_setLimit_9 : decode cX5_setLimit 9 = .ok (.iconst 0, 1) := by decide +kernel
theorem dX5_setLimit_10 : decode cX5_setLimit 10 = .ok (.goto 4, 3) := by decide +kernel
theorem dX5_setLimit_13 : decode cX5_setLimit 13 = .ok (.iconst 1, 1) := by decide +kernel
theorem dX5_setLimit_14 : decode cX5_setLimit 14 = .ok (.invokevirtual 97, 3) := by decide +kernel
theorem dX5_setLimit_17 : decode cX5_setLimit 17 = .ok (.ifCond .eq 5, 3) := by decide +kernel
theorem dX5_setLimit_20 : decode cX5_setLimit 20 = .ok (.iconst 0, 1) := by decide +kernel
theorem dX5_setLimit_21 : decode cX5_setLimit 21 = .ok (.ireturn, 1) := by decide +kernel
theorem dX5_setLimit_22 : decode cX5_setLimit 22 = .ok (.aload_n 0, 1) := by decide +kernel
theorem dX5_setLimit_23 : decode cX5_setLimit 23 = .ok (.invokevirtual 154, 3) := by decide +kernel
theorem dX5_setLimit_26 : decode cX5_setLimit 26 = .ok (.aload_n 0, 1) := by decide +kernel
theorem dX5_setLimit_27 : decode cX5_setLimit 27 = .ok (.getfield 16, 3) := by decide +kernel
theorem dX5_setLimit_30 : decode cX5_setLimit 30 = .ok (.bipush 99, 2) := by decide +kernel
theorem dX5_setLimit_32 : decode cX5_setLimit 32 = .ok (.iload_n 1, 1) := by decide +kernel
theorem dX5_setLimit_33 : decode cX5_setLimit 33 = .ok (.iadd, 1) := by decide +kernel
theorem dX5_setLimit_34 : decode cX5_setLimit 34 = .ok (.iaload, 1) := by decide +kernel
theorem dX5_setLimit_35 : decode cX5_setLimit 35 = .ok (.istore_n 3, 1) := by decide +kernel
theorem dX5_setLimit_36 : decode cX5_setLimit 36 = .ok (.aload_n 0, 1) := by decide +kernel
theorem dX5_setLimit_37 : decode cX5_setLimit 37 = .ok (.getfield 16, 3) := by decide +kernel
theorem dX5_setLimit_40 : decode cX5_setLimit 40 = .ok (.bipush 99, 2) := by decide +kernel
theorem dX5_setLimit_42 : decode cX5_setLimit 42 = .ok (.iload_n 1, 1) := by decide +kernel
theorem dX5_setLimit_43 : decode cX5_setLimit 43 = .ok (.iadd, 1) := by decide +kernel
theorem dX5_setLimit_44 : decode cX5_setLimit 44 = .ok (.iload_n 2, 1) := by decide +kernel
theorem dX5_setLimit_45 : decode cX5_setLimit 45 = .ok (.iastore, 1) := by decide +kernel
theorem dX5_setLimit_46 : decode cX5_setLimit 46 = .ok (.iload_n 3, 1) := by decide +kernel
theorem dX5_setLimit_47 : decode cX5_setLimit 47 = .ok (.ireturn, 1) := by decide +kernel
set_option maxRecDepth 20000 in
theorem ggX5_setRandom_X5_note : GoodIn wsX5_setRandom wsX5_note := goodIn_r _ [7, 8, 9, 2, 10, 11, 6, 12, 20, 21, 22, 23, 24, 25, 26, 27, 28, 29, 30, 31, 32, 33, 34] (by decide +kernel) (by decide +kernel)
set_option maxRecDepth 20000 in
theorem gX5_setRandom_X5_note : GoodIn wsX5_setRandom (wsV RX5 154 RX5 yX5_note wsX5_note) := goodIn_app (goodIn_of _ (by decide +kernel)) ggX5_setRandom_X5_note
set_option maxRecDepth 20000 in
theorem ggX5_setRandom_X5_randomOf : GoodIn wsX5_setRandom wsX5_randomOf := goodIn_r _ [15, 16] (by decide +kernel) (by decide +kernel)
set_option maxRecDepth 20000 in
theorem gX5_setRandom_X5_randomOf : GoodIn wsX5_setRandom (va_wsS RX5 68 yX5_randomOf wsX5_randomOf) := goodIn_app (goodIn_of _ (by decide +kernel)) ggX5_setRandom_X5_randomOf
set_option maxRecDepth 20000 in
theorem ggX5_setRandom_X5_setRandomOn : GoodIn wsX5_setRandom wsX5_setRandomOn := goodIn_r _ [19] (by decide +kernel) (by decide +kernel)
set_option maxRecDepth 20000 in
theorem gX5_setRandom_X5_setRandomOn : GoodIn wsX5_setRandom (va_wsS RX5 76 yX5_setRandomOn wsX5_setRandomOn) := goodIn_app (goodIn_of _ (by decide +kernel)) ggX5_setRandom_X5_setRandomOn
theorem dX5_setRandom_0 : decode cX5_setRandom 0 = .ok (.aload_n 0, 1) := by decide +kernel
theorem dX5_setRandom_1 : decode cX5_setRandom 1 = .ok (.iconst 0, 1) := by decide +kernel
theorem dX5_setRandom_2 : decode cX5_setRandom 2 = .ok (.putfield 42, 3) := by decide +kernel
theorem dX5_setRandom_5 : decode cX5_setRandom 5 = .ok (.aload_n 0, 1) := by decide +kernel
theorem dX5_setRandom_6 : decode cX5_setRandom 6 = .ok (.invokevirtual 154, 3) := by decide +kernel
theorem dX5_setRandom_9 : decode cX5_setRandom 9 = .ok (.aload_n 0, 1) := by decide +kernel
theorem dX5_setRandom_10 : decode cX5_setRandom 10 = .ok (.getfield 16, 3) := by decide +kernel
theorem dX5_setRandom_13 : decode cX5_setRandom 13 = .ok (.invokestatic 68, 3) := by decide +kernel
theorem dX5_setRandom_16 : decode cX5_setRandom 16 = .ok (.lstore_n 3, 1) := by decide +kernel
theorem dX5_setRandom_17 : decode cX5_setRandom 17 = .ok (.aload_n 0, 1) := by decide +kernel
theorem dX5_setRandom_18 : decode cX5_setRandom 18 = .ok (.getfield 16, 3) := by decide +kernel
theorem dX5_setRandom_21 : decode cX5_setRandom 21 = .ok (.lload_n 1, 1) := by decide +kernel
theorem dX5_setRandom_22 : decode cX5_setRandom 22 = .ok (.invokestatic 76, 3) := by decide +kernel
theorem dX5_setRandom_25 : decode cX5_setRandom 25 = .ok (.lload_n 3, 1) := by decide +kernel
theorem dX5_setRandom_26 : decode cX5_setRandom 26 = .ok (.lreturn, 1) := by decide +kernel
set_option maxRecDepth 20000 in
theorem ggX5_undo_X5_refused : GoodIn wsX5_undo wsX5_refused := goodIn_r _ [8, 9, 13, 14, 15, 16, 17, 18, 19, 20, 21, 22, 23, 24, 25, 26, 27] (by decide +kernel) (by decide +kernel)
set_option maxRecDepth 20000 in
theorem gX5_undo_X5_refused : GoodIn wsX5_undo (wsV RX5 97 RX5 yX5_refused wsX5_refused) := goodIn_app (goodIn_of _ (by decide +kernel)) ggX5_undo_X5_refused
set_option maxRecDepth 20000 in
theorem ggX5_undo_X5_copy : GoodIn wsX5_undo wsX5_copy := goodIn_r _ [12] (by decide +kernel) (by decide +kernel)
set_option maxRecDepth 20000 in
theorem gX5_undo_X5_copy : GoodIn wsX5_undo (va_wsS RX5 50 yX5_copy wsX5_copy) := goodIn_app (goodIn_of _ (by decide +kernel)) ggX5_undo_X5_copy
theorem dX5_undo_0 : decode cX5_undo 0 = .ok (.aload_n 0, 1) := by decide +kernel
theorem dX5_undo_1 : decode cX5_undo 1 = .ok (.aload_n 0, 1) := by decide +kernel
theorem dX5_undo_2 : decode cX5_undo 2 = .ok (.getfield 47, 3) := by decide +kernel
theorem dX5_undo_5 : decode cX5_undo 5 = .ok (.ifCond .ne 7, 3) := by decide +kernel
theorem dX5_undo_8 : decode cX5_undo 8 = .ok (.iconst 1, 1) := by decide +kernel
theorem dX5_undo_9 : decode cX5_undo 9 = .ok (.goto 4, 3) := by decide +kernel
theorem dX5_undo_12 : decode cX5_undo 12 = .ok (.iconst 0, 1) := by decide +kernel
theorem dX5_undo_13 : decode cX5_undo 13 = .ok (.invokevirtual 97, 3) := by decide +kernel
theorem dX5_undo_16 : decode cX5_undo 16 = .ok (.ifCond .eq 5, 3) := by decide +kernel
theorem dX5_undo_19 : decode cX5_undo 19 = .ok (.iconst 0, 1) := by decide +kernel
theorem dX5_undo_20 : decode cX5_undo 20 = .ok (.ireturn, 1) := by decide +kernel
theorem dX5_undo_21 : decode cX5_undo 21 = .ok (.aload_n 0, 1) := by decide +kernel
theorem dX5_undo_22 : decode cX5_undo 22 = .ok (.dup, 1) := by decide +kernel
theorem dX5_undo_23 : decode cX5_undo 23 = .ok (.getfield 47, 3) := by decide +kernel
theorem dX5_undo_26 : decode cX5_undo 26 = .ok (.iconst 1, 1) := by decide +kernel
theorem dX5_undo_27 : decode cX5_undo 27 = .ok (.isub, 1) := by decide +kernel
theorem dX5_undo_28 : decode cX5_undo 28 = .ok (.putfield 47, 3) := by decide +kernel
theorem dX5_undo_31 : decode cX5_undo 31 = .ok (.aload_n 0, 1) := by decide +kernel
theorem dX5_undo_32 : decode cX5_undo 32 = .ok (.getfield 22, 3) := by decide +kernel
theorem dX5_undo_35 : decode cX5_undo 35 = .ok (.bipush 106, 2) := by decide +kernel
theorem dX5_undo_37 : decode cX5_undo 37 = .ok (.aload_n 0, 1) := by decide +kernel
theorem dX5_undo_38 : decode cX5_undo 38 = .ok (.getfield 47, 3) := by decide +kernel
theorem dX5_undo_41 : decode cX5_undo 41 = .ok (.imul, 1) := by decide +kernel
theorem dX5_undo_42 : decode cX5_undo 42 = .ok (.aload_n 0, 1) := by decide +kernel
theorem dX5_undo_43 : decode cX5_undo 43 = .ok (.getfield 16, 3) := by decide +kernel
theorem dX5_undo_46 : decode cX5_undo 46 = .ok (.iconst 0, 1) := by decide +kernel
theorem dX5_undo_47 : decode cX5_undo 47 = .ok (.bipush 106, 2) := by decide +kernel
theorem dX5_undo_49 : decode cX5_undo 49 = .ok (.invokestatic 50, 3) := by decide +kernel
theorem dX5_undo_52 : decode cX5_undo 52 = .ok (.aload_n 0, 1) := by decide +kernel
theorem dX5_undo_53 : decode cX5_undo 53 = .ok (.getfield 47, 3) := by decide +kernel
theorem dX5_undo_56 : decode cX5_undo 56 = .ok (.ireturn, 1) := by decide +kernel
set_option maxRecDepth 20000 in
theorem ggX5_gapOf_X5_gripAt : GoodIn wsX5_gapOf wsX5_gripAt := goodIn_r _ [6] (by decide +kernel) (by decide +kernel)
set_option maxRecDepth 20000 in
theorem gX5_gapOf_X5_gripAt : GoodIn wsX5_gapOf (va_wsS RX5 60 yX5_gripAt wsX5_gripAt) := goodIn_app (goodIn_of _ (by decide +kernel)) ggX5_gapOf_X5_gripAt
theorem dX5_gapOf_0 : decode cX5_gapOf 0 = .ok (.iconst 1, 1) := by decide +kernel
theorem dX5_gapOf_1 : decode cX5_gapOf 1 = .ok (.istore_n 2, 1) := by decide +kernel
theorem dX5_gapOf_2 : decode cX5_gapOf 2 = .ok (.aload_n 0, 1) := by decide +kernel
theorem dX5_gapOf_3 : decode cX5_gapOf 3 = .ok (.getfield 16, 3) := by decide +kernel
theorem dX5_gapOf_6 : decode cX5_gapOf 6 = .ok (.aload_n 0, 1) := by decide +kernel
theorem dX5_gapOf_7 : decode cX5_gapOf 7 = .ok (.getfield 16, 3) := by decide +kernel
theorem dX5_gapOf_10 : decode cX5_gapOf 10 = .ok (.bipush 72, 2) := by decide +kernel
theorem dX5_gapOf_12 : decode cX5_gapOf 12 = .ok (.iload_n 1, 1) := by decide +kernel
theorem dX5_gapOf_13 : decode cX5_gapOf 13 = .ok (.iadd, 1) := by decide +kernel
theorem dX5_gapOf_14 : decode cX5_gapOf 14 = .ok (.iaload, 1) := by decide +kernel
theorem dX5_gapOf_15 : decode cX5_gapOf 15 = .ok (.iload_n 2, 1) := by decide +kernel
theorem dX5_gapOf_16 : decode cX5_gapOf 16 = .ok (.iadd, 1) := by decide +kernel
theorem dX5_gapOf_17 : decode cX5_gapOf 17 = .ok (.aload_n 0, 1) := by decide +kernel
theorem dX5_gapOf_18 : decode cX5_gapOf 18 = .ok (.getfield 38, 3) := by decide +kernel
theorem dX5_gapOf_21 : decode cX5_gapOf 21 = .ok (.irem, 1) := by decide +kernel
theorem dX5_gapOf_22 : decode cX5_gapOf 22 = .ok (.invokestatic 60, 3) := by decide +kernel
theorem dX5_gapOf_25 : decode cX5_gapOf 25 = .ok (.bipush (-9), 2) := by decide +kernel
theorem dX5_gapOf_27 : decode cX5_gapOf 27 = .ok (.if_icmp .ne 9, 3) := by decide +kernel
theorem dX5_gapOf_30 : decode cX5_gapOf 30 = .ok (.iinc 2 1, 3) := by decide +kernel
theorem dX5_gapOf_33 : decode cX5_gapOf 33 = .ok (.goto (-31), 3) := by decide +kernel
theorem dX5_gapOf_36 : decode cX5_gapOf 36 = .ok (.iload_n 2, 1) := by decide +kernel
theorem dX5_gapOf_37 : decode cX5_gapOf 37 = .ok (.ireturn, 1) := by decide +kernel
set_option maxRecDepth 20000 in
theorem ggX5_gap_X5_isGrip : GoodIn wsX5_gap wsX5_isGrip := goodIn_r _ [6, 1, 7, 8, 5, 9, 23, 24, 25, 26, 27, 28, 29, 30, 31, 32, 33, 34, 35, 36, 37] (by decide +kernel) (by decide +kernel)
set_option maxRecDepth 20000 in
theorem gX5_gap_X5_isGrip : GoodIn wsX5_gap (wsV RX5 138 RX5 yX5_isGrip wsX5_isGrip) := goodIn_app (goodIn_of _ (by decide +kernel)) ggX5_gap_X5_isGrip
set_option maxRecDepth 20000 in
theorem ggX5_gap_X5_refused : GoodIn wsX5_gap wsX5_refused := goodIn_r _ [13, 14, 23, 24, 25, 26, 27, 28, 29, 30, 31, 32, 33, 34, 35, 36, 37] (by decide +kernel) (by decide +kernel)
set_option maxRecDepth 20000 in
theorem gX5_gap_X5_refused : GoodIn wsX5_gap (wsV RX5 97 RX5 yX5_refused wsX5_refused) := goodIn_app (goodIn_of _ (by decide +kernel)) ggX5_gap_X5_refused
set_option maxRecDepth 20000 in
theorem ggX5_gap_X5_gapOf : GoodIn wsX5_gap wsX5_gapOf := goodIn_r _ [18, 1, 19, 20, 21, 5, 22, 23, 24, 25, 26, 27, 28, 29, 30, 31, 32, 33, 34, 35, 36, 37] (by decide +kernel) (by decide +kernel)
set_option maxRecDepth 20000 in
theorem gX5_gap_X5_gapOf : GoodIn wsX5_gap (wsV RX5 177 RX5 yX5_gapOf wsX5_gapOf) := goodIn_app (goodIn_of _ (by decide +kernel)) ggX5_gap_X5_gapOf
theorem dX5_gap_0 : decode cX5_gap 0 = .ok (.aload_n 0, 1) := by decide +kernel
theorem dX5_gap_1 : decode cX5_gap 1 = .ok (.aload_n 0, 1) := by decide +kernel
theorem dX5_gap_2 : decode cX5_gap 2 = .ok (.iload_n 1, 1) := by decide +kernel
theorem dX5_gap_3 : decode cX5_gap 3 = .ok (.invokevirtual 138, 3) := by decide +kernel
theorem dX5_gap_6 : decode cX5_gap 6 = .ok (.ifCond .eq 7, 3) := by decide +kernel
theorem dX5_gap_9 : decode cX5_gap 9 = .ok (.iconst 0, 1) := by decide +kernel
theorem dX5_gap_10 : decode cX5_gap 10 = .ok (.goto 4, 3) := by decide +kernel
theorem dX5_gap_13 : decode cX5_gap 13 = .ok (.iconst 1, 1) := by decide +kernel
theorem dX5_gap_14 : decode cX5_gap 14 = .ok (.invokevirtual 97, 3) := by decide +kernel
theorem dX5_gap_17 : decode cX5_gap 17 = .ok (.ifCond .eq 5, 3) := by decide +kernel
theorem dX5_gap_20 : decode cX5_gap 20 = .ok (.iconst 0, 1) := by decide +kernel
theorem dX5_gap_21 : decode cX5_gap 21 = .ok (.ireturn, 1) := by decide +kernel
theorem dX5_gap_22 : decode cX5_gap 22 = .ok (.aload_n 0, 1) := by decide +kernel
theorem dX5_gap_23 : decode cX5_gap 23 = .ok (.getfield 16, 3) := by decide +kernel
theorem dX5_gap_26 : decode cX5_gap 26 = .ok (.bipush 60, 2) := by decide +kernel
theorem dX5_gap_28 : decode cX5_gap 28 = .ok (.iload_n 1, 1) := by decide +kernel
theorem dX5_gap_29 : decode cX5_gap 29 = .ok (.iadd, 1) := by decide +kernel
theorem dX5_gap_30 : decode cX5_gap 30 = .ok (.iaload, 1) := by decide +kernel
theorem dX5_gap_31 : decode cX5_gap 31 = .ok (.ifCond .ne 11, 3) := by decide +kernel
theorem dX5_gap_34 : decode cX5_gap 34 = .ok (.aload_n 0, 1) := by decide +kernel
theorem dX5_gap_35 : decode cX5_gap 35 = .ok (.iload_n 1, 1) := by decide +kernel
theorem dX5_gap_36 : decode cX5_gap 36 = .ok (.invokevirtual 177, 3) := by decide +kernel
theorem dX5_gap_39 : decode cX5_gap 39 = .ok (.goto 5, 3) := by decide +kernel
theorem dX5_gap_42 : decode cX5_gap 42 = .ok (.bipush (-9), 2) := by decide +kernel
theorem dX5_gap_44 : decode cX5_gap 44 = .ok (.ireturn, 1) := by decide +kernel
set_option maxRecDepth 20000 in
theorem ggX5_room_X5_in : GoodIn wsX5_room wsX5_in := goodIn_r _ [7] (by decide +kernel) (by decide +kernel)
set_option maxRecDepth 20000 in
theorem gX5_room_X5_in : GoodIn wsX5_room (va_wsS RX5 54 yX5_in wsX5_in) := goodIn_app (goodIn_of _ (by decide +kernel)) ggX5_room_X5_in
set_option maxRecDepth 20000 in
theorem ggX5_room_X5_refused : GoodIn wsX5_room wsX5_refused := goodIn_r _ [11, 12, 28, 29, 30, 31, 32, 33, 34, 35, 36, 37, 38, 39, 40, 41, 42] (by decide +kernel) (by decide +kernel)
set_option maxRecDepth 20000 in
theorem gX5_room_X5_refused : GoodIn wsX5_room (wsV RX5 97 RX5 yX5_refused wsX5_refused) := goodIn_app (goodIn_of _ (by decide +kernel)) ggX5_room_X5_refused
set_option maxRecDepth 20000 in
theorem ggX5_room_X5_isFree : GoodIn wsX5_room wsX5_isFree := goodIn_r _ [16, 17, 18, 6, 19, 20, 21, 22, 23, 2, 28, 29, 30, 31, 32, 33, 34, 35, 36, 37, 38, 39, 40, 41, 42] (by decide +kernel) (by decide +kernel)
set_option maxRecDepth 20000 in
theorem gX5_room_X5_isFree : GoodIn wsX5_room (wsV RX5 84 RX5 yX5_isFree wsX5_isFree) := goodIn_app (goodIn_of _ (by decide +kernel)) ggX5_room_X5_isFree
set_option maxRecDepth 20000 in
theorem ggX5_room_X5_gapOf : GoodIn wsX5_room wsX5_gapOf := goodIn_r _ [27, 3, 2, 17, 18, 6, 19, 28, 29, 30, 31, 32, 33, 34, 35, 36, 37, 38, 39, 40, 41, 42] (by decide +kernel) (by decide +kernel)
set_option maxRecDepth 20000 in
theorem gX5_room_X5_gapOf : GoodIn wsX5_room (wsV RX5 177 RX5 yX5_gapOf wsX5_gapOf) := goodIn_app (goodIn_of _ (by decide +kernel)) ggX5_room_X5_gapOf
theorem dX5_room_0 : decode cX5_room 0 = .ok (.aload_n 0, 1) := by decide +kernel
theorem dX5_room_1 : decode cX5_room 1 = .ok (.iload_n 1, 1) := by decide +kernel
theorem dX5_room_2 : decode cX5_room 2 = .ok (.i2l, 1) := by decide +kernel
theorem dX5_room_3 : decode cX5_room 3 = .ok (.lconst 0, 1) := by decide +kernel
theorem dX5_room_4 : decode cX5_room 4 = .ok (.ldc2_w 181, 3) := by decide +kernel
theorem dX5_room_7 : decode cX5_room 7 = .ok (.invokestatic 54, 3) := by decide +kernel
theorem dX5_room_10 : decode cX5_room 10 = .ok (.ifCond .eq 7, 3) := by decide +kernel
theorem dX5_room_13 : decode cX5_room 13 = .ok (.iconst 0, 1) := by decide +kernel
theorem dX5_room_14 : decode cX5_room 14 = .ok (.goto 4, 3) := by decide +kernel
theorem dX5_room_17 : decode cX5_room 17 = .ok (.iconst 1, 1) := by decide +kernel
theorem dX5_room_18 : decode cX5_room 18 = .ok (.invokevirtual 97, 3) := by decide +kernel
theorem dX5_room_21 : decode cX5_room 21 = .ok (.ifCond .eq 5, 3) := by decide +kernel
theorem dX5_room_24 : decode cX5_room 24 = .ok (.iconst 0, 1) := by decide +kernel
theorem dX5_room_25 : decode cX5_room 25 = .ok (.ireturn, 1) := by decide +kernel
theorem dX5_room_26 : decode cX5_room 26 = .ok (.iload_n 1, 1) := by decide +kernel
theorem dX5_room_27 : decode cX5_room 27 = .ok (.ifCond .ne 43, 3) := by decide +kernel
theorem dX5_room_30 : decode cX5_room 30 = .ok (.iconst 0, 1) := by decide +kernel
theorem dX5_room_31 : decode cX5_room 31 = .ok (.istore_n 2, 1) := by decide +kernel
theorem dX5_room_32 : decode cX5_room 32 = .ok (.iconst 0, 1) := by decide +kernel
theorem dX5_room_33 : decode cX5_room 33 = .ok (.istore_n 3, 1) := by decide +kernel
theorem dX5_room_34 : decode cX5_room 34 = .ok (.iload_n 3, 1) := by decide +kernel
theorem dX5_room_35 : decode cX5_room 35 = .ok (.aload_n 0, 1) := by decide +kernel
theorem dX5_room_36 : decode cX5_room 36 = .ok (.getfield 38, 3) := by decide +kernel
theorem dX5_room_39 : decode cX5_room 39 = .ok (.if_icmp .ge 29, 3) := by decide +kernel
theorem dX5_room_42 : decode cX5_room 42 = .ok (.iload_n 2, 1) := by decide +kernel
theorem dX5_room_43 : decode cX5_room 43 = .ok (.aload_n 0, 1) := by decide +kernel
theorem dX5_room_44 : decode cX5_room 44 = .ok (.aload_n 0, 1) := by decide +kernel
theorem dX5_room_45 : decode cX5_room 45 = .ok (.getfield 16, 3) := by decide +kernel
theorem dX5_room_48 : decode cX5_room 48 = .ok (.iload_n 3, 1) := by decide +kernel
theorem dX5_room_49 : decode cX5_room 49 = .ok (.invokevirtual 84, 3) := by decide +kernel
theorem dX5_room_52 : decode cX5_room 52 = .ok (.ifCond .eq 7, 3) := by decide +kernel
theorem dX5_room_55 : decode cX5_room 55 = .ok (.iconst 1, 1) := by decide +kernel
theorem dX5_room_56 : decode cX5_room 56 = .ok (.goto 4, 3) := by decide +kernel
theorem dX5_room_59 : decode cX5_room 59 = .ok (.iconst 0, 1) := by decide +kernel
theorem dX5_room_60 : decode cX5_room 60 = .ok (.iadd, 1) := by decide +kernel
theorem dX5_room_61 : decode cX5_room 61 = .ok (.istore_n 2, 1) := by decide +kernel
theorem dX5_room_62 : decode cX5_room 62 = .ok (.iinc 3 1, 3) := by decide +kernel
theorem dX5_room_65 : decode cX5_room 65 = .ok (.goto (-31), 3) := by decide +kernel
theorem dX5_room_68 : decode cX5_room 68 = .ok (.iload_n 2, 1) := by decide +kernel
theorem dX5_room_69 : decode cX5_room 69 = .ok (.ireturn, 1) := by decide +kernel
theorem dX5_room_70 : decode cX5_room 70 = .ok (.iload_n 1, 1) := by decide +kernel
theorem dX5_room_71 : decode cX5_room 71 = .ok (.iconst 2, 1) := by decide +kernel
theorem dX5_room_72 : decode cX5_room 72 = .ok (.if_icmp .ne 16, 3) := by decide +kernel
theorem dX5_room_75 : decode cX5_room 75 = .ok (.aload_n 0, 1) := by decide +kernel
theorem dX5_room_76 : decode cX5_room 76 = .ok (.getfield 38, 3) := by decide +kernel
theorem dX5_room_79 : decode cX5_room 79 = .ok (.aload_n 0, 1) := by decide +kernel
theorem dX5_room_80 : decode cX5_room 80 = .ok (.getfield 16, 3) := by decide +kernel
theorem dX5_room_83 : decode cX5_room 83 = .ok (.bipush 102, 2) := by decide +kernel
theorem dX5_room_85 : decode cX5_room 85 = .ok (.iaload, 1) := by decide +kernel
theorem dX5_room_86 : decode cX5_room 86 = .ok (.idiv, 1) := by decide +kernel
theorem dX5_room_87 : decode cX5_room 87 = .ok (.ireturn, 1) := by decide +kernel
theorem dX5_room_88 : decode cX5_room 88 = .ok (.bipush (-9), 2) := by decide +kernel
theorem dX5_room_90 : decode cX5_room 90 = .ok (.istore_n 2, 1) := by decide +kernel
theorem dX5_room_91 : decode cX5_room 91 = .ok (.iconst 0, 1) := by decide +kernel
theorem dX5_room_92 : decode cX5_room 92 = .ok (.istore_n 3, 1) := by decide +kernel
theorem dX5_room_93 : decode cX5_room 93 = .ok (.iload_n 3, 1) := by decide +kernel
theorem dX5_room_94 : decode cX5_room 94 = .ok (.aload_n 0, 1) := by decide +kernel
theorem dX5_room_95 : decode cX5_room 95 = .ok (.getfield 16, 3) := by decide +kernel
theorem dX5_room_98 : decode cX5_room 98 = .ok (.bipush 96, 2) := by decide +kernel
theorem dX5_room_100 : decode cX5_room 100 = .ok (.iaload, 1) := by decide +kernel
theorem dX5_room_101 : decode cX5_room 101 = .ok (.if_icmp .ge 42, 3) := by decide +kernel
theorem dX5_room_104 : decode cX5_room 104 = .ok (.aload_n 0, 1) := by decide +kernel
theorem dX5_room_105 : decode cX5_room 105 = .ok (.getfield 16, 3) := by decide +kernel
theorem dX5_room_108 : decode cX5_room 108 = .ok (.bipush 60, 2) := by decide +kernel
theorem dX5_room_110 : decode cX5_room 110 = .ok (.iload_n 3, 1) := by decide +kernel
theorem dX5_room_111 : decode cX5_room 111 = .ok (.iadd, 1) := by decide +kernel
theorem dX5_room_112 : decode cX5_room 112 = .ok (.iaload, 1) := by decide +kernel
theorem dX5_room_113 : decode cX5_room 113 = .ok (.ifCond .ne 24, 3) := by decide +kernel
theorem dX5_room_116 : decode cX5_room 116 = .ok (.iload_n 2, 1) := by decide +kernel
theorem dX5_room_117 : decode cX5_room 117 = .ok (.bipush (-9), 2) := by decide +kernel
theorem dX5_room_119 : decode cX5_room 119 = .ok (.if_icmp .eq 12, 3) := by decide +kernel
theorem dX5_room_122 : decode cX5_room 122 = .ok (.aload_n 0, 1) := by decide +kernel
theorem dX5_room_123 : decode cX5_room 123 = .ok (.iload_n 3, 1) := by decide +kernel
theorem dX5_room_124 : decode cX5_room 124 = .ok (.invokevirtual 177, 3) := by decide +kernel
theorem dX5_room_127 : decode cX5_room 127 = .ok (.iload_n 2, 1) := by decide +kernel
theorem dX5_room_128 : decode cX5_room 128 = .ok (.if_icmp .ge 9, 3) := by decide +kernel
theorem dX5_room_131 : decode cX5_room 131 = .ok (.aload_n 0, 1) := by decide +kernel
theorem dX5_room_132 : decode cX5_room 132 = .ok (.iload_n 3, 1) := by decide +kernel
theorem dX5_room_133 : decode cX5_room 133 = .ok (.invokevirtual 177, 3) := by decide +kernel
theorem dX5_room_136 : decode cX5_room 136 = .ok (.istore_n 2, 1) := by decide +kernel
theorem dX5_room_137 : decode cX5_room 137 = .ok (.iinc 3 1, 3) := by decide +kernel
theorem dX5_room_140 : decode cX5_room 140 = .ok (.goto (-47), 3) := by decide +kernel
theorem dX5_room_143 : decode cX5_room 143 = .ok (.iload_n 2, 1) := by decide +kernel
theorem dX5_room_144 : decode cX5_room 144 = .ok (.ireturn, 1) := by decide +kernel
theorem dX5_isLike_0 : decode cX5_isLike 0 = .ok (.aload_n 0, 1) := by decide +kernel
theorem dX5_isLike_1 : decode cX5_isLike 1 = .ok (.getfield 16, 3) := by decide +kernel
theorem dX5_isLike_4 : decode cX5_isLike 4 = .ok (.bipush 60, 2) := by decide +kernel
theorem dX5_isLike_6 : decode cX5_isLike 6 = .ok (.iload_n 1, 1) := by decide +kernel
theorem dX5_isLike_7 : decode cX5_isLike 7 = .ok (.iadd, 1) := by decide +kernel
theorem dX5_isLike_8 : decode cX5_isLike 8 = .ok (.iaload, 1) := by decide +kernel
theorem dX5_isLike_9 : decode cX5_isLike 9 = .ok (.iconst 3, 1) := by decide +kernel
theorem dX5_isLike_10 : decode cX5_isLike 10 = .ok (.if_icmp .eq 66, 3) := by decide +kernel
theorem dX5_isLike_13 : decode cX5_isLike 13 = .ok (.aload_n 0, 1) := by decide +kernel
theorem dX5_isLike_14 : decode cX5_isLike 14 = .ok (.getfield 16, 3) := by decide +kernel
theorem dX5_isLike_17 : decode cX5_isLike 17 = .ok (.bipush 60, 2) := by decide +kernel
theorem dX5_isLike_19 : decode cX5_isLike 19 = .ok (.iload_n 2, 1) := by decide +kernel
theorem dX5_isLike_20 : decode cX5_isLike 20 = .ok (.iadd, 1) := by decide +kernel
theorem dX5_isLike_21 : decode cX5_isLike 21 = .ok (.iaload, 1) := by decide +kernel
theorem dX5_isLike_22 : decode cX5_isLike 22 = .ok (.iconst 3, 1) := by decide +kernel
theorem dX5_isLike_23 : decode cX5_isLike 23 = .ok (.if_icmp .eq 53, 3) := by decide +kernel
theorem dX5_isLike_26 : decode cX5_isLike 26 = .ok (.aload_n 0, 1) := by decide +kernel
theorem dX5_isLike_27 : decode cX5_isLike 27 = .ok (.getfield 16, 3) := by decide +kernel
theorem dX5_isLike_30 : decode cX5_isLike 30 = .ok (.iconst 0, 1) := by decide +kernel
theorem dX5_isLike_31 : decode cX5_isLike 31 = .ok (.iload_n 1, 1) := by decide +kernel
theorem dX5_isLike_32 : decode cX5_isLike 32 = .ok (.iadd, 1) := by decide +kernel
theorem dX5_isLike_33 : decode cX5_isLike 33 = .ok (.iaload, 1) := by decide +kernel
theorem dX5_isLike_34 : decode cX5_isLike 34 = .ok (.aload_n 0, 1) := by decide +kernel
theorem dX5_isLike_35 : decode cX5_isLike 35 = .ok (.getfield 16, 3) := by decide +kernel
theorem dX5_isLike_38 : decode cX5_isLike 38 = .ok (.iconst 0, 1) := by decide +kernel
theorem dX5_isLike_39 : decode cX5_isLike 39 = .ok (.iload_n 2, 1) := by decide +kernel
theorem dX5_isLike_40 : decode cX5_isLike 40 = .ok (.iadd, 1) := by decide +kernel
theorem dX5_isLike_41 : decode cX5_isLike 41 = .ok (.iaload, 1) := by decide +kernel
theorem dX5_isLike_42 : decode cX5_isLike 42 = .ok (.if_icmp .ne 34, 3) := by decide +kernel
theorem dX5_isLike_45 : decode cX5_isLike 45 = .ok (.aload_n 0, 1) := by decide +kernel
theorem dX5_isLike_46 : decode cX5_isLike 46 = .ok (.getfield 16, 3) := by decide +kernel
theorem dX5_isLike_49 : decode cX5_isLike 49 = .ok (.bipush 12, 2) := by decide +kernel
theorem dX5_isLike_51 : decode cX5_isLike 51 = .ok (.iload_n 1, 1) := by decide +kernel
theorem dX5_isLike_52 : decode cX5_isLike 52 = .ok (.iadd, 1) := by decide +kernel
theorem dX5_isLike_53 : decode cX5_isLike 53 = .ok (.iaload, 1) := by decide +kernel
theorem dX5_isLike_54 : decode cX5_isLike 54 = .ok (.bipush 10, 2) := by decide +kernel
theorem dX5_isLike_56 : decode cX5_isLike 56 = .ok (.idiv, 1) := by decide +kernel
theorem dX5_isLike_57 : decode cX5_isLike 57 = .ok (.aload_n 0, 1) := by decide +kernel
theorem dX5_isLike_58 : decode cX5_isLike 58 = .ok (.getfield 16, 3) := by decide +kernel
theorem dX5_isLike_61 : decode cX5_isLike 61 = .ok (.bipush 12, 2) := by decide +kernel
theorem dX5_isLike_63 : decode cX5_isLike 63 = .ok (.iload_n 2, 1) := by decide +kernel
theorem dX5_isLike_64 : decode cX5_isLike 64 = .ok (.iadd, 1) := by decide +kernel
theorem dX5_isLike_65 : decode cX5_isLike 65 = .ok (.iaload, 1) := by decide +kernel
theorem dX5_isLike_66 : decode cX5_isLike 66 = .ok (.bipush 10, 2) := by decide +kernel
theorem dX5_isLike_68 : decode cX5_isLike 68 = .ok (.idiv, 1) := by decide +kernel
theorem dX5_isLike_69 : decode cX5_isLike 69 = .ok (.if_icmp .ne 7, 3) := by decide +kernel
theorem dX5_isLike_72 : decode cX5_isLike 72 = .ok (.iconst 1, 1) := by decide +kernel
theorem dX5_isLike_73 : decode cX5_isLike 73 = .ok (.goto 4, 3) := by decide +kernel
theorem dX5_isLike_76 : decode cX5_isLike 76 = .ok (.iconst 0, 1) := by decide +kernel
theorem dX5_isLike_77 : decode cX5_isLike 77 = .ok (.ireturn, 1) := by decide +kernel
set_option maxRecDepth 20000 in
theorem ggX5_groups_X5_in : GoodIn wsX5_groups wsX5_in := goodIn_r _ [6] (by decide +kernel) (by decide +kernel)
set_option maxRecDepth 20000 in
theorem gX5_groups_X5_in : GoodIn wsX5_groups (va_wsS RX5 54 yX5_in wsX5_in) := goodIn_app (goodIn_of _ (by decide +kernel)) ggX5_groups_X5_in
set_option maxRecDepth 20000 in
theorem ggX5_groups_X5_refused : GoodIn wsX5_groups wsX5_refused := goodIn_r _ [10, 11, 16, 17, 18, 19, 20, 21, 22, 23, 24, 25, 26, 27, 28, 29, 30] (by decide +kernel) (by decide +kernel)
set_option maxRecDepth 20000 in
theorem gX5_groups_X5_refused : GoodIn wsX5_groups (wsV RX5 97 RX5 yX5_refused wsX5_refused) := goodIn_app (goodIn_of _ (by decide +kernel)) ggX5_groups_X5_refused
set_option maxRecDepth 20000 in
theorem ggX5_groups_X5_isLike : GoodIn wsX5_groups wsX5_isLike := goodIn_r _ [15, 2, 16, 17, 18, 19, 20, 21, 22, 23, 24, 25, 26, 27, 28, 29, 30] (by decide +kernel) (by decide +kernel)
set_option maxRecDepth 20000 in
theorem gX5_groups_X5_isLike : GoodIn wsX5_groups (wsV RX5 183 RX5 yX5_isLike wsX5_isLike) := goodIn_app (goodIn_of _ (by decide +kernel)) ggX5_groups_X5_isLike
theorem dX5_groups_0 : decode cX5_groups 0 = .ok (.aload_n 0, 1) := by decide +kernel
theorem dX5_groups_1 : decode cX5_groups 1 = .ok (.iload_n 1, 1) := by decide +kernel
theorem dX5_groups_2 : decode cX5_groups 2 = .ok (.i2l, 1) := by decide +kernel
theorem dX5_groups_3 : decode cX5_groups 3 = .ok (.lconst 0, 1) := by decide +kernel
theorem dX5_groups_4 : decode cX5_groups 4 = .ok (.ldc2_w 181, 3) := by decide +kernel
theorem dX5_groups_7 : decode cX5_groups 7 = .ok (.invokestatic 54, 3) := by decide +kernel
theorem dX5_groups_10 : decode cX5_groups 10 = .ok (.ifCond .eq 7, 3) := by decide +kernel
theorem dX5_groups_13 : decode cX5_groups 13 = .ok (.iconst 0, 1) := by decide +kernel
theorem dX5_groups_14 : decode cX5_groups 14 = .ok (.goto 4, 3) := by decide +kernel
theorem dX5_groups_17 : decode cX5_groups 17 = .ok (.iconst 1, 1) := by decide +kernel
theorem dX5_groups_18 : decode cX5_groups 18 = .ok (.invokevirtual 97, 3) := by decide +kernel
theorem dX5_groups_21 : decode cX5_groups 21 = .ok (.ifCond .eq 5, 3) := by decide +kernel
theorem dX5_groups_24 : decode cX5_groups 24 = .ok (.iconst 0, 1) := by decide +kernel
theorem dX5_groups_25 : decode cX5_groups 25 = .ok (.ireturn, 1) := by decide +kernel
theorem dX5_groups_26 : decode cX5_groups 26 = .ok (.iconst 0, 1) := by decide +kernel
theorem dX5_groups_27 : decode cX5_groups 27 = .ok (.istore_n 2, 1) := by decide +kernel
theorem dX5_groups_28 : decode cX5_groups 28 = .ok (.iconst 0, 1) := by decide +kernel
theorem dX5_groups_29 : decode cX5_groups 29 = .ok (.istore_n 3, 1) := by decide +kernel
theorem dX5_groups_30 : decode cX5_groups 30 = .ok (.bipush (-9), 2) := by decide +kernel
theorem dX5_groups_32 : decode cX5_groups 32 = .ok (.istore 4, 2) := by decide +kernel
theorem dX5_groups_34 : decode cX5_groups 34 = .ok (.iconst 0, 1) := by decide +kernel
theorem dX5_groups_35 : decode cX5_groups 35 = .ok (.istore 5, 2) := by decide +kernel
theorem dX5_groups_37 : decode cX5_groups 37 = .ok (.iload 5, 2) := by decide +kernel
theorem dX5_groups_39 : decode cX5_groups 39 = .ok (.aload_n 0, 1) := by decide +kernel
theorem dX5_groups_40 : decode cX5_groups 40 = .ok (.getfield 16, 3) := by decide +kernel
theorem dX5_groups_43 : decode cX5_groups 43 = .ok (.bipush 96, 2) := by decide +kernel
theorem dX5_groups_45 : decode cX5_groups 45 = .ok (.iaload, 1) := by decide +kernel
theorem dX5_groups_46 : decode cX5_groups 46 = .ok (.if_icmp .ge 136, 3) := by decide +kernel
theorem dX5_groups_49 : decode cX5_groups 49 = .ok (.iconst 0, 1) := by decide +kernel
theorem dX5_groups_50 : decode cX5_groups 50 = .ok (.istore 6, 2) := by decide +kernel
theorem dX5_groups_52 : decode cX5_groups 52 = .ok (.aload_n 0, 1) := by decide +kernel
theorem dX5_groups_53 : decode cX5_groups 53 = .ok (.getfield 16, 3) := by decide +kernel
theorem dX5_groups_56 : decode cX5_groups 56 = .ok (.bipush 60, 2) := by decide +kernel
theorem dX5_groups_58 : decode cX5_groups 58 = .ok (.iload 5, 2) := by decide +kernel
theorem dX5_groups_60 : decode cX5_groups 60 = .ok (.iadd, 1) := by decide +kernel
theorem dX5_groups_61 : decode cX5_groups 61 = .ok (.iaload, 1) := by decide +kernel
theorem dX5_groups_62 : decode cX5_groups 62 = .ok (.iconst 3, 1) := by decide +kernel
theorem dX5_groups_63 : decode cX5_groups 63 = .ok (.if_icmp .eq 7, 3) := by decide +kernel
theorem dX5_groups_66 : decode cX5_groups 66 = .ok (.iconst 1, 1) := by decide +kernel
theorem dX5_groups_67 : decode cX5_groups 67 = .ok (.goto 4, 3) := by decide +kernel
theorem dX5_groups_70 : decode cX5_groups 70 = .ok (.iconst 0, 1) := by decide +kernel
theorem dX5_groups_71 : decode cX5_groups 71 = .ok (.istore 7, 2) := by decide +kernel
theorem dX5_groups_73 : decode cX5_groups 73 = .ok (.iconst 0, 1) := by decide +kernel
theorem dX5_groups_74 : decode cX5_groups 74 = .ok (.istore 8, 2) := by decide +kernel
theorem dX5_groups_76 : decode cX5_groups 76 = .ok (.iload 8, 2) := by decide +kernel
theorem dX5_groups_78 : decode cX5_groups 78 = .ok (.aload_n 0, 1) := by decide +kernel
theorem dX5_groups_79 : decode cX5_groups 79 = .ok (.getfield 16, 3) := by decide +kernel
theorem dX5_groups_82 : decode cX5_groups 82 = .ok (.bipush 96, 2) := by decide +kernel
theorem dX5_groups_84 : decode cX5_groups 84 = .ok (.iaload, 1) := by decide +kernel
theorem dX5_groups_85 : decode cX5_groups 85 = .ok (.if_icmp .ge 60, 3) := by decide +kernel
theorem dX5_groups_88 : decode cX5_groups 88 = .ok (.iload 6, 2) := by decide +kernel
theorem dX5_groups_90 : decode cX5_groups 90 = .ok (.aload_n 0, 1) := by decide +kernel
theorem dX5_groups_91 : decode cX5_groups 91 = .ok (.iload 5, 2) := by decide +kernel
theorem dX5_groups_93 : decode cX5_groups 93 = .ok (.iload 8, 2) := by decide +kernel
theorem dX5_groups_95 : decode cX5_groups 95 = .ok (.invokevirtual 183, 3) := by decide +kernel
theorem dX5_groups_98 : decode cX5_groups 98 = .ok (.ifCond .eq 7, 3) := by decide +kernel
theorem dX5_groups_101 : decode cX5_groups 101 = .ok (.iconst 1, 1) := by decide +kernel
theorem dX5_groups_102 : decode cX5_groups 102 = .ok (.goto 4, 3) := by decide +kernel
theorem dX5_groups_105 : decode cX5_groups 105 = .ok (.iconst 0, 1) := by decide +kernel
theorem dX5_groups_106 : decode cX5_groups 106 = .ok (.iadd, 1) := by decide +kernel
theorem dX5_groups_107 : decode cX5_groups 107 = .ok (.istore 6, 2) := by decide +kernel
theorem dX5_groups_109 : decode cX5_groups 109 = .ok (.iload 7, 2) := by decide +kernel
theorem dX5_groups_111 : decode cX5_groups 111 = .ok (.ifCond .eq 25, 3) := by decide +kernel
theorem dX5_groups_114 : decode cX5_groups 114 = .ok (.iload 8, 2) := by decide +kernel
theorem dX5_groups_116 : decode cX5_groups 116 = .ok (.iload 5, 2) := by decide +kernel
theorem dX5_groups_118 : decode cX5_groups 118 = .ok (.if_icmp .ge 14, 3) := by decide +kernel
theorem dX5_groups_121 : decode cX5_groups 121 = .ok (.aload_n 0, 1) := by decide +kernel
theorem dX5_groups_122 : decode cX5_groups 122 = .ok (.iload 5, 2) := by decide +kernel
theorem dX5_groups_124 : decode cX5_groups 124 = .ok (.iload 8, 2) := by decide +kernel
theorem dX5_groups_126 : decode cX5_groups 126 = .ok (.invokevirtual 183, 3) := by decide +kernel
theorem dX5_groups_129 : decode cX5_groups 129 = .ok (.ifCond .ne 7, 3) := by decide +kernel
theorem dX5_groups_132 : decode cX5_groups 132 = .ok (.iconst 1, 1) := by decide +kernel
theorem dX5_groups_133 : decode cX5_groups 133 = .ok (.goto 4, 3) := by decide +kernel
theorem dX5_groups_136 : decode cX5_groups 136 = .ok (.iconst 0, 1) := by decide +kernel
theorem dX5_groups_137 : decode cX5_groups 137 = .ok (.istore 7, 2) := by decide +kernel
theorem dX5_groups_139 : decode cX5_groups 139 = .ok (.iinc 8 1, 3) := by decide +kernel
theorem dX5_groups_142 : decode cX5_groups 142 = .ok (.goto (-66), 3) := by decide +kernel
theorem dX5_groups_145 : decode cX5_groups 145 = .ok (.iload_n 2, 1) := by decide +kernel
theorem dX5_groups_146 : decode cX5_groups 146 = .ok (.iload 7, 2) := by decide +kernel
theorem dX5_groups_148 : decode cX5_groups 148 = .ok (.ifCond .eq 7, 3) := by decide +kernel
theorem dX5_groups_151 : decode cX5_groups 151 = .ok (.iconst 1, 1) := by decide +kernel
theorem dX5_groups_152 : decode cX5_groups 152 = .ok (.goto 4, 3) := by decide +kernel
theorem dX5_groups_155 : decode cX5_groups 155 = .ok (.iconst 0, 1) := by decide +kernel
theorem dX5_groups_156 : decode cX5_groups 156 = .ok (.iadd, 1) := by decide +kernel
theorem dX5_groups_157 : decode cX5_groups 157 = .ok (.istore_n 2, 1) := by decide +kernel
theorem dX5_groups_158 : decode cX5_groups 158 = .ok (.iload 7, 2) := by decide +kernel
theorem dX5_groups_160 : decode cX5_groups 160 = .ok (.ifCond .eq 16, 3) := by decide +kernel
theorem dX5_groups_163 : decode cX5_groups 163 = .ok (.iload 6, 2) := by decide +kernel
theorem dX5_groups_165 : decode cX5_groups 165 = .ok (.iload_n 3, 1) := by decide +kernel
theorem dX5_groups_166 : decode cX5_groups 166 = .ok (.if_icmp .le 10, 3) := by decide +kernel
theorem dX5_groups_169 : decode cX5_groups 169 = .ok (.iload 6, 2) := by decide +kernel
theorem dX5_groups_171 : decode cX5_groups 171 = .ok (.istore_n 3, 1) := by decide +kernel
theorem dX5_groups_172 : decode cX5_groups 172 = .ok (.iload 5, 2) := by decide +kernel
theorem dX5_groups_174 : decode cX5_groups 174 = .ok (.istore 4, 2) := by decide +kernel
theorem dX5_groups_176 : decode cX5_groups 176 = .ok (.iinc 5 1, 3) := by decide +kernel
theorem dX5_groups_179 : decode cX5_groups 179 = .ok (.goto (-142), 3) := by decide +kernel
theorem dX5_groups_182 : decode cX5_groups 182 = .ok (.iload_n 1, 1) := by decide +kernel
theorem dX5_groups_183 : decode cX5_groups 183 = .ok (.ifCond .ne 7, 3) := by decide +kernel
theorem dX5_groups_186 : decode cX5_groups 186 = .ok (.iload_n 2, 1) := by decide +kernel
theorem dX5_groups_187 : decode cX5_groups 187 = .ok (.goto 14, 3) := by decide +kernel
theorem dX5_groups_190 : decode cX5_groups 190 = .ok (.iload_n 1, 1) := by decide +kernel
theorem dX5_groups_191 : decode cX5_groups 191 = .ok (.iconst 1, 1) := by decide +kernel
theorem dX5_groups_192 : decode cX5_groups 192 = .ok (.if_icmp .ne 7, 3) := by decide +kernel
theorem dX5_groups_195 : decode cX5_groups 195 = .ok (.iload_n 3, 1) := by decide +kernel
theorem dX5_groups_196 : decode cX5_groups 196 = .ok (.goto 5, 3) := by decide +kernel
theorem dX5_groups_199 : decode cX5_groups 199 = .ok (.iload 4, 2) := by decide +kernel
theorem dX5_groups_201 : decode cX5_groups 201 = .ok (.ireturn, 1) := by decide +kernel
set_option maxRecDepth 20000 in
theorem ggX5_dueAfter_X5_isGrip : GoodIn wsX5_dueAfter wsX5_isGrip := goodIn_r _ [7, 1, 8, 9, 6, 10, 16, 17, 18, 19, 20, 21, 22, 23, 24, 25, 26, 27, 28, 29, 30] (by decide +kernel) (by decide +kernel)
set_option maxRecDepth 20000 in
theorem gX5_dueAfter_X5_isGrip : GoodIn wsX5_dueAfter (wsV RX5 138 RX5 yX5_isGrip wsX5_isGrip) := goodIn_app (goodIn_of _ (by decide +kernel)) ggX5_dueAfter_X5_isGrip
set_option maxRecDepth 20000 in
theorem ggX5_dueAfter_X5_refused : GoodIn wsX5_dueAfter wsX5_refused := goodIn_r _ [14, 15, 16, 17, 18, 19, 20, 21, 22, 23, 24, 25, 26, 27, 28, 29, 30] (by decide +kernel) (by decide +kernel)
set_option maxRecDepth 20000 in
theorem gX5_dueAfter_X5_refused : GoodIn wsX5_dueAfter (wsV RX5 97 RX5 yX5_refused wsX5_refused) := goodIn_app (goodIn_of _ (by decide +kernel)) ggX5_dueAfter_X5_refused
theorem dX5_dueAfter_0 : decode cX5_dueAfter 0 = .ok (.aload_n 0, 1) := by decide +kernel
theorem dX5_dueAfter_1 : decode cX5_dueAfter 1 = .ok (.aload_n 0, 1) := by decide +kernel
theorem dX5_dueAfter_2 : decode cX5_dueAfter 2 = .ok (.iload_n 1, 1) := by decide +kernel
theorem dX5_dueAfter_3 : decode cX5_dueAfter 3 = .ok (.invokevirtual 138, 3) := by decide +kernel
theorem dX5_dueAfter_6 : decode cX5_dueAfter 6 = .ok (.ifCond .eq 7, 3) := by decide +kernel
theorem dX5_dueAfter_9 : decode cX5_dueAfter 9 = .ok (.iconst 0, 1) := by decide +kernel
theorem dX5_dueAfter_10 : decode cX5_dueAfter 10 = .ok (.goto 4, 3) := by decide +kernel
theorem dX5_dueAfter_13 : decode cX5_dueAfter 13 = .ok (.iconst 1, 1) := by decide +kernel
theorem dX5_dueAfter_14 : decode cX5_dueAfter 14 = .ok (.invokevirtual 97, 3) := by decide +kernel
theorem dX5_dueAfter_17 : decode cX5_dueAfter 17 = .ok (.ifCond .eq 5, 3) := by decide +kernel
theorem dX5_dueAfter_20 : decode cX5_dueAfter 20 = .ok (.iconst 0, 1) := by decide +kernel
theorem dX5_dueAfter_21 : decode cX5_dueAfter 21 = .ok (.ireturn, 1) := by decide +kernel
theorem dX5_dueAfter_22 : decode cX5_dueAfter 22 = .ok (.aload_n 0, 1) := by decide +kernel
theorem dX5_dueAfter_23 : decode cX5_dueAfter 23 = .ok (.getfield 16, 3) := by decide +kernel
theorem dX5_dueAfter_26 : decode cX5_dueAfter 26 = .ok (.bipush 60, 2) := by decide +kernel
theorem dX5_dueAfter_28 : decode cX5_dueAfter 28 = .ok (.iload_n 1, 1) := by decide +kernel
theorem dX5_dueAfter_29 : decode cX5_dueAfter 29 = .ok (.iadd, 1) := by decide +kernel
theorem dX5_dueAfter_30 : decode cX5_dueAfter 30 = .ok (.iaload, 1) := by decide +kernel
theorem dX5_dueAfter_31 : decode cX5_dueAfter 31 = .ok (.ifCond .eq 6, 3) := by decide +kernel
theorem dX5_dueAfter_34 : decode cX5_dueAfter 34 = .ok (.bipush (-9), 2) := by decide +kernel
theorem dX5_dueAfter_36 : decode cX5_dueAfter 36 = .ok (.ireturn, 1) := by decide +kernel
theorem dX5_dueAfter_37 : decode cX5_dueAfter 37 = .ok (.aload_n 0, 1) := by decide +kernel
theorem dX5_dueAfter_38 : decode cX5_dueAfter 38 = .ok (.getfield 16, 3) := by decide +kernel
theorem dX5_dueAfter_41 : decode cX5_dueAfter 41 = .ok (.bipush 72, 2) := by decide +kernel
theorem dX5_dueAfter_43 : decode cX5_dueAfter 43 = .ok (.iload_n 1, 1) := by decide +kernel
theorem dX5_dueAfter_44 : decode cX5_dueAfter 44 = .ok (.iadd, 1) := by decide +kernel
theorem dX5_dueAfter_45 : decode cX5_dueAfter 45 = .ok (.iaload, 1) := by decide +kernel
theorem dX5_dueAfter_46 : decode cX5_dueAfter 46 = .ok (.aload_n 0, 1) := by decide +kernel
theorem dX5_dueAfter_47 : decode cX5_dueAfter 47 = .ok (.getfield 16, 3) := by decide +kernel
theorem dX5_dueAfter_50 : decode cX5_dueAfter 50 = .ok (.bipush 97, 2) := by decide +kernel
theorem dX5_dueAfter_52 : decode cX5_dueAfter 52 = .ok (.iaload, 1) := by decide +kernel
theorem dX5_dueAfter_53 : decode cX5_dueAfter 53 = .ok (.isub, 1) := by decide +kernel
theorem dX5_dueAfter_54 : decode cX5_dueAfter 54 = .ok (.istore_n 2, 1) := by decide +kernel
theorem dX5_dueAfter_55 : decode cX5_dueAfter 55 = .ok (.iload_n 2, 1) := by decide +kernel
theorem dX5_dueAfter_56 : decode cX5_dueAfter 56 = .ok (.ifCond .gt 12, 3) := by decide +kernel
theorem dX5_dueAfter_59 : decode cX5_dueAfter 59 = .ok (.iload_n 2, 1) := by decide +kernel
theorem dX5_dueAfter_60 : decode cX5_dueAfter 60 = .ok (.aload_n 0, 1) := by decide +kernel
theorem dX5_dueAfter_61 : decode cX5_dueAfter 61 = .ok (.getfield 38, 3) := by decide +kernel
theorem dX5_dueAfter_64 : decode cX5_dueAfter 64 = .ok (.iadd, 1) := by decide +kernel
theorem dX5_dueAfter_65 : decode cX5_dueAfter 65 = .ok (.goto 4, 3) := by decide +kernel
theorem dX5_dueAfter_68 : decode cX5_dueAfter 68 = .ok (.iload_n 2, 1) := by decide +kernel
theorem dX5_dueAfter_69 : decode cX5_dueAfter 69 = .ok (.istore_n 2, 1) := by decide +kernel
theorem dX5_dueAfter_70 : decode cX5_dueAfter 70 = .ok (.aload_n 0, 1) := by decide +kernel
theorem dX5_dueAfter_71 : decode cX5_dueAfter 71 = .ok (.getfield 16, 3) := by decide +kernel
theorem dX5_dueAfter_74 : decode cX5_dueAfter 74 = .ok (.bipush 99, 2) := by decide +kernel
theorem dX5_dueAfter_76 : decode cX5_dueAfter 76 = .ok (.iaload, 1) := by decide +kernel
theorem dX5_dueAfter_77 : decode cX5_dueAfter 77 = .ok (.aload_n 0, 1) := by decide +kernel
theorem dX5_dueAfter_78 : decode cX5_dueAfter 78 = .ok (.getfield 16, 3) := by decide +kernel
theorem dX5_dueAfter_81 : decode cX5_dueAfter 81 = .ok (.bipush 12, 2) := by decide +kernel
theorem dX5_dueAfter_83 : decode cX5_dueAfter 83 = .ok (.iload_n 1, 1) := by decide +kernel
theorem dX5_dueAfter_84 : decode cX5_dueAfter 84 = .ok (.iadd, 1) := by decide +kernel
theorem dX5_dueAfter_85 : decode cX5_dueAfter 85 = .ok (.iaload, 1) := by decide +kernel
theorem dX5_dueAfter_86 : decode cX5_dueAfter 86 = .ok (.isub, 1) := by decide +kernel
theorem dX5_dueAfter_87 : decode cX5_dueAfter 87 = .ok (.istore_n 3, 1) := by decide +kernel
theorem dX5_dueAfter_88 : decode cX5_dueAfter 88 = .ok (.iload_n 2, 1) := by decide +kernel
theorem dX5_dueAfter_89 : decode cX5_dueAfter 89 = .ok (.aload_n 0, 1) := by decide +kernel
theorem dX5_dueAfter_90 : decode cX5_dueAfter 90 = .ok (.getfield 38, 3) := by decide +kernel
theorem dX5_dueAfter_93 : decode cX5_dueAfter 93 = .ok (.iload_n 3, 1) := by decide +kernel
theorem dX5_dueAfter_94 : decode cX5_dueAfter 94 = .ok (.iconst 1, 1) := by decide +kernel
theorem dX5_dueAfter_95 : decode cX5_dueAfter 95 = .ok (.if_icmp .ge 7, 3) := by decide +kernel
theorem dX5_dueAfter_98 : decode cX5_dueAfter 98 = .ok (.iconst 0, 1) := by decide +kernel
theorem dX5_dueAfter_99 : decode cX5_dueAfter 99 = .ok (.goto 6, 3) := by decide +kernel
theorem dX5_dueAfter_102 : decode cX5_dueAfter 102 = .ok (.iload_n 3, 1) := by decide +kernel
theorem dX5_dueAfter_103 : decode cX5_dueAfter 103 = .ok (.iconst 1, 1) := by decide +kernel
theorem dX5_dueAfter_104 : decode cX5_dueAfter 104 = .ok (.isub, 1) := by decide +kernel
theorem dX5_dueAfter_105 : decode cX5_dueAfter 105 = .ok (.imul, 1) := by decide +kernel
theorem dX5_dueAfter_106 : decode cX5_dueAfter 106 = .ok (.iadd, 1) := by decide +kernel
theorem dX5_dueAfter_107 : decode cX5_dueAfter 107 = .ok (.ireturn, 1) := by decide +kernel
set_option maxRecDepth 20000 in
theorem ggX5_chance_X5_in : GoodIn wsX5_chance wsX5_in := goodIn_r _ [6] (by decide +kernel) (by decide +kernel)
set_option maxRecDepth 20000 in
theorem gX5_chance_X5_in : GoodIn wsX5_chance (va_wsS RX5 54 yX5_in wsX5_in) := goodIn_app (goodIn_of _ (by decide +kernel)) ggX5_chance_X5_in
set_option maxRecDepth 20000 in
theorem ggX5_chance_X5_refused : GoodIn wsX5_chance wsX5_refused := goodIn_r _ [10, 11, 12, 13, 14, 15, 16, 17, 18, 19, 20, 21, 22, 23, 24, 25, 26] (by decide +kernel) (by decide +kernel)
set_option maxRecDepth 20000 in
theorem gX5_chance_X5_refused : GoodIn wsX5_chance (wsV RX5 97 RX5 yX5_refused wsX5_refused) := goodIn_app (goodIn_of _ (by decide +kernel)) ggX5_chance_X5_refused
theorem dX5_chance_0 : decode cX5_chance 0 = .ok (.aload_n 0, 1) := by decide +kernel
theorem dX5_chance_1 : decode cX5_chance 1 = .ok (.iload_n 1, 1) := by decide +kernel
theorem dX5_chance_2 : decode cX5_chance 2 = .ok (.i2l, 1) := by decide +kernel
theorem dX5_chance_3 : decode cX5_chance 3 = .ok (.lconst 1, 1) := by decide +kernel
theorem dX5_chance_4 : decode cX5_chance 4 = .ok (.ldc2_w 110, 3) := by decide +kernel
theorem dX5_chance_7 : decode cX5_chance 7 = .ok (.invokestatic 54, 3) := by decide +kernel
theorem dX5_chance_10 : decode cX5_chance 10 = .ok (.ifCond .eq 7, 3) := by decide +kernel
theorem dX5_chance_13 : decode cX5_chance 13 = .ok (.iconst 0, 1) := by decide +kernel
theorem dX5_chance_14 : decode cX5_chance 14 = .ok (.goto 4, 3) := by decide +kernel
theorem dX5_chance_17 : decode cX5_chance 17 = .ok (.iconst 1, 1) := by decide +kernel
theorem dX5_chance_18 : decode cX5_chance 18 = .ok (.invokevirtual 97, 3) := by decide +kernel
theorem dX5_chance_21 : decode cX5_chance 21 = .ok (.ifCond .eq 5, 3) := by decide +kernel
theorem dX5_chance_24 : decode cX5_chance 24 = .ok (.iconst 0, 1) := by decide +kernel
theorem dX5_chance_25 : decode cX5_chance 25 = .ok (.ireturn, 1) := by decide +kernel
theorem dX5_chance_26 : decode cX5_chance 26 = .ok (.aload_n 0, 1) := by decide +kernel
theorem dX5_chance_27 : decode cX5_chance 27 = .ok (.getfield 16, 3) := by decide +kernel
theorem dX5_chance_30 : decode cX5_chance 30 = .ok (.bipush 101, 2) := by decide +kernel
theorem dX5_chance_32 : decode cX5_chance 32 = .ok (.iaload, 1) := by decide +kernel
theorem dX5_chance_33 : decode cX5_chance 33 = .ok (.istore_n 3, 1) := by decide +kernel
theorem dX5_chance_34 : decode cX5_chance 34 = .ok (.iconst 1, 1) := by decide +kernel
theorem dX5_chance_35 : decode cX5_chance 35 = .ok (.istore 4, 2) := by decide +kernel
theorem dX5_chance_37 : decode cX5_chance 37 = .ok (.iconst 0, 1) := by decide +kernel
theorem dX5_chance_38 : decode cX5_chance 38 = .ok (.istore 5, 2) := by decide +kernel
theorem dX5_chance_40 : decode cX5_chance 40 = .ok (.iload 5, 2) := by decide +kernel
theorem dX5_chance_42 : decode cX5_chance 42 = .ok (.iload_n 1, 1) := by decide +kernel
theorem dX5_chance_43 : decode cX5_chance 43 = .ok (.if_icmp .ge 25, 3) := by decide +kernel
theorem dX5_chance_46 : decode cX5_chance 46 = .ok (.iload 4, 2) := by decide +kernel
theorem dX5_chance_48 : decode cX5_chance 48 = .ok (.iload_n 2, 1) := by decide +kernel
theorem dX5_chance_49 : decode cX5_chance 49 = .ok (.ifCond .eq 9, 3) := by decide +kernel
theorem dX5_chance_52 : decode cX5_chance 52 = .ok (.iload_n 3, 1) := by decide +kernel
theorem dX5_chance_53 : decode cX5_chance 53 = .ok (.iconst 1, 1) := by decide +kernel
theorem dX5_chance_54 : decode cX5_chance 54 = .ok (.isub, 1) := by decide +kernel
theorem dX5_chance_55 : decode cX5_chance 55 = .ok (.goto 4, 3) := by decide +kernel
theorem dX5_chance_58 : decode cX5_chance 58 = .ok (.iload_n 3, 1) := by decide +kernel
theorem dX5_chance_59 : decode cX5_chance 59 = .ok (.imul, 1) := by decide +kernel
theorem dX5_chance_60 : decode cX5_chance 60 = .ok (.istore 4, 2) := by decide +kernel
theorem dX5_chance_62 : decode cX5_chance 62 = .ok (.iinc 5 1, 3) := by decide +kernel
theorem dX5_chance_65 : decode cX5_chance 65 = .ok (.goto (-25), 3) := by decide +kernel
theorem dX5_chance_68 : decode cX5_chance 68 = .ok (.iload 4, 2) := by decide +kernel
theorem dX5_chance_70 : decode cX5_chance 70 = .ok (.ireturn, 1) := by decide +kernel
set_option maxRecDepth 20000 in
theorem ggX5_ahead_X5_isGrip : GoodIn wsX5_ahead wsX5_isGrip := goodIn_r _ [9, 3, 10, 11, 8, 12, 58, 59, 60, 61, 62, 63, 64, 65, 66, 67, 68, 69, 70, 71, 72] (by decide +kernel) (by decide +kernel)
set_option maxRecDepth 20000 in
theorem gX5_ahead_X5_isGrip : GoodIn wsX5_ahead (wsV RX5 138 RX5 yX5_isGrip wsX5_isGrip) := goodIn_app (goodIn_of _ (by decide +kernel)) ggX5_ahead_X5_isGrip
set_option maxRecDepth 20000 in
theorem ggX5_ahead_X5_in : GoodIn wsX5_ahead wsX5_in := goodIn_r _ [12] (by decide +kernel) (by decide +kernel)
set_option maxRecDepth 20000 in
theorem gX5_ahead_X5_in : GoodIn wsX5_ahead (va_wsS RX5 54 yX5_in wsX5_in) := goodIn_app (goodIn_of _ (by decide +kernel)) ggX5_ahead_X5_in
set_option maxRecDepth 20000 in
theorem ggX5_ahead_X5_refused : GoodIn wsX5_ahead wsX5_refused := goodIn_r _ [16, 17, 58, 59, 60, 61, 62, 63, 64, 65, 66, 67, 68, 69, 70, 71, 72] (by decide +kernel) (by decide +kernel)
set_option maxRecDepth 20000 in
theorem gX5_ahead_X5_refused : GoodIn wsX5_ahead (wsV RX5 97 RX5 yX5_refused wsX5_refused) := goodIn_app (goodIn_of _ (by decide +kernel)) ggX5_ahead_X5_refused
set_option maxRecDepth 20000 in
theorem ggX5_ahead_X5_copy : GoodIn wsX5_ahead wsX5_copy := goodIn_r _ [20] (by decide +kernel) (by decide +kernel)
set_option maxRecDepth 20000 in
theorem gX5_ahead_X5_copy : GoodIn wsX5_ahead (va_wsS RX5 50 yX5_copy wsX5_copy) := goodIn_app (goodIn_of _ (by decide +kernel)) ggX5_ahead_X5_copy
set_option maxRecDepth 20000 in
theorem ggX5_ahead_X5_stepsOn : GoodIn wsX5_ahead wsX5_stepsOn := goodIn_r _ [24, 25, 26, 27, 28, 8, 29, 30, 31, 32, 33, 34, 35, 36, 37, 38, 39, 40, 41, 42, 43, 44, 45, 46, 47, 48, 49, 50, 51, 52, 53, 54, 58, 59, 60, 61, 62, 63, 64, 65, 66, 67, 68, 69, 70, 71, 72] (by decide +kernel) (by decide +kernel)
set_option maxRecDepth 20000 in
theorem gX5_ahead_X5_stepsOn : GoodIn wsX5_ahead (wsV RX5 157 RX5 yX5_stepsOn wsX5_stepsOn) := goodIn_app (goodIn_of _ (by decide +kernel)) ggX5_ahead_X5_stepsOn
set_option maxRecDepth 20000 in
theorem ggX5_ahead_X5_detail : GoodIn wsX5_ahead wsX5_detail := goodIn_r _ [57] (by decide +kernel) (by decide +kernel)
set_option maxRecDepth 20000 in
theorem gX5_ahead_X5_detail : GoodIn wsX5_ahead (va_wsS RX5 143 yX5_detail wsX5_detail) := goodIn_app (goodIn_of _ (by decide +kernel)) ggX5_ahead_X5_detail
theorem dX5_ahead_0 : decode cX5_ahead 0 = .ok (.aload_n 0, 1) := by decide +kernel
theorem dX5_ahead_1 : decode cX5_ahead 1 = .ok (.aload_n 0, 1) := by decide +kernel
theorem dX5_ahead_2 : decode cX5_ahead 2 = .ok (.iload_n 1, 1) := by decide +kernel
theorem dX5_ahead_3 : decode cX5_ahead 3 = .ok (.invokevirtual 138, 3) := by decide +kernel
theorem dX5_ahead_6 : decode cX5_ahead 6 = .ok (.ifCond .ne 7, 3) := by decide +kernel
theorem dX5_ahead_9 : decode cX5_ahead 9 = .ok (.iconst 1, 1) := by decide +kernel
theorem dX5_ahead_10 : decode cX5_ahead 10 = .ok (.goto 32, 3) := by decide +kernel
theorem dX5_ahead_13 : decode cX5_ahead 13 = .ok (.iload_n 2, 1) := by decide +kernel
theorem dX5_ahead_14 : decode cX5_ahead 14 = .ok (.i2l, 1) := by decide +kernel
theorem dX5_ahead_15 : decode cX5_ahead 15 = .ok (.lconst 0, 1) := by decide +kernel
theorem dX5_ahead_16 : decode cX5_ahead 16 = .ok (.ldc2_w 152, 3) := by decide +kernel
theorem dX5_ahead_19 : decode cX5_ahead 19 = .ok (.invokestatic 54, 3) := by decide +kernel
theorem dX5_ahead_22 : decode cX5_ahead 22 = .ok (.ifCond .eq 15, 3) := by decide +kernel
theorem dX5_ahead_25 : decode cX5_ahead 25 = .ok (.iload_n 3, 1) := by decide +kernel
theorem dX5_ahead_26 : decode cX5_ahead 26 = .ok (.i2l, 1) := by decide +kernel
theorem dX5_ahead_27 : decode cX5_ahead 27 = .ok (.lconst 0, 1) := by decide +kernel
theorem dX5_ahead_28 : decode cX5_ahead 28 = .ok (.ldc2_w 141, 3) := by decide +kernel
theorem dX5_ahead_31 : decode cX5_ahead 31 = .ok (.invokestatic 54, 3) := by decide +kernel
theorem dX5_ahead_34 : decode cX5_ahead 34 = .ok (.ifCond .ne 7, 3) := by decide +kernel
theorem dX5_ahead_37 : decode cX5_ahead 37 = .ok (.iconst 2, 1) := by decide +kernel
theorem dX5_ahead_38 : decode cX5_ahead 38 = .ok (.goto 4, 3) := by decide +kernel
theorem dX5_ahead_41 : decode cX5_ahead 41 = .ok (.iconst 0, 1) := by decide +kernel
theorem dX5_ahead_42 : decode cX5_ahead 42 = .ok (.invokevirtual 97, 3) := by decide +kernel
theorem dX5_ahead_45 : decode cX5_ahead 45 = .ok (.ifCond .eq 5, 3) := by decide +kernel
theorem dX5_ahead_48 : decode cX5_ahead 48 = .ok (.iconst 0, 1) := by decide +kernel
theorem dX5_ahead_49 : decode cX5_ahead 49 = .ok (.ireturn, 1) := by decide +kernel
theorem dX5_ahead_50 : decode cX5_ahead 50 = .ok (.aload_n 0, 1) := by decide +kernel
theorem dX5_ahead_51 : decode cX5_ahead 51 = .ok (.getfield 16, 3) := by decide +kernel
theorem dX5_ahead_54 : decode cX5_ahead 54 = .ok (.iconst 0, 1) := by decide +kernel
theorem dX5_ahead_55 : decode cX5_ahead 55 = .ok (.aload_n 0, 1) := by decide +kernel
theorem dX5_ahead_56 : decode cX5_ahead 56 = .ok (.getfield 19, 3) := by decide +kernel
theorem dX5_ahead_59 : decode cX5_ahead 59 = .ok (.iconst 0, 1) := by decide +kernel
theorem dX5_ahead_60 : decode cX5_ahead 60 = .ok (.bipush 106, 2) := by decide +kernel
theorem dX5_ahead_62 : decode cX5_ahead 62 = .ok (.invokestatic 50, 3) := by decide +kernel
theorem dX5_ahead_65 : decode cX5_ahead 65 = .ok (.aload_n 0, 1) := by decide +kernel
theorem dX5_ahead_66 : decode cX5_ahead 66 = .ok (.aload_n 0, 1) := by decide +kernel
theorem dX5_ahead_67 : decode cX5_ahead 67 = .ok (.getfield 19, 3) := by decide +kernel
theorem dX5_ahead_70 : decode cX5_ahead 70 = .ok (.iload_n 2, 1) := by decide +kernel
theorem dX5_ahead_71 : decode cX5_ahead 71 = .ok (.invokevirtual 157, 3) := by decide +kernel
theorem dX5_ahead_74 : decode cX5_ahead 74 = .ok (.aload_n 0, 1) := by decide +kernel
theorem dX5_ahead_75 : decode cX5_ahead 75 = .ok (.getfield 19, 3) := by decide +kernel
theorem dX5_ahead_78 : decode cX5_ahead 78 = .ok (.iload_n 1, 1) := by decide +kernel
theorem dX5_ahead_79 : decode cX5_ahead 79 = .ok (.iload_n 3, 1) := by decide +kernel
theorem dX5_ahead_80 : decode cX5_ahead 80 = .ok (.invokestatic 143, 3) := by decide +kernel
theorem dX5_ahead_83 : decode cX5_ahead 83 = .ok (.ireturn, 1) := by decide +kernel
set_option maxRecDepth 20000 in
theorem ggX5_happens_X5_in : GoodIn wsX5_happens wsX5_in := goodIn_r _ [9] (by decide +kernel) (by decide +kernel)
set_option maxRecDepth 20000 in
theorem gX5_happens_X5_in : GoodIn wsX5_happens (va_wsS RX5 54 yX5_in wsX5_in) := goodIn_app (goodIn_of _ (by decide +kernel)) ggX5_happens_X5_in
set_option maxRecDepth 20000 in
theorem ggX5_happens_X5_refused : GoodIn wsX5_happens wsX5_refused := goodIn_r _ [13, 14, 51, 52, 53, 54, 55, 56, 57, 58, 59, 60, 61, 62, 63, 64, 65] (by decide +kernel) (by decide +kernel)
set_option maxRecDepth 20000 in
theorem gX5_happens_X5_refused : GoodIn wsX5_happens (wsV RX5 97 RX5 yX5_refused wsX5_refused) := goodIn_app (goodIn_of _ (by decide +kernel)) ggX5_happens_X5_refused
set_option maxRecDepth 20000 in
theorem ggX5_happens_X5_copy : GoodIn wsX5_happens wsX5_copy := goodIn_r _ [17] (by decide +kernel) (by decide +kernel)
set_option maxRecDepth 20000 in
theorem gX5_happens_X5_copy : GoodIn wsX5_happens (va_wsS RX5 50 yX5_copy wsX5_copy) := goodIn_app (goodIn_of _ (by decide +kernel)) ggX5_happens_X5_copy
set_option maxRecDepth 20000 in
theorem ggX5_happens_X5_stepsOn : GoodIn wsX5_happens wsX5_stepsOn := goodIn_r _ [21, 5, 22, 23, 24, 8, 25, 26, 27, 28, 29, 30, 31, 32, 33, 34, 35, 36, 37, 38, 39, 40, 41, 42, 43, 44, 45, 46, 47, 48, 49, 50, 51, 52, 53, 54, 55, 56, 57, 58, 59, 60, 61, 62, 63, 64, 65] (by decide +kernel) (by decide +kernel)
set_option maxRecDepth 20000 in
theorem gX5_happens_X5_stepsOn : GoodIn wsX5_happens (wsV RX5 157 RX5 yX5_stepsOn wsX5_stepsOn) := goodIn_app (goodIn_of _ (by decide +kernel)) ggX5_happens_X5_stepsOn
theorem dX5_happens_0 : decode cX5_happens 0 = .ok (.aload_n 0, 1) := by decide +kernel
theorem dX5_happens_1 : decode cX5_happens 1 = .ok (.iload_n 1, 1) := by decide +kernel
theorem dX5_happens_2 : decode cX5_happens 2 = .ok (.i2l, 1) := by decide +kernel
theorem dX5_happens_3 : decode cX5_happens 3 = .ok (.lconst 1, 1) := by decide +kernel
theorem dX5_happens_4 : decode cX5_happens 4 = .ok (.ldc2_w 152, 3) := by decide +kernel
theorem dX5_happens_7 : decode cX5_happens 7 = .ok (.invokestatic 54, 3) := by decide +kernel
theorem dX5_happens_10 : decode cX5_happens 10 = .ok (.ifCond .eq 19, 3) := by decide +kernel
theorem dX5_happens_13 : decode cX5_happens 13 = .ok (.iload_n 2, 1) := by decide +kernel
theorem dX5_happens_14 : decode cX5_happens 14 = .ok (.i2l, 1) := by decide +kernel
theorem dX5_happens_15 : decode cX5_happens 15 = .ok (.lconst 0, 1) := by decide +kernel
theorem dX5_happens_16 : decode cX5_happens 16 = .ok (.ldc2_w 161, 3) := by decide +kernel
theorem dX5_happens_19 : decode cX5_happens 19 = .ok (.invokestatic 54, 3) := by decide +kernel
theorem dX5_happens_22 : decode cX5_happens 22 = .ok (.ifCond .eq 7, 3) := by decide +kernel
theorem dX5_happens_25 : decode cX5_happens 25 = .ok (.iconst 0, 1) := by decide +kernel
theorem dX5_happens_26 : decode cX5_happens 26 = .ok (.goto 4, 3) := by decide +kernel
theorem dX5_happens_29 : decode cX5_happens 29 = .ok (.iconst 1, 1) := by decide +kernel
theorem dX5_happens_30 : decode cX5_happens 30 = .ok (.invokevirtual 97, 3) := by decide +kernel
theorem dX5_happens_33 : decode cX5_happens 33 = .ok (.ifCond .eq 5, 3) := by decide +kernel
theorem dX5_happens_36 : decode cX5_happens 36 = .ok (.iconst 0, 1) := by decide +kernel
theorem dX5_happens_37 : decode cX5_happens 37 = .ok (.ireturn, 1) := by decide +kernel
theorem dX5_happens_38 : decode cX5_happens 38 = .ok (.aload_n 0, 1) := by decide +kernel
theorem dX5_happens_39 : decode cX5_happens 39 = .ok (.getfield 16, 3) := by decide +kernel
theorem dX5_happens_42 : decode cX5_happens 42 = .ok (.iconst 0, 1) := by decide +kernel
theorem dX5_happens_43 : decode cX5_happens 43 = .ok (.aload_n 0, 1) := by decide +kernel
theorem dX5_happens_44 : decode cX5_happens 44 = .ok (.getfield 19, 3) := by decide +kernel
theorem dX5_happens_47 : decode cX5_happens 47 = .ok (.iconst 0, 1) := by decide +kernel
theorem dX5_happens_48 : decode cX5_happens 48 = .ok (.bipush 106, 2) := by decide +kernel
theorem dX5_happens_50 : decode cX5_happens 50 = .ok (.invokestatic 50, 3) := by decide +kernel
theorem dX5_happens_53 : decode cX5_happens 53 = .ok (.aload_n 0, 1) := by decide +kernel
theorem dX5_happens_54 : decode cX5_happens 54 = .ok (.aload_n 0, 1) := by decide +kernel
theorem dX5_happens_55 : decode cX5_happens 55 = .ok (.getfield 19, 3) := by decide +kernel
theorem dX5_happens_58 : decode cX5_happens 58 = .ok (.iload_n 1, 1) := by decide +kernel
theorem dX5_happens_59 : decode cX5_happens 59 = .ok (.invokevirtual 157, 3) := by decide +kernel
theorem dX5_happens_62 : decode cX5_happens 62 = .ok (.aload_n 0, 1) := by decide +kernel
theorem dX5_happens_63 : decode cX5_happens 63 = .ok (.getfield 32, 3) := by decide +kernel
theorem dX5_happens_66 : decode cX5_happens 66 = .ok (.iload_n 2, 1) := by decide +kernel
theorem dX5_happens_67 : decode cX5_happens 67 = .ok (.iaload, 1) := by decide +kernel
theorem dX5_happens_68 : decode cX5_happens 68 = .ok (.ireturn, 1) := by decide +kernel
set_option maxRecDepth 20000 in
theorem ggX5_bestLimit_X5_in : GoodIn wsX5_bestLimit wsX5_in := goodIn_r _ [8] (by decide +kernel) (by decide +kernel)
set_option maxRecDepth 20000 in
theorem gX5_bestLimit_X5_in : GoodIn wsX5_bestLimit (va_wsS RX5 54 yX5_in wsX5_in) := goodIn_app (goodIn_of _ (by decide +kernel)) ggX5_bestLimit_X5_in
set_option maxRecDepth 20000 in
theorem ggX5_bestLimit_X5_refused : GoodIn wsX5_bestLimit wsX5_refused := goodIn_r _ [12, 13, 50, 51, 52, 53, 54, 55, 56, 57, 58, 59, 60, 61, 62, 63, 64] (by decide +kernel) (by decide +kernel)
set_option maxRecDepth 20000 in
theorem gX5_bestLimit_X5_refused : GoodIn wsX5_bestLimit (wsV RX5 97 RX5 yX5_refused wsX5_refused) := goodIn_app (goodIn_of _ (by decide +kernel)) ggX5_bestLimit_X5_refused
set_option maxRecDepth 20000 in
theorem ggX5_bestLimit_X5_copy : GoodIn wsX5_bestLimit wsX5_copy := goodIn_r _ [16] (by decide +kernel) (by decide +kernel)
set_option maxRecDepth 20000 in
theorem gX5_bestLimit_X5_copy : GoodIn wsX5_bestLimit (va_wsS RX5 50 yX5_copy wsX5_copy) := goodIn_app (goodIn_of _ (by decide +kernel)) ggX5_bestLimit_X5_copy
set_option maxRecDepth 20000 in
theorem ggX5_bestLimit_X5_stepsOn : GoodIn wsX5_bestLimit wsX5_stepsOn := goodIn_r _ [20, 4, 21, 22, 23, 7, 24, 25, 26, 27, 28, 29, 30, 31, 32, 33, 34, 35, 36, 37, 38, 39, 40, 41, 42, 43, 44, 45, 46, 47, 48, 49, 50, 51, 52, 53, 54, 55, 56, 57, 58, 59, 60, 61, 62, 63, 64] (by decide +kernel) (by decide +kernel)
set_option maxRecDepth 20000 in
theorem gX5_bestLimit_X5_stepsOn : GoodIn wsX5_bestLimit (wsV RX5 157 RX5 yX5_stepsOn wsX5_stepsOn) := goodIn_app (goodIn_of _ (by decide +kernel)) ggX5_bestLimit_X5_stepsOn
theorem dX5_bestLimit_0 : decode cX5_bestLimit 0 = .ok (.aload_n 0, 1) := by decide +kernel
theorem dX5_bestLimit_1 : decode cX5_bestLimit 1 = .ok (.iload_n 1, 1) := by decide +kernel
theorem dX5_bestLimit_2 : decode cX5_bestLimit 2 = .ok (.i2l, 1) := by decide +kernel
theorem dX5_bestLimit_3 : decode cX5_bestLimit 3 = .ok (.lconst 1, 1) := by decide +kernel
theorem dX5_bestLimit_4 : decode cX5_bestLimit 4 = .ok (.ldc2_w 152, 3) := by decide +kernel
theorem dX5_bestLimit_7 : decode cX5_bestLimit 7 = .ok (.invokestatic 54, 3) := by decide +kernel
theorem dX5_bestLimit_10 : decode cX5_bestLimit 10 = .ok (.ifCond .eq 7, 3) := by decide +kernel
theorem dX5_bestLimit_13 : decode cX5_bestLimit 13 = .ok (.iconst 0, 1) := by decide +kernel
theorem dX5_bestLimit_14 : decode cX5_bestLimit 14 = .ok (.goto 4, 3) := by decide +kernel
theorem dX5_bestLimit_17 : decode cX5_bestLimit 17 = .ok (.iconst 1, 1) := by decide +kernel
theorem dX5_bestLimit_18 : decode cX5_bestLimit 18 = .ok (.invokevirtual 97, 3) := by decide +kernel
theorem dX5_bestLimit_21 : decode cX5_bestLimit 21 = .ok (.ifCond .eq 5, 3) := by decide +kernel
theorem dX5_bestLimit_24 : decode cX5_bestLimit 24 = .ok (.iconst 0, 1) := by decide +kernel
theorem dX5_bestLimit_25 : decode cX5_bestLimit 25 = .ok (.ireturn, 1) := by decide +kernel
theorem dX5_bestLimit_26 : decode cX5_bestLimit 26 = .ok (.bipush 99, 2) := by decide +kernel
theorem dX5_bestLimit_28 : decode cX5_bestLimit 28 = .ok (.istore_n 2, 1) := by decide +kernel
theorem dX5_bestLimit_29 : decode cX5_bestLimit 29 = .ok (.iload_n 2, 1) := by decide +kernel
theorem dX5_bestLimit_30 : decode cX5_bestLimit 30 = .ok (.ifCond .le 52, 3) := by decide +kernel
theorem dX5_bestLimit_33 : decode cX5_bestLimit 33 = .ok (.aload_n 0, 1) := by decide +kernel
theorem dX5_bestLimit_34 : decode cX5_bestLimit 34 = .ok (.getfield 16, 3) := by decide +kernel
theorem dX5_bestLimit_37 : decode cX5_bestLimit 37 = .ok (.iconst 0, 1) := by decide +kernel
theorem dX5_bestLimit_38 : decode cX5_bestLimit 38 = .ok (.aload_n 0, 1) := by decide +kernel
theorem dX5_bestLimit_39 : decode cX5_bestLimit 39 = .ok (.getfield 19, 3) := by decide +kernel
theorem dX5_bestLimit_42 : decode cX5_bestLimit 42 = .ok (.iconst 0, 1) := by decide +kernel
theorem dX5_bestLimit_43 : decode cX5_bestLimit 43 = .ok (.bipush 106, 2) := by decide +kernel
theorem dX5_bestLimit_45 : decode cX5_bestLimit 45 = .ok (.invokestatic 50, 3) := by decide +kernel
theorem dX5_bestLimit_48 : decode cX5_bestLimit 48 = .ok (.aload_n 0, 1) := by decide +kernel
theorem dX5_bestLimit_49 : decode cX5_bestLimit 49 = .ok (.getfield 19, 3) := by decide +kernel
theorem dX5_bestLimit_52 : decode cX5_bestLimit 52 = .ok (.bipush 99, 2) := by decide +kernel
theorem dX5_bestLimit_54 : decode cX5_bestLimit 54 = .ok (.iload_n 2, 1) := by decide +kernel
theorem dX5_bestLimit_55 : decode cX5_bestLimit 55 = .ok (.iastore, 1) := by decide +kernel
theorem dX5_bestLimit_56 : decode cX5_bestLimit 56 = .ok (.aload_n 0, 1) := by decide +kernel
theorem dX5_bestLimit_57 : decode cX5_bestLimit 57 = .ok (.aload_n 0, 1) := by decide +kernel
theorem dX5_bestLimit_58 : decode cX5_bestLimit 58 = .ok (.getfield 19, 3) := by decide +kernel
theorem dX5_bestLimit_61 : decode cX5_bestLimit 61 = .ok (.iload_n 1, 1) := by decide +kernel
theorem dX5_bestLimit_62 : decode cX5_bestLimit 62 = .ok (.invokevirtual 157, 3) := by decide +kernel
theorem dX5_bestLimit_65 : decode cX5_bestLimit 65 = .ok (.aload_n 0, 1) := by decide +kernel
theorem dX5_bestLimit_66 : decode cX5_bestLimit 66 = .ok (.getfield 32, 3) := by decide +kernel
theorem dX5_bestLimit_69 : decode cX5_bestLimit 69 = .ok (.iconst 2, 1) := by decide +kernel
theorem dX5_bestLimit_70 : decode cX5_bestLimit 70 = .ok (.iaload, 1) := by decide +kernel
theorem dX5_bestLimit_71 : decode cX5_bestLimit 71 = .ok (.ifCond .ne 5, 3) := by decide +kernel
theorem dX5_bestLimit_74 : decode cX5_bestLimit 74 = .ok (.iload_n 2, 1) := by decide +kernel
theorem dX5_bestLimit_75 : decode cX5_bestLimit 75 = .ok (.ireturn, 1) := by decide +kernel
theorem dX5_bestLimit_76 : decode cX5_bestLimit 76 = .ok (.iinc 2 (-1), 3) := by decide +kernel
theorem dX5_bestLimit_79 : decode cX5_bestLimit 79 = .ok (.goto (-50), 3) := by decide +kernel
theorem dX5_bestLimit_82 : decode cX5_bestLimit 82 = .ok (.bipush (-9), 2) := by decide +kernel
theorem dX5_bestLimit_84 : decode cX5_bestLimit 84 = .ok (.ireturn, 1) := by decide +kernel
set_option maxRecDepth 20000 in
theorem ggX5_emptyAfter_X5_copy : GoodIn wsX5_emptyAfter wsX5_copy := goodIn_r _ [7] (by decide +kernel) (by decide +kernel)
set_option maxRecDepth 20000 in
theorem gX5_emptyAfter_X5_copy : GoodIn wsX5_emptyAfter (va_wsS RX5 50 yX5_copy wsX5_copy) := goodIn_app (goodIn_of _ (by decide +kernel)) ggX5_emptyAfter_X5_copy
set_option maxRecDepth 20000 in
theorem ggX5_emptyAfter_X5_count : GoodIn wsX5_emptyAfter wsX5_count := goodIn_r _ [10] (by decide +kernel) (by decide +kernel)
set_option maxRecDepth 20000 in
theorem gX5_emptyAfter_X5_count : GoodIn wsX5_emptyAfter (va_wsS RX5 115 yX5_count wsX5_count) := goodIn_app (goodIn_of _ (by decide +kernel)) ggX5_emptyAfter_X5_count
set_option maxRecDepth 20000 in
theorem ggX5_emptyAfter_X5_stepOn : GoodIn wsX5_emptyAfter wsX5_stepOn := goodIn_r _ [14, 15, 16, 17, 18, 19, 20, 6, 21, 22, 23, 24, 25, 26, 27, 28, 29, 30, 31, 32, 33, 34, 35, 36, 37, 38, 39, 40, 41, 42, 43, 44, 45, 46, 47, 48, 49, 50, 51, 52, 53, 54, 55] (by decide +kernel) (by decide +kernel)
set_option maxRecDepth 20000 in
theorem gX5_emptyAfter_X5_stepOn : GoodIn wsX5_emptyAfter (wsV RX5 88 RX5 yX5_stepOn wsX5_stepOn) := goodIn_app (goodIn_of _ (by decide +kernel)) ggX5_emptyAfter_X5_stepOn
theorem dX5_emptyAfter_0 : decode cX5_emptyAfter 0 = .ok (.aload_n 0, 1) := by decide +kernel
theorem dX5_emptyAfter_1 : decode cX5_emptyAfter 1 = .ok (.iconst 0, 1) := by decide +kernel
theorem dX5_emptyAfter_2 : decode cX5_emptyAfter 2 = .ok (.putfield 42, 3) := by decide +kernel
theorem dX5_emptyAfter_5 : decode cX5_emptyAfter 5 = .ok (.aload_n 0, 1) := by decide +kernel
theorem dX5_emptyAfter_6 : decode cX5_emptyAfter 6 = .ok (.getfield 16, 3) := by decide +kernel
theorem dX5_emptyAfter_9 : decode cX5_emptyAfter 9 = .ok (.iconst 0, 1) := by decide +kernel
theorem dX5_emptyAfter_10 : decode cX5_emptyAfter 10 = .ok (.aload_n 0, 1) := by decide +kernel
theorem dX5_emptyAfter_11 : decode cX5_emptyAfter 11 = .ok (.getfield 19, 3) := by decide +kernel
theorem dX5_emptyAfter_14 : decode cX5_emptyAfter 14 = .ok (.iconst 0, 1) := by decide +kernel
theorem dX5_emptyAfter_15 : decode cX5_emptyAfter 15 = .ok (.bipush 106, 2) := by decide +kernel
theorem dX5_emptyAfter_17 : decode cX5_emptyAfter 17 = .ok (.invokestatic 50, 3) := by decide +kernel
theorem dX5_emptyAfter_20 : decode cX5_emptyAfter 20 = .ok (.iconst 0, 1) := by decide +kernel
theorem dX5_emptyAfter_21 : decode cX5_emptyAfter 21 = .ok (.istore_n 1, 1) := by decide +kernel
theorem dX5_emptyAfter_22 : decode cX5_emptyAfter 22 = .ok (.iload_n 1, 1) := by decide +kernel
theorem dX5_emptyAfter_23 : decode cX5_emptyAfter 23 = .ok (.sipush 150, 3) := by decide +kernel
theorem dX5_emptyAfter_26 : decode cX5_emptyAfter 26 = .ok (.if_icmp .gt 30, 3) := by decide +kernel
theorem dX5_emptyAfter_29 : decode cX5_emptyAfter 29 = .ok (.aload_n 0, 1) := by decide +kernel
theorem dX5_emptyAfter_30 : decode cX5_emptyAfter 30 = .ok (.getfield 19, 3) := by decide +kernel
theorem dX5_emptyAfter_33 : decode cX5_emptyAfter 33 = .ok (.iconst 0, 1) := by decide +kernel
theorem dX5_emptyAfter_34 : decode cX5_emptyAfter 34 = .ok (.invokestatic 115, 3) := by decide +kernel
theorem dX5_emptyAfter_37 : decode cX5_emptyAfter 37 = .ok (.ifCond .ne 5, 3) := by decide +kernel
theorem dX5_emptyAfter_40 : decode cX5_emptyAfter 40 = .ok (.iload_n 1, 1) := by decide +kernel
theorem dX5_emptyAfter_41 : decode cX5_emptyAfter 41 = .ok (.ireturn, 1) := by decide +kernel
theorem dX5_emptyAfter_42 : decode cX5_emptyAfter 42 = .ok (.aload_n 0, 1) := by decide +kernel
theorem dX5_emptyAfter_43 : decode cX5_emptyAfter 43 = .ok (.aload_n 0, 1) := by decide +kernel
theorem dX5_emptyAfter_44 : decode cX5_emptyAfter 44 = .ok (.getfield 19, 3) := by decide +kernel
theorem dX5_emptyAfter_47 : decode cX5_emptyAfter 47 = .ok (.invokevirtual 88, 3) := by decide +kernel
theorem dX5_emptyAfter_50 : decode cX5_emptyAfter 50 = .ok (.iinc 1 1, 3) := by decide +kernel
theorem dX5_emptyAfter_53 : decode cX5_emptyAfter 53 = .ok (.goto (-31), 3) := by decide +kernel
theorem dX5_emptyAfter_56 : decode cX5_emptyAfter 56 = .ok (.bipush (-9), 2) := by decide +kernel
theorem dX5_emptyAfter_58 : decode cX5_emptyAfter 58 = .ok (.ireturn, 1) := by decide +kernel
set_option maxRecDepth 20000 in
theorem ggX5_command_X5_stepsOn : GoodIn wsX5_command wsX5_stepsOn := goodIn_r _ [6, 7, 8, 9, 10, 5, 11, 12, 13, 14, 15, 16, 17, 18, 19, 20, 21, 22, 23, 24, 25, 26, 27, 28, 29, 30, 31, 32, 33, 34, 35, 36, 58, 59, 60, 61, 62, 63, 64, 65, 66, 67, 68, 69, 70, 71, 72] (by decide +kernel) (by decide +kernel)
set_option maxRecDepth 20000 in
theorem gX5_command_X5_stepsOn : GoodIn wsX5_command (wsV RX5 157 RX5 yX5_stepsOn wsX5_stepsOn) := goodIn_app (goodIn_of _ (by decide +kernel)) ggX5_command_X5_stepsOn
set_option maxRecDepth 20000 in
theorem ggX5_command_X5_isSlot : GoodIn wsX5_command wsX5_isSlot := goodIn_r _ [40, 12, 41, 42, 5, 43, 58, 59, 60, 61, 62, 63, 64, 65, 66, 67, 68, 69, 70, 71, 72] (by decide +kernel) (by decide +kernel)
set_option maxRecDepth 20000 in
theorem gX5_command_X5_isSlot : GoodIn wsX5_command (wsV RX5 146 RX5 yX5_isSlot wsX5_isSlot) := goodIn_app (goodIn_of _ (by decide +kernel)) ggX5_command_X5_isSlot
set_option maxRecDepth 20000 in
theorem ggX5_command_X5_canPut : GoodIn wsX5_command wsX5_canPut := goodIn_r _ [47, 29, 30, 31, 5, 32, 22, 23, 24, 33, 34, 35, 36, 12, 58, 59, 60, 61, 62, 63, 64, 65, 66, 67, 68, 69, 70, 71, 72] (by decide +kernel) (by decide +kernel)
set_option maxRecDepth 20000 in
theorem gX5_command_X5_canPut : GoodIn wsX5_command (wsV RX5 163 RX5 yX5_canPut wsX5_canPut) := goodIn_app (goodIn_of _ (by decide +kernel)) ggX5_command_X5_canPut
set_option maxRecDepth 20000 in
theorem ggX5_command_X5_putAt : GoodIn wsX5_command wsX5_putAt := goodIn_r _ [50] (by decide +kernel) (by decide +kernel)
set_option maxRecDepth 20000 in
theorem gX5_command_X5_putAt : GoodIn wsX5_command (va_wsS RX5 167 yX5_putAt wsX5_putAt) := goodIn_app (goodIn_of _ (by decide +kernel)) ggX5_command_X5_putAt
set_option maxRecDepth 20000 in
theorem ggX5_command_X5_isLimit : GoodIn wsX5_command wsX5_isLimit := goodIn_r _ [53, 54, 41, 42, 5, 43] (by decide +kernel) (by decide +kernel)
set_option maxRecDepth 20000 in
theorem gX5_command_X5_isLimit : GoodIn wsX5_command (va_wsS RX5 173 yX5_isLimit wsX5_isLimit) := goodIn_app (goodIn_of _ (by decide +kernel)) ggX5_command_X5_isLimit
set_option maxRecDepth 20000 in
theorem ggX5_command_X5_count : GoodIn wsX5_command wsX5_count := goodIn_r _ [57] (by decide +kernel) (by decide +kernel)
set_option maxRecDepth 20000 in
theorem gX5_command_X5_count : GoodIn wsX5_command (va_wsS RX5 115 yX5_count wsX5_count) := goodIn_app (goodIn_of _ (by decide +kernel)) ggX5_command_X5_count
set_option maxRecDepth 20000 in
theorem ggX5_command_X5_gripAt : GoodIn wsX5_command wsX5_gripAt := goodIn_r _ [24] (by decide +kernel) (by decide +kernel)
set_option maxRecDepth 20000 in
theorem gX5_command_X5_gripAt : GoodIn wsX5_command (va_wsS RX5 60 yX5_gripAt wsX5_gripAt) := goodIn_app (goodIn_of _ (by decide +kernel)) ggX5_command_X5_gripAt
theorem dX5_command_0 : decode cX5_command 0 = .ok (.iload_n 1, 1) := by decide +kernel
theorem dX5_command_1 : decode cX5_command 1 = .ok (.sipush 10000, 3) := by decide +kernel
theorem dX5_command_4 : decode cX5_command 4 = .ok (.idiv, 1) := by decide +kernel
theorem dX5_command_5 : decode cX5_command 5 = .ok (.istore_n 2, 1) := by decide +kernel
theorem dX5_command_6 : decode cX5_command 6 = .ok (.iload_n 1, 1) := by decide +kernel
theorem dX5_command_7 : decode cX5_command 7 = .ok (.bipush 100, 2) := by decide +kernel
theorem dX5_command_9 : decode cX5_command 9 = .ok (.idiv, 1) := by decide +kernel
theorem dX5_command_10 : decode cX5_command 10 = .ok (.bipush 100, 2) := by decide +kernel
theorem dX5_command_12 : decode cX5_command 12 = .ok (.irem, 1) := by decide +kernel
theorem dX5_command_13 : decode cX5_command 13 = .ok (.istore_n 3, 1) := by decide +kernel
theorem dX5_command_14 : decode cX5_command 14 = .ok (.iload_n 1, 1) := by decide +kernel
theorem dX5_command_15 : decode cX5_command 15 = .ok (.bipush 100, 2) := by decide +kernel
theorem dX5_command_17 : decode cX5_command 17 = .ok (.irem, 1) := by decide +kernel
theorem dX5_command_18 : decode cX5_command 18 = .ok (.istore 4, 2) := by decide +kernel
theorem dX5_command_20 : decode cX5_command 20 = .ok (.iload_n 3, 1) := by decide +kernel
theorem dX5_command_21 : decode cX5_command 21 = .ok (.bipush 10, 2) := by decide +kernel
theorem dX5_command_23 : decode cX5_command 23 = .ok (.idiv, 1) := by decide +kernel
theorem dX5_command_24 : decode cX5_command 24 = .ok (.istore 5, 2) := by decide +kernel
theorem dX5_command_26 : decode cX5_command 26 = .ok (.iload_n 3, 1) := by decide +kernel
theorem dX5_command_27 : decode cX5_command 27 = .ok (.aload_n 0, 1) := by decide +kernel
theorem dX5_command_28 : decode cX5_command 28 = .ok (.getfield 19, 3) := by decide +kernel
theorem dX5_command_31 : decode cX5_command 31 = .ok (.bipush 96, 2) := by decide +kernel
theorem dX5_command_33 : decode cX5_command 33 = .ok (.iaload, 1) := by decide +kernel
theorem dX5_command_34 : decode cX5_command 34 = .ok (.if_icmp .ge 7, 3) := by decide +kernel
theorem dX5_command_37 : decode cX5_command 37 = .ok (.iconst 1, 1) := by decide +kernel
theorem dX5_command_38 : decode cX5_command 38 = .ok (.goto 4, 3) := by decide +kernel
theorem dX5_command_41 : decode cX5_command 41 = .ok (.iconst 0, 1) := by decide +kernel
theorem dX5_command_42 : decode cX5_command 42 = .ok (.istore 6, 2) := by decide +kernel
theorem dX5_command_44 : decode cX5_command 44 = .ok (.iload_n 2, 1) := by decide +kernel
theorem dX5_command_45 : decode cX5_command 45 = .ok (.tableswitch 299 1 8 #[47, 70, 112, 148, 181, 206, 237, 260], 47) := by decide +kernel
theorem dX5_command_92 : decode cX5_command 92 = .ok (.iload_n 3, 1) := by decide +kernel
theorem dX5_command_93 : decode cX5_command 93 = .ok (.ifCond .ne 8, 3) := by decide +kernel
theorem dX5_command_96 : decode cX5_command 96 = .ok (.iload 4, 2) := by decide +kernel
theorem dX5_command_98 : decode cX5_command 98 = .ok (.ifCond .ne 5, 3) := by decide +kernel
theorem dX5_command_101 : decode cX5_command 101 = .ok (.iconst 0, 1) := by decide +kernel
theorem dX5_command_102 : decode cX5_command 102 = .ok (.ireturn, 1) := by decide +kernel
theorem dX5_command_103 : decode cX5_command 103 = .ok (.aload_n 0, 1) := by decide +kernel
theorem dX5_command_104 : decode cX5_command 104 = .ok (.aload_n 0, 1) := by decide +kernel
theorem dX5_command_105 : decode cX5_command 105 = .ok (.getfield 19, 3) := by decide +kernel
theorem dX5_command_108 : decode cX5_command 108 = .ok (.iload 4, 2) := by decide +kernel
theorem dX5_command_110 : decode cX5_command 110 = .ok (.invokevirtual 157, 3) := by decide +kernel
theorem dX5_command_113 : decode cX5_command 113 = .ok (.iconst 1, 1) := by decide +kernel
theorem dX5_command_114 : decode cX5_command 114 = .ok (.ireturn, 1) := by decide +kernel
theorem dX5_command_115 : decode cX5_command 115 = .ok (.iload 6, 2) := by decide +kernel
theorem dX5_command_117 : decode cX5_command 117 = .ok (.ifCond .eq 26, 3) := by decide +kernel
theorem dX5_command_120 : decode cX5_command 120 = .ok (.aload_n 0, 1) := by decide +kernel
theorem dX5_command_121 : decode cX5_command 121 = .ok (.iload 4, 2) := by decide +kernel
theorem dX5_command_123 : decode cX5_command 123 = .ok (.invokevirtual 146, 3) := by decide +kernel
theorem dX5_command_126 : decode cX5_command 126 = .ok (.ifCond .eq 17, 3) := by decide +kernel
theorem dX5_command_129 : decode cX5_command 129 = .ok (.aload_n 0, 1) := by decide +kernel
theorem dX5_command_130 : decode cX5_command 130 = .ok (.aload_n 0, 1) := by decide +kernel
theorem dX5_command_131 : decode cX5_command 131 = .ok (.getfield 19, 3) := by decide +kernel
theorem dX5_command_134 : decode cX5_command 134 = .ok (.iload_n 3, 1) := by decide +kernel
theorem dX5_command_135 : decode cX5_command 135 = .ok (.iload 4, 2) := by decide +kernel
theorem dX5_command_137 : decode cX5_command 137 = .ok (.invokevirtual 163, 3) := by decide +kernel
theorem dX5_command_140 : decode cX5_command 140 = .ok (.ifCond .ne 5, 3) := by decide +kernel
theorem dX5_command_143 : decode cX5_command 143 = .ok (.iconst 0, 1) := by decide +kernel
theorem dX5_command_144 : decode cX5_command 144 = .ok (.ireturn, 1) := by decide +kernel
theorem dX5_command_145 : decode cX5_command 145 = .ok (.aload_n 0, 1) := by decide +kernel
theorem dX5_command_146 : decode cX5_command 146 = .ok (.getfield 19, 3) := by decide +kernel
theorem dX5_command_149 : decode cX5_command 149 = .ok (.iload_n 3, 1) := by decide +kernel
theorem dX5_command_150 : decode cX5_command 150 = .ok (.iload 4, 2) := by decide +kernel
theorem dX5_command_152 : decode cX5_command 152 = .ok (.invokestatic 167, 3) := by decide +kernel
theorem dX5_command_155 : decode cX5_command 155 = .ok (.iconst 1, 1) := by decide +kernel
theorem dX5_command_156 : decode cX5_command 156 = .ok (.ireturn, 1) := by decide +kernel
theorem dX5_command_157 : decode cX5_command 157 = .ok (.iload 6, 2) := by decide +kernel
theorem dX5_command_159 : decode cX5_command 159 = .ok (.ifCond .eq 20, 3) := by decide +kernel
theorem dX5_command_162 : decode cX5_command 162 = .ok (.iload 4, 2) := by decide +kernel
theorem dX5_command_164 : decode cX5_command 164 = .ok (.ifCond .ne 15, 3) := by decide +kernel
theorem dX5_command_167 : decode cX5_command 167 = .ok (.aload_n 0, 1) := by decide +kernel
theorem dX5_command_168 : decode cX5_command 168 = .ok (.getfield 19, 3) := by decide +kernel
theorem dX5_command_171 : decode cX5_command 171 = .ok (.bipush 60, 2) := by decide +kernel
theorem dX5_command_173 : decode cX5_command 173 = .ok (.iload_n 3, 1) := by decide +kernel
theorem dX5_command_174 : decode cX5_command 174 = .ok (.iadd, 1) := by decide +kernel
theorem dX5_command_175 : decode cX5_command 175 = .ok (.iaload, 1) := by decide +kernel
theorem dX5_command_176 : decode cX5_command 176 = .ok (.ifCond .eq 5, 3) := by decide +kernel
theorem dX5_command_179 : decode cX5_command 179 = .ok (.iconst 0, 1) := by decide +kernel
theorem dX5_command_180 : decode cX5_command 180 = .ok (.ireturn, 1) := by decide +kernel
theorem dX5_command_181 : decode cX5_command 181 = .ok (.aload_n 0, 1) := by decide +kernel
theorem dX5_command_182 : decode cX5_command 182 = .ok (.getfield 19, 3) := by decide +kernel
theorem dX5_command_185 : decode cX5_command 185 = .ok (.bipush 60, 2) := by decide +kernel
theorem dX5_command_187 : decode cX5_command 187 = .ok (.iload_n 3, 1) := by decide +kernel
theorem dX5_command_188 : decode cX5_command 188 = .ok (.iadd, 1) := by decide +kernel
theorem dX5_command_189 : decode cX5_command 189 = .ok (.iconst 1, 1) := by decide +kernel
theorem dX5_command_190 : decode cX5_command 190 = .ok (.iastore, 1) := by decide +kernel
theorem dX5_command_191 : decode cX5_command 191 = .ok (.iconst 1, 1) := by decide +kernel
theorem dX5_command_192 : decode cX5_command 192 = .ok (.ireturn, 1) := by decide +kernel
theorem dX5_command_193 : decode cX5_command 193 = .ok (.iload_n 3, 1) := by decide +kernel
theorem dX5_command_194 : decode cX5_command 194 = .ok (.bipush 10, 2) := by decide +kernel
theorem dX5_command_196 : decode cX5_command 196 = .ok (.irem, 1) := by decide +kernel
theorem dX5_command_197 : decode cX5_command 197 = .ok (.ifCond .ne 13, 3) := by decide +kernel
theorem dX5_command_200 : decode cX5_command 200 = .ok (.iload 5, 2) := by decide +kernel
theorem dX5_command_202 : decode cX5_command 202 = .ok (.iload 4, 2) := by decide +kernel
theorem dX5_command_204 : decode cX5_command 204 = .ok (.invokestatic 173, 3) := by decide +kernel
theorem dX5_command_207 : decode cX5_command 207 = .ok (.ifCond .ne 5, 3) := by decide +kernel
theorem dX5_command_210 : decode cX5_command 210 = .ok (.iconst 0, 1) := by decide +kernel
theorem dX5_command_211 : decode cX5_command 211 = .ok (.ireturn, 1) := by decide +kernel
theorem dX5_command_212 : decode cX5_command 212 = .ok (.aload_n 0, 1) := by decide +kernel
theorem dX5_command_213 : decode cX5_command 213 = .ok (.getfield 19, 3) := by decide +kernel
theorem dX5_command_216 : decode cX5_command 216 = .ok (.bipush 99, 2) := by decide +kernel
theorem dX5_command_218 : decode cX5_command 218 = .ok (.iload 5, 2) := by decide +kernel
theorem dX5_command_220 : decode cX5_command 220 = .ok (.iadd, 1) := by decide +kernel
theorem dX5_command_221 : decode cX5_command 221 = .ok (.iload 4, 2) := by decide +kernel
theorem dX5_command_223 : decode cX5_command 223 = .ok (.iastore, 1) := by decide +kernel
theorem dX5_command_224 : decode cX5_command 224 = .ok (.iconst 1, 1) := by decide +kernel
theorem dX5_command_225 : decode cX5_command 225 = .ok (.ireturn, 1) := by decide +kernel
theorem dX5_command_226 : decode cX5_command 226 = .ok (.iload 6, 2) := by decide +kernel
theorem dX5_command_228 : decode cX5_command 228 = .ok (.ifCond .eq 21, 3) := by decide +kernel
theorem dX5_command_231 : decode cX5_command 231 = .ok (.aload_n 0, 1) := by decide +kernel
theorem dX5_command_232 : decode cX5_command 232 = .ok (.getfield 19, 3) := by decide +kernel
theorem dX5_command_235 : decode cX5_command 235 = .ok (.bipush 12, 2) := by decide +kernel
theorem dX5_command_237 : decode cX5_command 237 = .ok (.iload_n 3, 1) := by decide +kernel
theorem dX5_command_238 : decode cX5_command 238 = .ok (.iadd, 1) := by decide +kernel
theorem dX5_command_239 : decode cX5_command 239 = .ok (.iaload, 1) := by decide +kernel
theorem dX5_command_240 : decode cX5_command 240 = .ok (.iload 4, 2) := by decide +kernel
theorem dX5_command_242 : decode cX5_command 242 = .ok (.if_icmp .ne 7, 3) := by decide +kernel
theorem dX5_command_245 : decode cX5_command 245 = .ok (.iconst 1, 1) := by decide +kernel
theorem dX5_command_246 : decode cX5_command 246 = .ok (.goto 4, 3) := by decide +kernel
theorem dX5_command_249 : decode cX5_command 249 = .ok (.iconst 0, 1) := by decide +kernel
theorem dX5_command_250 : decode cX5_command 250 = .ok (.ireturn, 1) := by decide +kernel
theorem dX5_command_251 : decode cX5_command 251 = .ok (.iload 6, 2) := by decide +kernel
theorem dX5_command_253 : decode cX5_command 253 = .ok (.ifCond .eq 27, 3) := by decide +kernel
theorem dX5_command_256 : decode cX5_command 256 = .ok (.iload 4, 2) := by decide +kernel
theorem dX5_command_258 : decode cX5_command 258 = .ok (.iconst 4, 1) := by decide +kernel
theorem dX5_command_259 : decode cX5_command 259 = .ok (.if_icmp .ge 21, 3) := by decide +kernel
theorem dX5_command_262 : decode cX5_command 262 = .ok (.aload_n 0, 1) := by decide +kernel
theorem dX5_command_263 : decode cX5_command 263 = .ok (.getfield 19, 3) := by decide +kernel
theorem dX5_command_266 : decode cX5_command 266 = .ok (.bipush 60, 2) := by decide +kernel
theorem dX5_command_268 : decode cX5_command 268 = .ok (.iload_n 3, 1) := by decide +kernel
theorem dX5_command_269 : decode cX5_command 269 = .ok (.iadd, 1) := by decide +kernel
theorem dX5_command_270 : decode cX5_command 270 = .ok (.iaload, 1) := by decide +kernel
theorem dX5_command_271 : decode cX5_command 271 = .ok (.iload 4, 2) := by decide +kernel
theorem dX5_command_273 : decode cX5_command 273 = .ok (.if_icmp .ne 7, 3) := by decide +kernel
theorem dX5_command_276 : decode cX5_command 276 = .ok (.iconst 1, 1) := by decide +kernel
theorem dX5_command_277 : decode cX5_command 277 = .ok (.goto 4, 3) := by decide +kernel
theorem dX5_command_280 : decode cX5_command 280 = .ok (.iconst 0, 1) := by decide +kernel
theorem dX5_command_281 : decode cX5_command 281 = .ok (.ireturn, 1) := by decide +kernel
theorem dX5_command_282 : decode cX5_command 282 = .ok (.iload_n 3, 1) := by decide +kernel
theorem dX5_command_283 : decode cX5_command 283 = .ok (.ifCond .ne 20, 3) := by decide +kernel
theorem dX5_command_286 : decode cX5_command 286 = .ok (.aload_n 0, 1) := by decide +kernel
theorem dX5_command_287 : decode cX5_command 287 = .ok (.getfield 19, 3) := by decide +kernel
theorem dX5_command_290 : decode cX5_command 290 = .ok (.iconst 0, 1) := by decide +kernel
theorem dX5_command_291 : decode cX5_command 291 = .ok (.invokestatic 115, 3) := by decide +kernel
theorem dX5_command_294 : decode cX5_command 294 = .ok (.iload 4, 2) := by decide +kernel
theorem dX5_command_296 : decode cX5_command 296 = .ok (.if_icmp .ne 7, 3) := by decide +kernel
theorem dX5_command_299 : decode cX5_command 299 = .ok (.iconst 1, 1) := by decide +kernel
theorem dX5_command_300 : decode cX5_command 300 = .ok (.goto 4, 3) := by decide +kernel
theorem dX5_command_303 : decode cX5_command 303 = .ok (.iconst 0, 1) := by decide +kernel
theorem dX5_command_304 : decode cX5_command 304 = .ok (.ireturn, 1) := by decide +kernel
theorem dX5_command_305 : decode cX5_command 305 = .ok (.aload_n 0, 1) := by decide +kernel
theorem dX5_command_306 : decode cX5_command 306 = .ok (.iload_n 3, 1) := by decide +kernel
theorem dX5_command_307 : decode cX5_command 307 = .ok (.invokevirtual 146, 3) := by decide +kernel
theorem dX5_command_310 : decode cX5_command 310 = .ok (.ifCond .eq 32, 3) := by decide +kernel
theorem dX5_command_313 : decode cX5_command 313 = .ok (.iload 4, 2) := by decide +kernel
theorem dX5_command_315 : decode cX5_command 315 = .ok (.aload_n 0, 1) := by decide +kernel
theorem dX5_command_316 : decode cX5_command 316 = .ok (.getfield 19, 3) := by decide +kernel
theorem dX5_command_319 : decode cX5_command 319 = .ok (.bipush 96, 2) := by decide +kernel
theorem dX5_command_321 : decode cX5_command 321 = .ok (.iaload, 1) := by decide +kernel
theorem dX5_command_322 : decode cX5_command 322 = .ok (.if_icmp .ge 20, 3) := by decide +kernel
theorem dX5_command_325 : decode cX5_command 325 = .ok (.aload_n 0, 1) := by decide +kernel
theorem dX5_command_326 : decode cX5_command 326 = .ok (.getfield 19, 3) := by decide +kernel
theorem dX5_command_329 : decode cX5_command 329 = .ok (.iload_n 3, 1) := by decide +kernel
theorem dX5_command_330 : decode cX5_command 330 = .ok (.invokestatic 60, 3) := by decide +kernel
theorem dX5_command_333 : decode cX5_command 333 = .ok (.iload 4, 2) := by decide +kernel
theorem dX5_command_335 : decode cX5_command 335 = .ok (.if_icmp .ne 7, 3) := by decide +kernel
theorem dX5_command_338 : decode cX5_command 338 = .ok (.iconst 1, 1) := by decide +kernel
theorem dX5_command_339 : decode cX5_command 339 = .ok (.goto 4, 3) := by decide +kernel
theorem dX5_command_342 : decode cX5_command 342 = .ok (.iconst 0, 1) := by decide +kernel
theorem dX5_command_343 : decode cX5_command 343 = .ok (.ireturn, 1) := by decide +kernel
theorem dX5_command_344 : decode cX5_command 344 = .ok (.iconst 0, 1) := by decide +kernel
theorem dX5_command_345 : decode cX5_command 345 = .ok (.ireturn, 1) := by decide +kernel
set_option maxRecDepth 20000 in
theorem ggX5_runScript_X5_in : GoodIn wsX5_runScript wsX5_in := goodIn_r _ [8] (by decide +kernel) (by decide +kernel)
set_option maxRecDepth 20000 in
theorem gX5_runScript_X5_in : GoodIn wsX5_runScript (va_wsS RX5 54 yX5_in wsX5_in) := goodIn_app (goodIn_of _ (by decide +kernel)) ggX5_runScript_X5_in
set_option maxRecDepth 20000 in
theorem ggX5_runScript_X5_tenTo : GoodIn wsX5_runScript wsX5_tenTo := goodIn_r _ [11, 12] (by decide +kernel) (by decide +kernel)
set_option maxRecDepth 20000 in
theorem gX5_runScript_X5_tenTo : GoodIn wsX5_runScript (va_wsS RX5 186 yX5_tenTo wsX5_tenTo) := goodIn_app (goodIn_of _ (by decide +kernel)) ggX5_runScript_X5_tenTo
set_option maxRecDepth 20000 in
theorem ggX5_runScript_X5_refused : GoodIn wsX5_runScript wsX5_refused := goodIn_r _ [16, 17, 77, 78, 79, 80, 81, 82, 83, 84, 85, 86, 87, 88, 89, 90, 91] (by decide +kernel) (by decide +kernel)
set_option maxRecDepth 20000 in
theorem gX5_runScript_X5_refused : GoodIn wsX5_runScript (wsV RX5 97 RX5 yX5_refused wsX5_refused) := goodIn_app (goodIn_of _ (by decide +kernel)) ggX5_runScript_X5_refused
set_option maxRecDepth 20000 in
theorem ggX5_runScript_X5_copy : GoodIn wsX5_runScript wsX5_copy := goodIn_r _ [20] (by decide +kernel) (by decide +kernel)
set_option maxRecDepth 20000 in
theorem gX5_runScript_X5_copy : GoodIn wsX5_runScript (va_wsS RX5 50 yX5_copy wsX5_copy) := goodIn_app (goodIn_of _ (by decide +kernel)) ggX5_runScript_X5_copy
set_option maxRecDepth 20000 in
theorem ggX5_runScript_X5_command : GoodIn wsX5_runScript wsX5_command := goodIn_r _ [24, 3, 25, 26, 27, 7, 28, 29, 30, 31, 32, 33, 34, 35, 36, 37, 38, 39, 40, 41, 42, 43, 44, 45, 46, 47, 48, 49, 50, 51, 52, 53, 54, 55, 56, 57, 58, 59, 60, 61, 62, 5, 6, 8, 63, 64, 65, 66, 67, 68, 69, 70, 71, 72, 73, 74, 75, 76, 77, 78, 79, 80, 81, 82, 83, 84, 85, 86, 87, 88, 89, 90, 91] (by decide +kernel) (by decide +kernel)
set_option maxRecDepth 20000 in
theorem gX5_runScript_X5_command : GoodIn wsX5_runScript (wsV RX5 192 RX5 yX5_command wsX5_command) := goodIn_app (goodIn_of _ (by decide +kernel)) ggX5_runScript_X5_command
theorem dX5_runScript_0 : decode cX5_runScript 0 = .ok (.aload_n 0, 1) := by decide +kernel
theorem dX5_runScript_1 : decode cX5_runScript 1 = .ok (.iload_n 1, 1) := by decide +kernel
theorem dX5_runScript_2 : decode cX5_runScript 2 = .ok (.i2l, 1) := by decide +kernel
theorem dX5_runScript_3 : decode cX5_runScript 3 = .ok (.lconst 1, 1) := by decide +kernel
theorem dX5_runScript_4 : decode cX5_runScript 4 = .ok (.ldc2_w 161, 3) := by decide +kernel
theorem dX5_runScript_7 : decode cX5_runScript 7 = .ok (.invokestatic 54, 3) := by decide +kernel
theorem dX5_runScript_10 : decode cX5_runScript 10 = .ok (.ifCond .eq 23, 3) := by decide +kernel
theorem dX5_runScript_13 : decode cX5_runScript 13 = .ok (.lload_n 2, 1) := by decide +kernel
theorem dX5_runScript_14 : decode cX5_runScript 14 = .ok (.lconst 0, 1) := by decide +kernel
theorem dX5_runScript_15 : decode cX5_runScript 15 = .ok (.iconst 5, 1) := by decide +kernel
theorem dX5_runScript_16 : decode cX5_runScript 16 = .ok (.iload_n 1, 1) := by decide +kernel
theorem dX5_runScript_17 : decode cX5_runScript 17 = .ok (.imul, 1) := by decide +kernel
theorem dX5_runScript_18 : decode cX5_runScript 18 = .ok (.invokestatic 186, 3) := by decide +kernel
theorem dX5_runScript_21 : decode cX5_runScript 21 = .ok (.lconst 1, 1) := by decide +kernel
theorem dX5_runScript_22 : decode cX5_runScript 22 = .ok (.lsub, 1) := by decide +kernel
theorem dX5_runScript_23 : decode cX5_runScript 23 = .ok (.invokestatic 54, 3) := by decide +kernel
theorem dX5_runScript_26 : decode cX5_runScript 26 = .ok (.ifCond .eq 7, 3) := by decide +kernel
theorem dX5_runScript_29 : decode cX5_runScript 29 = .ok (.iconst 0, 1) := by decide +kernel
theorem dX5_runScript_30 : decode cX5_runScript 30 = .ok (.goto 4, 3) := by decide +kernel
theorem dX5_runScript_33 : decode cX5_runScript 33 = .ok (.iconst 1, 1) := by decide +kernel
theorem dX5_runScript_34 : decode cX5_runScript 34 = .ok (.invokevirtual 97, 3) := by decide +kernel
theorem dX5_runScript_37 : decode cX5_runScript 37 = .ok (.ifCond .eq 5, 3) := by decide +kernel
theorem dX5_runScript_40 : decode cX5_runScript 40 = .ok (.iconst 0, 1) := by decide +kernel
theorem dX5_runScript_41 : decode cX5_runScript 41 = .ok (.ireturn, 1) := by decide +kernel
theorem dX5_runScript_42 : decode cX5_runScript 42 = .ok (.aload_n 0, 1) := by decide +kernel
theorem dX5_runScript_43 : decode cX5_runScript 43 = .ok (.getfield 16, 3) := by decide +kernel
theorem dX5_runScript_46 : decode cX5_runScript 46 = .ok (.iconst 0, 1) := by decide +kernel
theorem dX5_runScript_47 : decode cX5_runScript 47 = .ok (.aload_n 0, 1) := by decide +kernel
theorem dX5_runScript_48 : decode cX5_runScript 48 = .ok (.getfield 19, 3) := by decide +kernel
theorem dX5_runScript_51 : decode cX5_runScript 51 = .ok (.iconst 0, 1) := by decide +kernel
theorem dX5_runScript_52 : decode cX5_runScript 52 = .ok (.bipush 106, 2) := by decide +kernel
theorem dX5_runScript_54 : decode cX5_runScript 54 = .ok (.invokestatic 50, 3) := by decide +kernel
theorem dX5_runScript_57 : decode cX5_runScript 57 = .ok (.iconst 0, 1) := by decide +kernel
theorem dX5_runScript_58 : decode cX5_runScript 58 = .ok (.istore 4, 2) := by decide +kernel
theorem dX5_runScript_60 : decode cX5_runScript 60 = .ok (.iload 4, 2) := by decide +kernel
theorem dX5_runScript_62 : decode cX5_runScript 62 = .ok (.iload_n 1, 1) := by decide +kernel
theorem dX5_runScript_63 : decode cX5_runScript 63 = .ok (.if_icmp .ge 37, 3) := by decide +kernel
theorem dX5_runScript_66 : decode cX5_runScript 66 = .ok (.aload_n 0, 1) := by decide +kernel
theorem dX5_runScript_67 : decode cX5_runScript 67 = .ok (.lload_n 2, 1) := by decide +kernel
theorem dX5_runScript_68 : decode cX5_runScript 68 = .ok (.iconst 5, 1) := by decide +kernel
theorem dX5_runScript_69 : decode cX5_runScript 69 = .ok (.iload_n 1, 1) := by decide +kernel
theorem dX5_runScript_70 : decode cX5_runScript 70 = .ok (.iconst 1, 1) := by decide +kernel
theorem dX5_runScript_71 : decode cX5_runScript 71 = .ok (.isub, 1) := by decide +kernel
theorem dX5_runScript_72 : decode cX5_runScript 72 = .ok (.iload 4, 2) := by decide +kernel
theorem dX5_runScript_74 : decode cX5_runScript 74 = .ok (.isub, 1) := by decide +kernel
theorem dX5_runScript_75 : decode cX5_runScript 75 = .ok (.imul, 1) := by decide +kernel
theorem dX5_runScript_76 : decode cX5_runScript 76 = .ok (.invokestatic 186, 3) := by decide +kernel
theorem dX5_runScript_79 : decode cX5_runScript 79 = .ok (.ldiv, 1) := by decide +kernel
theorem dX5_runScript_80 : decode cX5_runScript 80 = .ok (.ldc2_w 190, 3) := by decide +kernel
theorem dX5_runScript_83 : decode cX5_runScript 83 = .ok (.lrem, 1) := by decide +kernel
theorem dX5_runScript_84 : decode cX5_runScript 84 = .ok (.l2i, 1) := by decide +kernel
theorem dX5_runScript_85 : decode cX5_runScript 85 = .ok (.invokevirtual 192, 3) := by decide +kernel
theorem dX5_runScript_88 : decode cX5_runScript 88 = .ok (.ifCond .ne 6, 3) := by decide +kernel
theorem dX5_runScript_91 : decode cX5_runScript 91 = .ok (.iload 4, 2) := by decide +kernel
theorem dX5_runScript_93 : decode cX5_runScript 93 = .ok (.ireturn, 1) := by decide +kernel
theorem dX5_runScript_94 : decode cX5_runScript 94 = .ok (.iinc 4 1, 3) := by decide +kernel
theorem dX5_runScript_97 : decode cX5_runScript 97 = .ok (.goto (-37), 3) := by decide +kernel
theorem dX5_runScript_100 : decode cX5_runScript 100 = .ok (.bipush (-9), 2) := by decide +kernel
theorem dX5_runScript_102 : decode cX5_runScript 102 = .ok (.ireturn, 1) := by decide +kernel
set_option maxRecDepth 20000 in
theorem ggX5_simulate_X5_in : GoodIn wsX5_simulate wsX5_in := goodIn_r _ [7] (by decide +kernel) (by decide +kernel)
set_option maxRecDepth 20000 in
theorem gX5_simulate_X5_in : GoodIn wsX5_simulate (va_wsS RX5 54 yX5_in wsX5_in) := goodIn_app (goodIn_of _ (by decide +kernel)) ggX5_simulate_X5_in
set_option maxRecDepth 20000 in
theorem ggX5_simulate_X5_refused : GoodIn wsX5_simulate wsX5_refused := goodIn_r _ [11, 12, 53, 54, 55, 56, 57, 58, 59, 60, 61, 62, 63, 64, 65, 66, 67] (by decide +kernel) (by decide +kernel)
set_option maxRecDepth 20000 in
theorem gX5_simulate_X5_refused : GoodIn wsX5_simulate (wsV RX5 97 RX5 yX5_refused wsX5_refused) := goodIn_app (goodIn_of _ (by decide +kernel)) ggX5_simulate_X5_refused
set_option maxRecDepth 20000 in
theorem ggX5_simulate_X5_copy : GoodIn wsX5_simulate wsX5_copy := goodIn_r _ [15] (by decide +kernel) (by decide +kernel)
set_option maxRecDepth 20000 in
theorem gX5_simulate_X5_copy : GoodIn wsX5_simulate (va_wsS RX5 50 yX5_copy wsX5_copy) := goodIn_app (goodIn_of _ (by decide +kernel)) ggX5_simulate_X5_copy
set_option maxRecDepth 20000 in
theorem ggX5_simulate_X5_setRandomOn : GoodIn wsX5_simulate wsX5_setRandomOn := goodIn_r _ [18] (by decide +kernel) (by decide +kernel)
set_option maxRecDepth 20000 in
theorem gX5_simulate_X5_setRandomOn : GoodIn wsX5_simulate (va_wsS RX5 76 yX5_setRandomOn wsX5_setRandomOn) := goodIn_app (goodIn_of _ (by decide +kernel)) ggX5_simulate_X5_setRandomOn
set_option maxRecDepth 20000 in
theorem ggX5_simulate_X5_stepsOn : GoodIn wsX5_simulate wsX5_stepsOn := goodIn_r _ [22, 23, 24, 25, 26, 6, 27, 28, 29, 30, 31, 32, 33, 34, 16, 17, 18, 35, 36, 37, 38, 39, 40, 41, 42, 43, 44, 45, 46, 47, 48, 49, 53, 54, 55, 56, 57, 58, 59, 60, 61, 62, 63, 64, 65, 66, 67] (by decide +kernel) (by decide +kernel)
set_option maxRecDepth 20000 in
theorem gX5_simulate_X5_stepsOn : GoodIn wsX5_simulate (wsV RX5 157 RX5 yX5_stepsOn wsX5_stepsOn) := goodIn_app (goodIn_of _ (by decide +kernel)) ggX5_simulate_X5_stepsOn
set_option maxRecDepth 20000 in
theorem ggX5_simulate_X5_count : GoodIn wsX5_simulate wsX5_count := goodIn_r _ [52] (by decide +kernel) (by decide +kernel)
set_option maxRecDepth 20000 in
theorem gX5_simulate_X5_count : GoodIn wsX5_simulate (va_wsS RX5 115 yX5_count wsX5_count) := goodIn_app (goodIn_of _ (by decide +kernel)) ggX5_simulate_X5_count
theorem dX5_simulate_0 : decode cX5_simulate 0 = .ok (.aload_n 0, 1) := by decide +kernel
theorem dX5_simulate_1 : decode cX5_simulate 1 = .ok (.iload_n 3, 1) := by decide +kernel
theorem dX5_simulate_2 : decode cX5_simulate 2 = .ok (.i2l, 1) := by decide +kernel
theorem dX5_simulate_3 : decode cX5_simulate 3 = .ok (.lconst 1, 1) := by decide +kernel
theorem dX5_simulate_4 : decode cX5_simulate 4 = .ok (.ldc2_w 152, 3) := by decide +kernel
theorem dX5_simulate_7 : decode cX5_simulate 7 = .ok (.invokestatic 54, 3) := by decide +kernel
theorem dX5_simulate_10 : decode cX5_simulate 10 = .ok (.ifCond .eq 7, 3) := by decide +kernel
theorem dX5_simulate_13 : decode cX5_simulate 13 = .ok (.iconst 0, 1) := by decide +kernel
theorem dX5_simulate_14 : decode cX5_simulate 14 = .ok (.goto 4, 3) := by decide +kernel
theorem dX5_simulate_17 : decode cX5_simulate 17 = .ok (.iconst 1, 1) := by decide +kernel
theorem dX5_simulate_18 : decode cX5_simulate 18 = .ok (.invokevirtual 97, 3) := by decide +kernel
theorem dX5_simulate_21 : decode cX5_simulate 21 = .ok (.ifCond .eq 5, 3) := by decide +kernel
theorem dX5_simulate_24 : decode cX5_simulate 24 = .ok (.iconst 0, 1) := by decide +kernel
theorem dX5_simulate_25 : decode cX5_simulate 25 = .ok (.ireturn, 1) := by decide +kernel
theorem dX5_simulate_26 : decode cX5_simulate 26 = .ok (.aload_n 0, 1) := by decide +kernel
theorem dX5_simulate_27 : decode cX5_simulate 27 = .ok (.getfield 16, 3) := by decide +kernel
theorem dX5_simulate_30 : decode cX5_simulate 30 = .ok (.iconst 0, 1) := by decide +kernel
theorem dX5_simulate_31 : decode cX5_simulate 31 = .ok (.aload_n 0, 1) := by decide +kernel
theorem dX5_simulate_32 : decode cX5_simulate 32 = .ok (.getfield 19, 3) := by decide +kernel
theorem dX5_simulate_35 : decode cX5_simulate 35 = .ok (.iconst 0, 1) := by decide +kernel
theorem dX5_simulate_36 : decode cX5_simulate 36 = .ok (.bipush 106, 2) := by decide +kernel
theorem dX5_simulate_38 : decode cX5_simulate 38 = .ok (.invokestatic 50, 3) := by decide +kernel
theorem dX5_simulate_41 : decode cX5_simulate 41 = .ok (.aload_n 0, 1) := by decide +kernel
theorem dX5_simulate_42 : decode cX5_simulate 42 = .ok (.getfield 19, 3) := by decide +kernel
theorem dX5_simulate_45 : decode cX5_simulate 45 = .ok (.lload_n 1, 1) := by decide +kernel
theorem dX5_simulate_46 : decode cX5_simulate 46 = .ok (.invokestatic 76, 3) := by decide +kernel
theorem dX5_simulate_49 : decode cX5_simulate 49 = .ok (.aload_n 0, 1) := by decide +kernel
theorem dX5_simulate_50 : decode cX5_simulate 50 = .ok (.aload_n 0, 1) := by decide +kernel
theorem dX5_simulate_51 : decode cX5_simulate 51 = .ok (.getfield 19, 3) := by decide +kernel
theorem dX5_simulate_54 : decode cX5_simulate 54 = .ok (.iload_n 3, 1) := by decide +kernel
theorem dX5_simulate_55 : decode cX5_simulate 55 = .ok (.invokevirtual 157, 3) := by decide +kernel
theorem dX5_simulate_58 : decode cX5_simulate 58 = .ok (.iconst 0, 1) := by decide +kernel
theorem dX5_simulate_59 : decode cX5_simulate 59 = .ok (.istore 4, 2) := by decide +kernel
theorem dX5_simulate_61 : decode cX5_simulate 61 = .ok (.iconst 0, 1) := by decide +kernel
theorem dX5_simulate_62 : decode cX5_simulate 62 = .ok (.istore 5, 2) := by decide +kernel
theorem dX5_simulate_64 : decode cX5_simulate 64 = .ok (.iload 5, 2) := by decide +kernel
theorem dX5_simulate_66 : decode cX5_simulate 66 = .ok (.aload_n 0, 1) := by decide +kernel
theorem dX5_simulate_67 : decode cX5_simulate 67 = .ok (.getfield 19, 3) := by decide +kernel
theorem dX5_simulate_70 : decode cX5_simulate 70 = .ok (.bipush 96, 2) := by decide +kernel
theorem dX5_simulate_72 : decode cX5_simulate 72 = .ok (.iaload, 1) := by decide +kernel
theorem dX5_simulate_73 : decode cX5_simulate 73 = .ok (.if_icmp .ge 24, 3) := by decide +kernel
theorem dX5_simulate_76 : decode cX5_simulate 76 = .ok (.iload 4, 2) := by decide +kernel
theorem dX5_simulate_78 : decode cX5_simulate 78 = .ok (.aload_n 0, 1) := by decide +kernel
theorem dX5_simulate_79 : decode cX5_simulate 79 = .ok (.getfield 19, 3) := by decide +kernel
theorem dX5_simulate_82 : decode cX5_simulate 82 = .ok (.bipush 36, 2) := by decide +kernel
theorem dX5_simulate_84 : decode cX5_simulate 84 = .ok (.iload 5, 2) := by decide +kernel
theorem dX5_simulate_86 : decode cX5_simulate 86 = .ok (.iadd, 1) := by decide +kernel
theorem dX5_simulate_87 : decode cX5_simulate 87 = .ok (.iaload, 1) := by decide +kernel
theorem dX5_simulate_88 : decode cX5_simulate 88 = .ok (.iadd, 1) := by decide +kernel
theorem dX5_simulate_89 : decode cX5_simulate 89 = .ok (.istore 4, 2) := by decide +kernel
theorem dX5_simulate_91 : decode cX5_simulate 91 = .ok (.iinc 5 1, 3) := by decide +kernel
theorem dX5_simulate_94 : decode cX5_simulate 94 = .ok (.goto (-30), 3) := by decide +kernel
theorem dX5_simulate_97 : decode cX5_simulate 97 = .ok (.bipush 100, 2) := by decide +kernel
theorem dX5_simulate_99 : decode cX5_simulate 99 = .ok (.iload 4, 2) := by decide +kernel
theorem dX5_simulate_101 : decode cX5_simulate 101 = .ok (.imul, 1) := by decide +kernel
theorem dX5_simulate_102 : decode cX5_simulate 102 = .ok (.aload_n 0, 1) := by decide +kernel
theorem dX5_simulate_103 : decode cX5_simulate 103 = .ok (.getfield 19, 3) := by decide +kernel
theorem dX5_simulate_106 : decode cX5_simulate 106 = .ok (.iconst 0, 1) := by decide +kernel
theorem dX5_simulate_107 : decode cX5_simulate 107 = .ok (.invokestatic 115, 3) := by decide +kernel
theorem dX5_simulate_110 : decode cX5_simulate 110 = .ok (.iadd, 1) := by decide +kernel
theorem dX5_simulate_111 : decode cX5_simulate 111 = .ok (.ireturn, 1) := by decide +kernel
set_option maxRecDepth 20000 in
theorem ggX5_save_X5_in : GoodIn wsX5_save wsX5_in := goodIn_r _ [7] (by decide +kernel) (by decide +kernel)
set_option maxRecDepth 20000 in
theorem gX5_save_X5_in : GoodIn wsX5_save (va_wsS RX5 54 yX5_in wsX5_in) := goodIn_app (goodIn_of _ (by decide +kernel)) ggX5_save_X5_in
set_option maxRecDepth 20000 in
theorem ggX5_save_X5_refused : GoodIn wsX5_save wsX5_refused := goodIn_r _ [11, 12, 16, 17, 18, 19, 20, 21, 22, 23, 24, 25, 26, 27, 28, 29, 30] (by decide +kernel) (by decide +kernel)
set_option maxRecDepth 20000 in
theorem gX5_save_X5_refused : GoodIn wsX5_save (wsV RX5 97 RX5 yX5_refused wsX5_refused) := goodIn_app (goodIn_of _ (by decide +kernel)) ggX5_save_X5_refused
set_option maxRecDepth 20000 in
theorem ggX5_save_X5_copy : GoodIn wsX5_save wsX5_copy := goodIn_r _ [15] (by decide +kernel) (by decide +kernel)
set_option maxRecDepth 20000 in
theorem gX5_save_X5_copy : GoodIn wsX5_save (va_wsS RX5 50 yX5_copy wsX5_copy) := goodIn_app (goodIn_of _ (by decide +kernel)) ggX5_save_X5_copy
theorem dX5_save_0 : decode cX5_save 0 = .ok (.aload_n 0, 1) := by decide +kernel
theorem dX5_save_1 : decode cX5_save 1 = .ok (.iload_n 1, 1) := by decide +kernel
theorem dX5_save_2 : decode cX5_save 2 = .ok (.i2l, 1) := by decide +kernel
theorem dX5_save_3 : decode cX5_save 3 = .ok (.lconst 0, 1) := by decide +kernel
theorem dX5_save_4 : decode cX5_save 4 = .ok (.lconst 1, 1) := by decide +kernel
theorem dX5_save_5 : decode cX5_save 5 = .ok (.invokestatic 54, 3) := by decide +kernel
theorem dX5_save_8 : decode cX5_save 8 = .ok (.ifCond .eq 7, 3) := by decide +kernel
theorem dX5_save_11 : decode cX5_save 11 = .ok (.iconst 0, 1) := by decide +kernel
theorem dX5_save_12 : decode cX5_save 12 = .ok (.goto 4, 3) := by decide +kernel
theorem dX5_save_15 : decode cX5_save 15 = .ok (.iconst 1, 1) := by decide +kernel
theorem dX5_save_16 : decode cX5_save 16 = .ok (.invokevirtual 97, 3) := by decide +kernel
theorem dX5_save_19 : decode cX5_save 19 = .ok (.ifCond .eq 5, 3) := by decide +kernel
theorem dX5_save_22 : decode cX5_save 22 = .ok (.iconst 0, 1) := by decide +kernel
theorem dX5_save_23 : decode cX5_save 23 = .ok (.ireturn, 1) := by decide +kernel
theorem dX5_save_24 : decode cX5_save 24 = .ok (.aload_n 0, 1) := by decide +kernel
theorem dX5_save_25 : decode cX5_save 25 = .ok (.getfield 28, 3) := by decide +kernel
theorem dX5_save_28 : decode cX5_save 28 = .ok (.iload_n 1, 1) := by decide +kernel
theorem dX5_save_29 : decode cX5_save 29 = .ok (.iconst 1, 1) := by decide +kernel
theorem dX5_save_30 : decode cX5_save 30 = .ok (.bastore, 1) := by decide +kernel
theorem dX5_save_31 : decode cX5_save 31 = .ok (.aload_n 0, 1) := by decide +kernel
theorem dX5_save_32 : decode cX5_save 32 = .ok (.getfield 16, 3) := by decide +kernel
theorem dX5_save_35 : decode cX5_save 35 = .ok (.iconst 0, 1) := by decide +kernel
theorem dX5_save_36 : decode cX5_save 36 = .ok (.aload_n 0, 1) := by decide +kernel
theorem dX5_save_37 : decode cX5_save 37 = .ok (.getfield 25, 3) := by decide +kernel
theorem dX5_save_40 : decode cX5_save 40 = .ok (.bipush 106, 2) := by decide +kernel
theorem dX5_save_42 : decode cX5_save 42 = .ok (.iload_n 1, 1) := by decide +kernel
theorem dX5_save_43 : decode cX5_save 43 = .ok (.imul, 1) := by decide +kernel
theorem dX5_save_44 : decode cX5_save 44 = .ok (.bipush 106, 2) := by decide +kernel
theorem dX5_save_46 : decode cX5_save 46 = .ok (.invokestatic 50, 3) := by decide +kernel
theorem dX5_save_49 : decode cX5_save 49 = .ok (.aload_n 0, 1) := by decide +kernel
theorem dX5_save_50 : decode cX5_save 50 = .ok (.getfield 16, 3) := by decide +kernel
theorem dX5_save_53 : decode cX5_save 53 = .ok (.bipush 98, 2) := by decide +kernel
theorem dX5_save_55 : decode cX5_save 55 = .ok (.iaload, 1) := by decide +kernel
theorem dX5_save_56 : decode cX5_save 56 = .ok (.ireturn, 1) := by decide +kernel
set_option maxRecDepth 20000 in
theorem ggX5_restore_X5_in : GoodIn wsX5_restore wsX5_in := goodIn_r _ [8] (by decide +kernel) (by decide +kernel)
set_option maxRecDepth 20000 in
theorem gX5_restore_X5_in : GoodIn wsX5_restore (va_wsS RX5 54 yX5_in wsX5_in) := goodIn_app (goodIn_of _ (by decide +kernel)) ggX5_restore_X5_in
set_option maxRecDepth 20000 in
theorem ggX5_restore_X5_refused : GoodIn wsX5_restore wsX5_refused := goodIn_r _ [12, 13, 17, 18, 19, 20, 21, 22, 23, 24, 25, 26, 27, 28, 29, 30, 31] (by decide +kernel) (by decide +kernel)
set_option maxRecDepth 20000 in
theorem gX5_restore_X5_refused : GoodIn wsX5_restore (wsV RX5 97 RX5 yX5_refused wsX5_refused) := goodIn_app (goodIn_of _ (by decide +kernel)) ggX5_restore_X5_refused
set_option maxRecDepth 20000 in
theorem ggX5_restore_X5_copy : GoodIn wsX5_restore wsX5_copy := goodIn_r _ [16] (by decide +kernel) (by decide +kernel)
set_option maxRecDepth 20000 in
theorem gX5_restore_X5_copy : GoodIn wsX5_restore (va_wsS RX5 50 yX5_copy wsX5_copy) := goodIn_app (goodIn_of _ (by decide +kernel)) ggX5_restore_X5_copy
theorem dX5_restore_0 : decode cX5_restore 0 = .ok (.aload_n 0, 1) := by decide +kernel
theorem dX5_restore_1 : decode cX5_restore 1 = .ok (.iload_n 1, 1) := by decide +kernel
theorem dX5_restore_2 : decode cX5_restore 2 = .ok (.i2l, 1) := by decide +kernel
theorem dX5_restore_3 : decode cX5_restore 3 = .ok (.lconst 0, 1) := by decide +kernel
theorem dX5_restore_4 : decode cX5_restore 4 = .ok (.lconst 1, 1) := by decide +kernel
theorem dX5_restore_5 : decode cX5_restore 5 = .ok (.invokestatic 54, 3) := by decide +kernel
theorem dX5_restore_8 : decode cX5_restore 8 = .ok (.ifCond .ne 7, 3) := by decide +kernel
theorem dX5_restore_11 : decode cX5_restore 11 = .ok (.iconst 1, 1) := by decide +kernel
theorem dX5_restore_12 : decode cX5_restore 12 = .ok (.goto 17, 3) := by decide +kernel
theorem dX5_restore_15 : decode cX5_restore 15 = .ok (.aload_n 0, 1) := by decide +kernel
theorem dX5_restore_16 : decode cX5_restore 16 = .ok (.getfield 28, 3) := by decide +kernel
theorem dX5_restore_19 : decode cX5_restore 19 = .ok (.iload_n 1, 1) := by decide +kernel
theorem dX5_restore_20 : decode cX5_restore 20 = .ok (.baload, 1) := by decide +kernel
theorem dX5_restore_21 : decode cX5_restore 21 = .ok (.ifCond .ne 7, 3) := by decide +kernel
theorem dX5_restore_24 : decode cX5_restore 24 = .ok (.iconst 2, 1) := by decide +kernel
theorem dX5_restore_25 : decode cX5_restore 25 = .ok (.goto 4, 3) := by decide +kernel
theorem dX5_restore_28 : decode cX5_restore 28 = .ok (.iconst 0, 1) := by decide +kernel
theorem dX5_restore_29 : decode cX5_restore 29 = .ok (.invokevirtual 97, 3) := by decide +kernel
theorem dX5_restore_32 : decode cX5_restore 32 = .ok (.ifCond .eq 5, 3) := by decide +kernel
theorem dX5_restore_35 : decode cX5_restore 35 = .ok (.iconst 0, 1) := by decide +kernel
theorem dX5_restore_36 : decode cX5_restore 36 = .ok (.ireturn, 1) := by decide +kernel
theorem dX5_restore_37 : decode cX5_restore 37 = .ok (.aload_n 0, 1) := by decide +kernel
theorem dX5_restore_38 : decode cX5_restore 38 = .ok (.getfield 25, 3) := by decide +kernel
theorem dX5_restore_41 : decode cX5_restore 41 = .ok (.bipush 106, 2) := by decide +kernel
theorem dX5_restore_43 : decode cX5_restore 43 = .ok (.iload_n 1, 1) := by decide +kernel
theorem dX5_restore_44 : decode cX5_restore 44 = .ok (.imul, 1) := by decide +kernel
theorem dX5_restore_45 : decode cX5_restore 45 = .ok (.aload_n 0, 1) := by decide +kernel
theorem dX5_restore_46 : decode cX5_restore 46 = .ok (.getfield 16, 3) := by decide +kernel
theorem dX5_restore_49 : decode cX5_restore 49 = .ok (.iconst 0, 1) := by decide +kernel
theorem dX5_restore_50 : decode cX5_restore 50 = .ok (.bipush 106, 2) := by decide +kernel
theorem dX5_restore_52 : decode cX5_restore 52 = .ok (.invokestatic 50, 3) := by decide +kernel
theorem dX5_restore_55 : decode cX5_restore 55 = .ok (.aload_n 0, 1) := by decide +kernel
theorem dX5_restore_56 : decode cX5_restore 56 = .ok (.iconst 0, 1) := by decide +kernel
theorem dX5_restore_57 : decode cX5_restore 57 = .ok (.putfield 47, 3) := by decide +kernel
theorem dX5_restore_60 : decode cX5_restore 60 = .ok (.aload_n 0, 1) := by decide +kernel
theorem dX5_restore_61 : decode cX5_restore 61 = .ok (.getfield 16, 3) := by decide +kernel
theorem dX5_restore_64 : decode cX5_restore 64 = .ok (.bipush 98, 2) := by decide +kernel
theorem dX5_restore_66 : decode cX5_restore 66 = .ok (.iaload, 1) := by decide +kernel
theorem dX5_restore_67 : decode cX5_restore 67 = .ok (.ireturn, 1) := by decide +kernel
