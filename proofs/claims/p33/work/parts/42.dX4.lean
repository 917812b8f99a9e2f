set_option maxRecDepth 20000 in
theorem ggX4_init_X0_init : GoodIn wsX4_init wsX0_init := goodIn_r _ [28, 29, 2, 3, 30, 31, 32, 33, 34, 35, 36, 37, 38, 39, 40, 41, 42, 43, 6, 44, 45, 46, 47, 69, 70, 71, 72, 73, 74, 75, 76, 77, 78, 79, 80, 81] (by decide +kernel) (by decide +kernel)
set_option maxRecDepth 20000 in
theorem gX4_init_X0_init : GoodIn wsX4_init (wsX0_init) := ggX4_init_X0_init
set_option maxRecDepth 20000 in
theorem ggX4_init_X1_init : GoodIn wsX4_init wsX1_init := goodIn_r _ [49, 50, 2, 3, 51, 14, 15, 52, 53, 5, 6, 54, 55, 56, 57, 58, 59, 60, 61, 27, 28, 29, 30, 31, 32, 33, 34, 35, 36, 37, 38, 39, 40, 41, 42, 43, 44, 45, 46, 47, 94, 95, 91, 92, 93, 69, 70, 71, 72, 73, 74, 75, 76, 77, 78, 79, 80, 81] (by decide +kernel) (by decide +kernel)
set_option maxRecDepth 20000 in
theorem gX4_init_X1_init_n21 : GoodIn wsX4_init (wsX1_init) := ggX4_init_X1_init
set_option maxRecDepth 20000 in
theorem ggX4_init_X3_init : GoodIn wsX4_init wsX3_init := goodIn_r _ [56, 57, 2, 3, 58, 59, 60, 94, 95] (by decide +kernel) (by decide +kernel)
set_option maxRecDepth 20000 in
theorem gX4_init_X3_init_n28 : GoodIn wsX4_init (wsX3_init) := ggX4_init_X3_init
set_option maxRecDepth 20000 in
theorem ggX4_init_X2_init : GoodIn wsX4_init wsX2_init := goodIn_r _ [64, 65, 2, 3, 66, 67, 5, 6, 68, 27, 28, 29, 30, 31, 32, 33, 34, 35, 36, 37, 38, 39, 40, 41, 42, 43, 44, 45, 46, 47, 96, 69, 70, 71, 72, 73, 74, 75, 76, 77, 78, 79, 80, 81] (by decide +kernel) (by decide +kernel)
set_option maxRecDepth 20000 in
theorem gX4_init_X2_init : GoodIn wsX4_init (wsX2_init) := ggX4_init_X2_init
theorem dX4_init_0 : decode cX4_init 0 = .ok (.aload_n 0, 1) := by decide +kernel
theorem dX4_init_1 : decode cX4_init 1 = .ok (.invokespecial 1, 3) := by decide +kernel
theorem dX4_init_4 : decode cX4_init 4 = .ok (.aload_n 0, 1) := by decide +kernel
theorem dX4_init_5 : decode cX4_init 5 = .ok (.new 7, 3) := by decide +kernel
theorem dX4_init_8 : decode cX4_init 8 = .ok (.dup, 1) := by decide +kernel
theorem dX4_init_9 : decode cX4_init 9 = .ok (.invokespecial 9, 3) := by decide +kernel
theorem dX4_init_12 : decode cX4_init 12 = .ok (.putfield 10, 3) := by decide +kernel
theorem dX4_init_15 : decode cX4_init 15 = .ok (.aload_n 0, 1) := by decide +kernel
theorem dX4_init_16 : decode cX4_init 16 = .ok (.new 7, 3) := by decide +kernel
theorem dX4_init_19 : decode cX4_init 19 = .ok (.dup, 1) := by decide +kernel
theorem dX4_init_20 : decode cX4_init 20 = .ok (.invokespecial 9, 3) := by decide +kernel
theorem dX4_init_23 : decode cX4_init 23 = .ok (.putfield 16, 3) := by decide +kernel
theorem dX4_init_26 : decode cX4_init 26 = .ok (.aload_n 0, 1) := by decide +kernel
theorem dX4_init_27 : decode cX4_init 27 = .ok (.new 19, 3) := by decide +kernel
theorem dX4_init_30 : decode cX4_init 30 = .ok (.dup, 1) := by decide +kernel
theorem dX4_init_31 : decode cX4_init 31 = .ok (.invokespecial 21, 3) := by decide +kernel
theorem dX4_init_34 : decode cX4_init 34 = .ok (.putfield 22, 3) := by decide +kernel
theorem dX4_init_37 : decode cX4_init 37 = .ok (.aload_n 0, 1) := by decide +kernel
theorem dX4_init_38 : decode cX4_init 38 = .ok (.new 26, 3) := by decide +kernel
theorem dX4_init_41 : decode cX4_init 41 = .ok (.dup, 1) := by decide +kernel
theorem dX4_init_42 : decode cX4_init 42 = .ok (.invokespecial 28, 3) := by decide +kernel
theorem dX4_init_45 : decode cX4_init 45 = .ok (.putfield 29, 3) := by decide +kernel
theorem dX4_init_48 : decode cX4_init 48 = .ok (.aload_n 0, 1) := by decide +kernel
theorem dX4_init_49 : decode cX4_init 49 = .ok (.new 33, 3) := by decide +kernel
theorem dX4_init_52 : decode cX4_init 52 = .ok (.dup, 1) := by decide +kernel
theorem dX4_init_53 : decode cX4_init 53 = .ok (.bipush 14, 2) := by decide +kernel
theorem dX4_init_55 : decode cX4_init 55 = .ok (.invokespecial 35, 3) := by decide +kernel
theorem dX4_init_58 : decode cX4_init 58 = .ok (.putfield 38, 3) := by decide +kernel
theorem dX4_init_61 : decode cX4_init 61 = .ok (.aload_n 0, 1) := by decide +kernel
theorem dX4_init_62 : decode cX4_init 62 = .ok (.new 33, 3) := by decide +kernel
theorem dX4_init_65 : decode cX4_init 65 = .ok (.dup, 1) := by decide +kernel
theorem dX4_init_66 : decode cX4_init 66 = .ok (.iconst 2, 1) := by decide +kernel
theorem dX4_init_67 : decode cX4_init 67 = .ok (.invokespecial 35, 3) := by decide +kernel
theorem dX4_init_70 : decode cX4_init 70 = .ok (.putfield 42, 3) := by decide +kernel
theorem dX4_init_73 : decode cX4_init 73 = .ok (.aload_n 0, 1) := by decide +kernel
theorem dX4_init_74 : decode cX4_init 74 = .ok (.iconst 2, 1) := by decide +kernel
theorem dX4_init_75 : decode cX4_init 75 = .ok (.newarray .boolean, 2) := by decide +kernel
theorem dX4_init_77 : decode cX4_init 77 = .ok (.putfield 45, 3) := by decide +kernel
theorem dX4_init_80 : decode cX4_init 80 = .ok (.aload_n 0, 1) := by decide +kernel
theorem dX4_init_81 : decode cX4_init 81 = .ok (.iconst 0, 1) := by decide +kernel
theorem dX4_init_82 : decode cX4_init 82 = .ok (.putfield 49, 3) := by decide +kernel
theorem dX4_init_85 : decode cX4_init 85 = .ok (.aload_n 0, 1) := by decide +kernel
theorem dX4_init_86 : decode cX4_init 86 = .ok (.iconst 0, 1) := by decide +kernel
theorem dX4_init_87 : decode cX4_init 87 = .ok (.putfield 53, 3) := by decide +kernel
theorem dX4_init_90 : decode cX4_init 90 = .ok (.return_, 1) := by decide +kernel
set_option maxRecDepth 20000 in
theorem ggX4_append_X3_isFull : GoodIn wsX4_append wsX3_isFull := goodIn_r _ [12, 13, 31, 32] (by decide +kernel) (by decide +kernel)
set_option maxRecDepth 20000 in
theorem gX4_append_X3_isFull : GoodIn wsX4_append (wsV RX4 66 RX3 yX3_isFull wsX3_isFull) := goodIn_app (goodIn_of _ (by decide +kernel)) ggX4_append_X3_isFull
set_option maxRecDepth 20000 in
theorem ggX4_append_X3_put : GoodIn wsX4_append wsX3_put := goodIn_r _ [17, 13, 18, 31, 32] (by decide +kernel) (by decide +kernel)
set_option maxRecDepth 20000 in
theorem gX4_append_X3_put : GoodIn wsX4_append (wsV RX4 75 RX3 yX3_put wsX3_put) := goodIn_app (goodIn_of _ (by decide +kernel)) ggX4_append_X3_put
theorem dX4_append_0 : decode cX4_append 0 = .ok (.iload_n 1, 1) := by decide +kernel
theorem dX4_append_1 : decode cX4_append 1 = .ok (.ifCond .lt 10, 3) := by decide +kernel
theorem dX4_append_4 : decode cX4_append 4 = .ok (.iload_n 1, 1) := by decide +kernel
theorem dX4_append_5 : decode cX4_append 5 = .ok (.sipush 255, 3) := by decide +kernel
theorem dX4_append_8 : decode cX4_append 8 = .ok (.if_icmp .le 13, 3) := by decide +kernel
theorem dX4_append_11 : decode cX4_append 11 = .ok (.new 56, 3) := by decide +kernel
theorem dX4_append_14 : decode cX4_append 14 = .ok (.dup, 1) := by decide +kernel
theorem dX4_append_15 : decode cX4_append 15 = .ok (.ldc 58, 2) := by decide +kernel
theorem dX4_append_17 : decode cX4_append 17 = .ok (.invokespecial 60, 3) := by decide +kernel
theorem dX4_append_20 : decode cX4_append 20 = .ok (.athrow, 1) := by decide +kernel
theorem dX4_append_21 : decode cX4_append 21 = .ok (.aload_n 0, 1) := by decide +kernel
theorem dX4_append_22 : decode cX4_append 22 = .ok (.getfield 22, 3) := by decide +kernel
theorem dX4_append_25 : decode cX4_append 25 = .ok (.getfield 63, 3) := by decide +kernel
theorem dX4_append_28 : decode cX4_append 28 = .ok (.invokevirtual 66, 3) := by decide +kernel
theorem dX4_append_31 : decode cX4_append 31 = .ok (.ifCond .eq 13, 3) := by decide +kernel
theorem dX4_append_34 : decode cX4_append 34 = .ok (.new 70, 3) := by decide +kernel
theorem dX4_append_37 : decode cX4_append 37 = .ok (.dup, 1) := by decide +kernel
theorem dX4_append_38 : decode cX4_append 38 = .ok (.ldc 72, 2) := by decide +kernel
theorem dX4_append_40 : decode cX4_append 40 = .ok (.invokespecial 74, 3) := by decide +kernel
theorem dX4_append_43 : decode cX4_append 43 = .ok (.athrow, 1) := by decide +kernel
theorem dX4_append_44 : decode cX4_append 44 = .ok (.aload_n 0, 1) := by decide +kernel
theorem dX4_append_45 : decode cX4_append 45 = .ok (.getfield 22, 3) := by decide +kernel
theorem dX4_append_48 : decode cX4_append 48 = .ok (.getfield 63, 3) := by decide +kernel
theorem dX4_append_51 : decode cX4_append 51 = .ok (.iload_n 1, 1) := by decide +kernel
theorem dX4_append_52 : decode cX4_append 52 = .ok (.i2c, 1) := by decide +kernel
theorem dX4_append_53 : decode cX4_append 53 = .ok (.invokevirtual 75, 3) := by decide +kernel
theorem dX4_append_56 : decode cX4_append 56 = .ok (.aload_n 0, 1) := by decide +kernel
theorem dX4_append_57 : decode cX4_append 57 = .ok (.getfield 22, 3) := by decide +kernel
theorem dX4_append_60 : decode cX4_append 60 = .ok (.getfield 63, 3) := by decide +kernel
theorem dX4_append_63 : decode cX4_append 63 = .ok (.getfield 79, 3) := by decide +kernel
theorem dX4_append_66 : decode cX4_append 66 = .ok (.ireturn, 1) := by decide +kernel
set_option maxRecDepth 20000 in
theorem ggX4_clearText_X3_clear : GoodIn wsX4_clearText wsX3_clear := goodIn_r _ [8, 9, 22, 23] (by decide +kernel) (by decide +kernel)
set_option maxRecDepth 20000 in
theorem gX4_clearText_X3_clear : GoodIn wsX4_clearText (wsV RX4 82 RX3 yX3_clear wsX3_clear) := goodIn_app (goodIn_of _ (by decide +kernel)) ggX4_clearText_X3_clear
theorem dX4_clearText_0 : decode cX4_clearText 0 = .ok (.aload_n 0, 1) := by decide +kernel
theorem dX4_clearText_1 : decode cX4_clearText 1 = .ok (.getfield 22, 3) := by decide +kernel
theorem dX4_clearText_4 : decode cX4_clearText 4 = .ok (.getfield 63, 3) := by decide +kernel
theorem dX4_clearText_7 : decode cX4_clearText 7 = .ok (.getfield 79, 3) := by decide +kernel
theorem dX4_clearText_10 : decode cX4_clearText 10 = .ok (.istore_n 1, 1) := by decide +kernel
theorem dX4_clearText_11 : decode cX4_clearText 11 = .ok (.aload_n 0, 1) := by decide +kernel
theorem dX4_clearText_12 : decode cX4_clearText 12 = .ok (.getfield 22, 3) := by decide +kernel
theorem dX4_clearText_15 : decode cX4_clearText 15 = .ok (.getfield 63, 3) := by decide +kernel
theorem dX4_clearText_18 : decode cX4_clearText 18 = .ok (.invokevirtual 82, 3) := by decide +kernel
theorem dX4_clearText_21 : decode cX4_clearText 21 = .ok (.iload_n 1, 1) := by decide +kernel
theorem dX4_clearText_22 : decode cX4_clearText 22 = .ok (.ireturn, 1) := by decide +kernel
set_option maxRecDepth 20000 in
theorem ggX4_errorPosition_X1_findError : GoodIn wsX4_errorPosition wsX1_findError := goodIn_r _ [6, 7, 8, 9, 10, 11, 12, 13, 14, 15, 16, 17, 18, 19, 20, 21, 22, 5, 23, 24, 25, 26, 27, 28, 29, 30, 31, 32, 33, 34, 35, 36, 37, 38, 39, 40, 41, 42, 43, 44, 45, 46, 47, 48, 49, 50, 51, 52, 53, 54, 55, 56, 57, 58, 59, 60, 61, 62, 63, 64, 65, 66, 67, 68, 69, 70, 71, 72, 73, 74, 75, 76, 77, 78, 79, 80, 90, 91, 92, 93, 94, 95, 96, 97, 98, 99, 100, 101, 102, 103, 104, 105, 106, 107] (by decide +kernel) (by decide +kernel)
set_option maxRecDepth 20000 in
theorem gX4_errorPosition_X1_findError : GoodIn wsX4_errorPosition (wsV RX4 85 RX1 yX1_findError wsX1_findError) := goodIn_app (goodIn_of _ (by decide +kernel)) ggX4_errorPosition_X1_findError
theorem dX4_errorPosition_0 : decode cX4_errorPosition 0 = .ok (.aload_n 0, 1) := by decide +kernel
theorem dX4_errorPosition_1 : decode cX4_errorPosition 1 = .ok (.getfield 22, 3) := by decide +kernel
theorem dX4_errorPosition_4 : decode cX4_errorPosition 4 = .ok (.invokevirtual 85, 3) := by decide +kernel
theorem dX4_errorPosition_7 : decode cX4_errorPosition 7 = .ok (.ireturn, 1) := by decide +kernel
set_option maxRecDepth 20000 in
theorem ggX4_load_X1_findError : GoodIn wsX4_load wsX1_findError := goodIn_r _ [12, 13, 14, 15, 16, 17, 18, 19, 20, 21, 22, 23, 24, 25, 26, 27, 28, 11, 29, 30, 31, 32, 33, 34, 35, 36, 37, 38, 39, 40, 41, 42, 43, 44, 45, 46, 47, 48, 49, 50, 51, 52, 53, 54, 55, 56, 57, 58, 59, 60, 61, 62, 63, 64, 65, 66, 67, 68, 69, 70, 71, 72, 73, 74, 75, 76, 77, 78, 79, 80, 81, 82, 83, 84, 85, 86, 108, 109, 110, 111, 112, 113, 114, 115, 116, 117, 118, 119, 120, 121, 122, 123, 124, 125] (by decide +kernel) (by decide +kernel)
set_option maxRecDepth 20000 in
theorem gX4_load_X1_findError : GoodIn wsX4_load (wsV RX4 85 RX1 yX1_findError wsX1_findError) := goodIn_app (goodIn_of _ (by decide +kernel)) ggX4_load_X1_findError
set_option maxRecDepth 20000 in
theorem ggX4_load_X0_become : GoodIn wsX4_load wsX0_become := goodIn_r _ [90, 77, 91, 92, 93, 94, 78, 79, 80, 81, 22, 55, 95, 96, 97, 23, 24, 25, 113, 114, 115, 116, 117, 118, 119, 120, 121, 122, 123, 124, 125] (by decide +kernel) (by decide +kernel)
set_option maxRecDepth 20000 in
theorem gX4_load_X0_become : GoodIn wsX4_load (wsV RX4 94 RX0 yX0_become wsX0_become) := goodIn_app (goodIn_of _ (by decide +kernel)) ggX4_load_X0_become
set_option maxRecDepth 20000 in
theorem ggX4_load_X0_grips : GoodIn wsX4_load wsX0_grips := goodIn_r _ [67, 68, 69, 70, 20, 71, 22, 113, 114, 115, 116, 117, 118, 119, 120, 121, 122, 123, 124, 125] (by decide +kernel) (by decide +kernel)
set_option maxRecDepth 20000 in
theorem gX4_load_X0_grips : GoodIn wsX4_load (wsV RX4 98 RX0 yX0_grips wsX0_grips) := goodIn_app (goodIn_of _ (by decide +kernel)) ggX4_load_X0_grips
theorem dX4_load_0 : decode cX4_load 0 = .ok (.aload_n 0, 1) := by decide +kernel
theorem dX4_load_1 : decode cX4_load 1 = .ok (.getfield 22, 3) := by decide +kernel
theorem dX4_load_4 : decode cX4_load 4 = .ok (.invokevirtual 85, 3) := by decide +kernel
theorem dX4_load_7 : decode cX4_load 7 = .ok (.bipush (-9), 2) := by decide +kernel
theorem dX4_load_9 : decode cX4_load 9 = .ok (.if_icmp .eq 13, 3) := by decide +kernel
theorem dX4_load_12 : decode cX4_load 12 = .ok (.new 70, 3) := by decide +kernel
theorem dX4_load_15 : decode cX4_load 15 = .ok (.dup, 1) := by decide +kernel
theorem dX4_load_16 : decode cX4_load 16 = .ok (.ldc 89, 2) := by decide +kernel
theorem dX4_load_18 : decode cX4_load 18 = .ok (.invokespecial 74, 3) := by decide +kernel
theorem dX4_load_21 : decode cX4_load 21 = .ok (.athrow, 1) := by decide +kernel
theorem dX4_load_22 : decode cX4_load 22 = .ok (.aload_n 0, 1) := by decide +kernel
theorem dX4_load_23 : decode cX4_load 23 = .ok (.getfield 10, 3) := by decide +kernel
theorem dX4_load_26 : decode cX4_load 26 = .ok (.aload_n 0, 1) := by decide +kernel
theorem dX4_load_27 : decode cX4_load 27 = .ok (.getfield 22, 3) := by decide +kernel
theorem dX4_load_30 : decode cX4_load 30 = .ok (.getfield 91, 3) := by decide +kernel
theorem dX4_load_33 : decode cX4_load 33 = .ok (.invokevirtual 94, 3) := by decide +kernel
theorem dX4_load_36 : decode cX4_load 36 = .ok (.aload_n 0, 1) := by decide +kernel
theorem dX4_load_37 : decode cX4_load 37 = .ok (.iconst 0, 1) := by decide +kernel
theorem dX4_load_38 : decode cX4_load 38 = .ok (.putfield 49, 3) := by decide +kernel
theorem dX4_load_41 : decode cX4_load 41 = .ok (.iconst 0, 1) := by decide +kernel
theorem dX4_load_42 : decode cX4_load 42 = .ok (.istore_n 1, 1) := by decide +kernel
theorem dX4_load_43 : decode cX4_load 43 = .ok (.iload_n 1, 1) := by decide +kernel
theorem dX4_load_44 : decode cX4_load 44 = .ok (.aload_n 0, 1) := by decide +kernel
theorem dX4_load_45 : decode cX4_load 45 = .ok (.getfield 45, 3) := by decide +kernel
theorem dX4_load_48 : decode cX4_load 48 = .ok (.arraylength, 1) := by decide +kernel
theorem dX4_load_49 : decode cX4_load 49 = .ok (.if_icmp .ge 16, 3) := by decide +kernel
theorem dX4_load_52 : decode cX4_load 52 = .ok (.aload_n 0, 1) := by decide +kernel
theorem dX4_load_53 : decode cX4_load 53 = .ok (.getfield 45, 3) := by decide +kernel
theorem dX4_load_56 : decode cX4_load 56 = .ok (.iload_n 1, 1) := by decide +kernel
theorem dX4_load_57 : decode cX4_load 57 = .ok (.iconst 0, 1) := by decide +kernel
theorem dX4_load_58 : decode cX4_load 58 = .ok (.bastore, 1) := by decide +kernel
theorem dX4_load_59 : decode cX4_load 59 = .ok (.iinc 1 1, 3) := by decide +kernel
theorem dX4_load_62 : decode cX4_load 62 = .ok (.goto (-19), 3) := by decide +kernel
theorem dX4_load_65 : decode cX4_load 65 = .ok (.aload_n 0, 1) := by decide +kernel
theorem dX4_load_66 : decode cX4_load 66 = .ok (.getfield 10, 3) := by decide +kernel
theorem dX4_load_69 : decode cX4_load 69 = .ok (.invokevirtual 98, 3) := by decide +kernel
theorem dX4_load_72 : decode cX4_load 72 = .ok (.ireturn, 1) := by decide +kernel
set_option maxRecDepth 20000 in
theorem ggX4_about_X0_grips : GoodIn wsX4_about wsX0_grips := goodIn_r _ [12, 13, 14, 15, 11, 16, 17, 28, 29, 30, 31, 32, 33, 34, 35, 36, 37, 38, 39, 40] (by decide +kernel) (by decide +kernel)
set_option maxRecDepth 20000 in
theorem gX4_about_X0_grips : GoodIn wsX4_about (wsV RX4 98 RX0 yX0_grips wsX0_grips) := goodIn_app (goodIn_of _ (by decide +kernel)) ggX4_about_X0_grips
set_option maxRecDepth 20000 in
theorem ggX4_about_X0_count : GoodIn wsX4_about wsX0_count := goodIn_r _ [16, 17, 28, 29, 30, 31, 32, 33, 34, 35, 36, 37, 38, 39, 40] (by decide +kernel) (by decide +kernel)
set_option maxRecDepth 20000 in
theorem gX4_about_X0_count : GoodIn wsX4_about (wsV RX4 104 RX0 yX0_count wsX0_count) := goodIn_app (goodIn_of _ (by decide +kernel)) ggX4_about_X0_count
theorem dX4_about_0 : decode cX4_about 0 = .ok (.iload_n 1, 1) := by decide +kernel
theorem dX4_about_1 : decode cX4_about 1 = .ok (.tableswitch 185 0 12 #[67, 75, 83, 92, 101, 110, 119, 127, 135, 145, 155, 165, 175], 67) := by decide +kernel
theorem dX4_about_68 : decode cX4_about 68 = .ok (.aload_n 0, 1) := by decide +kernel
theorem dX4_about_69 : decode cX4_about 69 = .ok (.getfield 10, 3) := by decide +kernel
theorem dX4_about_72 : decode cX4_about 72 = .ok (.getfield 101, 3) := by decide +kernel
theorem dX4_about_75 : decode cX4_about 75 = .ok (.ireturn, 1) := by decide +kernel
theorem dX4_about_76 : decode cX4_about 76 = .ok (.aload_n 0, 1) := by decide +kernel
theorem dX4_about_77 : decode cX4_about 77 = .ok (.getfield 10, 3) := by decide +kernel
theorem dX4_about_80 : decode cX4_about 80 = .ok (.invokevirtual 98, 3) := by decide +kernel
theorem dX4_about_83 : decode cX4_about 83 = .ok (.ireturn, 1) := by decide +kernel
theorem dX4_about_84 : decode cX4_about 84 = .ok (.aload_n 0, 1) := by decide +kernel
theorem dX4_about_85 : decode cX4_about 85 = .ok (.getfield 10, 3) := by decide +kernel
theorem dX4_about_88 : decode cX4_about 88 = .ok (.iconst 0, 1) := by decide +kernel
theorem dX4_about_89 : decode cX4_about 89 = .ok (.invokevirtual 104, 3) := by decide +kernel
theorem dX4_about_92 : decode cX4_about 92 = .ok (.ireturn, 1) := by decide +kernel
theorem dX4_about_93 : decode cX4_about 93 = .ok (.aload_n 0, 1) := by decide +kernel
theorem dX4_about_94 : decode cX4_about 94 = .ok (.getfield 10, 3) := by decide +kernel
theorem dX4_about_97 : decode cX4_about 97 = .ok (.iconst 1, 1) := by decide +kernel
theorem dX4_about_98 : decode cX4_about 98 = .ok (.invokevirtual 104, 3) := by decide +kernel
theorem dX4_about_101 : decode cX4_about 101 = .ok (.ireturn, 1) := by decide +kernel
theorem dX4_about_102 : decode cX4_about 102 = .ok (.aload_n 0, 1) := by decide +kernel
theorem dX4_about_103 : decode cX4_about 103 = .ok (.getfield 10, 3) := by decide +kernel
theorem dX4_about_106 : decode cX4_about 106 = .ok (.iconst 2, 1) := by decide +kernel
theorem dX4_about_107 : decode cX4_about 107 = .ok (.invokevirtual 104, 3) := by decide +kernel
theorem dX4_about_110 : decode cX4_about 110 = .ok (.ireturn, 1) := by decide +kernel
theorem dX4_about_111 : decode cX4_about 111 = .ok (.aload_n 0, 1) := by decide +kernel
theorem dX4_about_112 : decode cX4_about 112 = .ok (.getfield 10, 3) := by decide +kernel
theorem dX4_about_115 : decode cX4_about 115 = .ok (.iconst 3, 1) := by decide +kernel
theorem dX4_about_116 : decode cX4_about 116 = .ok (.invokevirtual 104, 3) := by decide +kernel
theorem dX4_about_119 : decode cX4_about 119 = .ok (.ireturn, 1) := by decide +kernel
theorem dX4_about_120 : decode cX4_about 120 = .ok (.aload_n 0, 1) := by decide +kernel
theorem dX4_about_121 : decode cX4_about 121 = .ok (.getfield 10, 3) := by decide +kernel
theorem dX4_about_124 : decode cX4_about 124 = .ok (.getfield 108, 3) := by decide +kernel
theorem dX4_about_127 : decode cX4_about 127 = .ok (.ireturn, 1) := by decide +kernel
theorem dX4_about_128 : decode cX4_about 128 = .ok (.aload_n 0, 1) := by decide +kernel
theorem dX4_about_129 : decode cX4_about 129 = .ok (.getfield 10, 3) := by decide +kernel
theorem dX4_about_132 : decode cX4_about 132 = .ok (.getfield 111, 3) := by decide +kernel
theorem dX4_about_135 : decode cX4_about 135 = .ok (.ireturn, 1) := by decide +kernel
theorem dX4_about_136 : decode cX4_about 136 = .ok (.aload_n 0, 1) := by decide +kernel
theorem dX4_about_137 : decode cX4_about 137 = .ok (.getfield 10, 3) := by decide +kernel
theorem dX4_about_140 : decode cX4_about 140 = .ok (.getfield 114, 3) := by decide +kernel
theorem dX4_about_143 : decode cX4_about 143 = .ok (.iconst 0, 1) := by decide +kernel
theorem dX4_about_144 : decode cX4_about 144 = .ok (.iaload, 1) := by decide +kernel
theorem dX4_about_145 : decode cX4_about 145 = .ok (.ireturn, 1) := by decide +kernel
theorem dX4_about_146 : decode cX4_about 146 = .ok (.aload_n 0, 1) := by decide +kernel
theorem dX4_about_147 : decode cX4_about 147 = .ok (.getfield 10, 3) := by decide +kernel
theorem dX4_about_150 : decode cX4_about 150 = .ok (.getfield 114, 3) := by decide +kernel
theorem dX4_about_153 : decode cX4_about 153 = .ok (.iconst 1, 1) := by decide +kernel
theorem dX4_about_154 : decode cX4_about 154 = .ok (.iaload, 1) := by decide +kernel
theorem dX4_about_155 : decode cX4_about 155 = .ok (.ireturn, 1) := by decide +kernel
theorem dX4_about_156 : decode cX4_about 156 = .ok (.aload_n 0, 1) := by decide +kernel
theorem dX4_about_157 : decode cX4_about 157 = .ok (.getfield 10, 3) := by decide +kernel
theorem dX4_about_160 : decode cX4_about 160 = .ok (.getfield 114, 3) := by decide +kernel
theorem dX4_about_163 : decode cX4_about 163 = .ok (.iconst 2, 1) := by decide +kernel
theorem dX4_about_164 : decode cX4_about 164 = .ok (.iaload, 1) := by decide +kernel
theorem dX4_about_165 : decode cX4_about 165 = .ok (.ireturn, 1) := by decide +kernel
theorem dX4_about_166 : decode cX4_about 166 = .ok (.aload_n 0, 1) := by decide +kernel
theorem dX4_about_167 : decode cX4_about 167 = .ok (.getfield 10, 3) := by decide +kernel
theorem dX4_about_170 : decode cX4_about 170 = .ok (.getfield 114, 3) := by decide +kernel
theorem dX4_about_173 : decode cX4_about 173 = .ok (.iconst 3, 1) := by decide +kernel
theorem dX4_about_174 : decode cX4_about 174 = .ok (.iaload, 1) := by decide +kernel
theorem dX4_about_175 : decode cX4_about 175 = .ok (.ireturn, 1) := by decide +kernel
theorem dX4_about_176 : decode cX4_about 176 = .ok (.aload_n 0, 1) := by decide +kernel
theorem dX4_about_177 : decode cX4_about 177 = .ok (.getfield 10, 3) := by decide +kernel
theorem dX4_about_180 : decode cX4_about 180 = .ok (.getfield 114, 3) := by decide +kernel
theorem dX4_about_183 : decode cX4_about 183 = .ok (.iconst 4, 1) := by decide +kernel
theorem dX4_about_184 : decode cX4_about 184 = .ok (.iaload, 1) := by decide +kernel
theorem dX4_about_185 : decode cX4_about 185 = .ok (.ireturn, 1) := by decide +kernel
theorem dX4_about_186 : decode cX4_about 186 = .ok (.new 56, 3) := by decide +kernel
theorem dX4_about_189 : decode cX4_about 189 = .ok (.dup, 1) := by decide +kernel
theorem dX4_about_190 : decode cX4_about 190 = .ok (.ldc 118, 2) := by decide +kernel
theorem dX4_about_192 : decode cX4_about 192 = .ok (.invokespecial 60, 3) := by decide +kernel
theorem dX4_about_195 : decode cX4_about 195 = .ok (.athrow, 1) := by decide +kernel
set_option maxRecDepth 20000 in
theorem ggX4_grip_X0_has : GoodIn wsX4_grip wsX0_has := goodIn_r _ [10, 11, 36, 37, 38, 39, 40, 41, 42, 43, 44, 45, 46, 47, 48] (by decide +kernel) (by decide +kernel)
set_option maxRecDepth 20000 in
theorem gX4_grip_X0_has : GoodIn wsX4_grip (wsV RX4 120 RX0 yX0_has wsX0_has) := goodIn_app (goodIn_of _ (by decide +kernel)) ggX4_grip_X0_has
set_option maxRecDepth 20000 in
theorem ggX4_grip_X4_isGripNumber : GoodIn wsX4_grip wsX4_isGripNumber := goodIn_r _ [15] (by decide +kernel) (by decide +kernel)
set_option maxRecDepth 20000 in
theorem gX4_grip_X4_isGripNumber : GoodIn wsX4_grip (va_wsS RX4 129 yX4_isGripNumber wsX4_isGripNumber) := goodIn_app (goodIn_of _ (by decide +kernel)) ggX4_grip_X4_isGripNumber
set_option maxRecDepth 20000 in
theorem ggX4_grip_X0_number : GoodIn wsX4_grip wsX0_number := goodIn_r _ [19, 20, 21, 22, 23, 24, 11, 25, 26, 36, 37, 38, 39, 40, 41, 42, 43, 44, 45, 46, 47, 48] (by decide +kernel) (by decide +kernel)
set_option maxRecDepth 20000 in
theorem gX4_grip_X0_number : GoodIn wsX4_grip (wsV RX4 134 RX0 yX0_number wsX0_number) := goodIn_app (goodIn_of _ (by decide +kernel)) ggX4_grip_X0_number
theorem dX4_grip_0 : decode cX4_grip 0 = .ok (.aload_n 0, 1) := by decide +kernel
theorem dX4_grip_1 : decode cX4_grip 1 = .ok (.getfield 10, 3) := by decide +kernel
theorem dX4_grip_4 : decode cX4_grip 4 = .ok (.iload_n 1, 1) := by decide +kernel
theorem dX4_grip_5 : decode cX4_grip 5 = .ok (.invokevirtual 120, 3) := by decide +kernel
theorem dX4_grip_8 : decode cX4_grip 8 = .ok (.ifCond .ne 13, 3) := by decide +kernel
theorem dX4_grip_11 : decode cX4_grip 11 = .ok (.new 124, 3) := by decide +kernel
theorem dX4_grip_14 : decode cX4_grip 14 = .ok (.dup, 1) := by decide +kernel
theorem dX4_grip_15 : decode cX4_grip 15 = .ok (.ldc 126, 2) := by decide +kernel
theorem dX4_grip_17 : decode cX4_grip 17 = .ok (.invokespecial 128, 3) := by decide +kernel
theorem dX4_grip_20 : decode cX4_grip 20 = .ok (.athrow, 1) := by decide +kernel
theorem dX4_grip_21 : decode cX4_grip 21 = .ok (.iload_n 2, 1) := by decide +kernel
theorem dX4_grip_22 : decode cX4_grip 22 = .ok (.invokestatic 129, 3) := by decide +kernel
theorem dX4_grip_25 : decode cX4_grip 25 = .ok (.ifCond .ne 13, 3) := by decide +kernel
theorem dX4_grip_28 : decode cX4_grip 28 = .ok (.new 56, 3) := by decide +kernel
theorem dX4_grip_31 : decode cX4_grip 31 = .ok (.dup, 1) := by decide +kernel
theorem dX4_grip_32 : decode cX4_grip 32 = .ok (.ldc 132, 2) := by decide +kernel
theorem dX4_grip_34 : decode cX4_grip 34 = .ok (.invokespecial 60, 3) := by decide +kernel
theorem dX4_grip_37 : decode cX4_grip 37 = .ok (.athrow, 1) := by decide +kernel
theorem dX4_grip_38 : decode cX4_grip 38 = .ok (.aload_n 0, 1) := by decide +kernel
theorem dX4_grip_39 : decode cX4_grip 39 = .ok (.getfield 10, 3) := by decide +kernel
theorem dX4_grip_42 : decode cX4_grip 42 = .ok (.iload_n 1, 1) := by decide +kernel
theorem dX4_grip_43 : decode cX4_grip 43 = .ok (.iload_n 2, 1) := by decide +kernel
theorem dX4_grip_44 : decode cX4_grip 44 = .ok (.invokevirtual 134, 3) := by decide +kernel
theorem dX4_grip_47 : decode cX4_grip 47 = .ok (.ireturn, 1) := by decide +kernel
set_option maxRecDepth 20000 in
theorem ggX4_slot_X0_hasSlot : GoodIn wsX4_slot wsX0_hasSlot := goodIn_r _ [8, 9, 25, 26, 27, 28, 29, 30, 31, 32, 33, 34, 35, 36, 37] (by decide +kernel) (by decide +kernel)
set_option maxRecDepth 20000 in
theorem gX4_slot_X0_hasSlot : GoodIn wsX4_slot (wsV RX4 138 RX0 yX0_hasSlot wsX0_hasSlot) := goodIn_app (goodIn_of _ (by decide +kernel)) ggX4_slot_X0_hasSlot
set_option maxRecDepth 20000 in
theorem ggX4_slot_X0_gripAt : GoodIn wsX4_slot wsX0_gripAt := goodIn_r _ [13, 14, 15, 25, 26, 27, 28, 29, 30, 31, 32, 33, 34, 35, 36, 37] (by decide +kernel) (by decide +kernel)
set_option maxRecDepth 20000 in
theorem gX4_slot_X0_gripAt : GoodIn wsX4_slot (wsV RX4 143 RX0 yX0_gripAt wsX0_gripAt) := goodIn_app (goodIn_of _ (by decide +kernel)) ggX4_slot_X0_gripAt
theorem dX4_slot_0 : decode cX4_slot 0 = .ok (.aload_n 0, 1) := by decide +kernel
theorem dX4_slot_1 : decode cX4_slot 1 = .ok (.getfield 10, 3) := by decide +kernel
theorem dX4_slot_4 : decode cX4_slot 4 = .ok (.iload_n 1, 1) := by decide +kernel
theorem dX4_slot_5 : decode cX4_slot 5 = .ok (.invokevirtual 138, 3) := by decide +kernel
theorem dX4_slot_8 : decode cX4_slot 8 = .ok (.ifCond .ne 13, 3) := by decide +kernel
theorem dX4_slot_11 : decode cX4_slot 11 = .ok (.new 124, 3) := by decide +kernel
theorem dX4_slot_14 : decode cX4_slot 14 = .ok (.dup, 1) := by decide +kernel
theorem dX4_slot_15 : decode cX4_slot 15 = .ok (.ldc 141, 2) := by decide +kernel
theorem dX4_slot_17 : decode cX4_slot 17 = .ok (.invokespecial 128, 3) := by decide +kernel
theorem dX4_slot_20 : decode cX4_slot 20 = .ok (.athrow, 1) := by decide +kernel
theorem dX4_slot_21 : decode cX4_slot 21 = .ok (.aload_n 0, 1) := by decide +kernel
theorem dX4_slot_22 : decode cX4_slot 22 = .ok (.getfield 10, 3) := by decide +kernel
theorem dX4_slot_25 : decode cX4_slot 25 = .ok (.iload_n 1, 1) := by decide +kernel
theorem dX4_slot_26 : decode cX4_slot 26 = .ok (.invokevirtual 143, 3) := by decide +kernel
theorem dX4_slot_29 : decode cX4_slot 29 = .ok (.ireturn, 1) := by decide +kernel
theorem dX4_random_0 : decode cX4_random 0 = .ok (.aload_n 0, 1) := by decide +kernel
theorem dX4_random_1 : decode cX4_random 1 = .ok (.getfield 10, 3) := by decide +kernel
theorem dX4_random_4 : decode cX4_random 4 = .ok (.getfield 146, 3) := by decide +kernel
theorem dX4_random_7 : decode cX4_random 7 = .ok (.lreturn, 1) := by decide +kernel
set_option maxRecDepth 20000 in
theorem ggX4_report_X0_describe : GoodIn wsX4_report wsX0_describe := goodIn_r _ [9, 10, 11, 12, 13, 14, 15, 16, 17, 18, 19, 8, 20, 21, 22, 23, 24, 25, 26, 27, 28, 29, 30, 31, 32, 33, 47, 48, 49, 50, 51, 52, 53, 54, 55, 56, 57, 58, 59, 60, 61] (by decide +kernel) (by decide +kernel)
set_option maxRecDepth 20000 in
theorem gX4_report_X0_describe : GoodIn wsX4_report (wsV RX4 152 RX0 yX0_describe wsX0_describe) := goodIn_app (goodIn_of _ (by decide +kernel)) ggX4_report_X0_describe
set_option maxRecDepth 20000 in
theorem ggX4_report_X3_at : GoodIn wsX4_report wsX3_at := goodIn_r _ [37, 16, 28, 60, 61] (by decide +kernel) (by decide +kernel)
set_option maxRecDepth 20000 in
theorem gX4_report_X3_at : GoodIn wsX4_report (wsV RX4 156 RX3 yX3_at wsX3_at) := goodIn_app (goodIn_of _ (by decide +kernel)) ggX4_report_X3_at
theorem dX4_report_0 : decode cX4_report 0 = .ok (.iload_n 1, 1) := by decide +kernel
theorem dX4_report_1 : decode cX4_report 1 = .ok (.ifCond .ge 13, 3) := by decide +kernel
theorem dX4_report_4 : decode cX4_report 4 = .ok (.new 56, 3) := by decide +kernel
theorem dX4_report_7 : decode cX4_report 7 = .ok (.dup, 1) := by decide +kernel
theorem dX4_report_8 : decode cX4_report 8 = .ok (.ldc 150, 2) := by decide +kernel
theorem dX4_report_10 : decode cX4_report 10 = .ok (.invokespecial 60, 3) := by decide +kernel
theorem dX4_report_13 : decode cX4_report 13 = .ok (.athrow, 1) := by decide +kernel
theorem dX4_report_14 : decode cX4_report 14 = .ok (.aload_n 0, 1) := by decide +kernel
theorem dX4_report_15 : decode cX4_report 15 = .ok (.getfield 10, 3) := by decide +kernel
theorem dX4_report_18 : decode cX4_report 18 = .ok (.aload_n 0, 1) := by decide +kernel
theorem dX4_report_19 : decode cX4_report 19 = .ok (.getfield 29, 3) := by decide +kernel
theorem dX4_report_22 : decode cX4_report 22 = .ok (.invokevirtual 152, 3) := by decide +kernel
theorem dX4_report_25 : decode cX4_report 25 = .ok (.aload_n 0, 1) := by decide +kernel
theorem dX4_report_26 : decode cX4_report 26 = .ok (.getfield 29, 3) := by decide +kernel
theorem dX4_report_29 : decode cX4_report 29 = .ok (.iload_n 1, 1) := by decide +kernel
theorem dX4_report_30 : decode cX4_report 30 = .ok (.invokevirtual 156, 3) := by decide +kernel
theorem dX4_report_33 : decode cX4_report 33 = .ok (.ireturn, 1) := by decide +kernel
set_option maxRecDepth 20000 in
theorem ggX4_step_X4_isStepNumber : GoodIn wsX4_step wsX4_isStepNumber := goodIn_r _ [7] (by decide +kernel) (by decide +kernel)
set_option maxRecDepth 20000 in
theorem gX4_step_X4_isStepNumber : GoodIn wsX4_step (va_wsS RX4 159 yX4_isStepNumber wsX4_isStepNumber) := goodIn_app (goodIn_of _ (by decide +kernel)) ggX4_step_X4_isStepNumber
set_option maxRecDepth 20000 in
theorem ggX4_step_X4_remember : GoodIn wsX4_step wsX4_remember := goodIn_r _ [11, 12, 13, 3, 14, 15, 16, 17, 18, 19, 20, 21, 22, 23, 24, 25, 26, 27, 28, 29, 30, 31, 32, 33, 34, 35, 36, 37, 38, 39, 40, 41, 42, 43, 44, 45, 46, 89, 90, 91, 92, 93, 94, 95, 96, 97, 98, 99, 100, 101, 102, 103, 104, 105, 106, 107, 108, 109, 110, 111] (by decide +kernel) (by decide +kernel)
set_option maxRecDepth 20000 in
theorem gX4_step_X4_remember : GoodIn wsX4_step (wsV RX4 164 RX4 yX4_remember wsX4_remember) := goodIn_app (goodIn_of _ (by decide +kernel)) ggX4_step_X4_remember
set_option maxRecDepth 20000 in
theorem ggX4_step_X0_advanceBy : GoodIn wsX4_step wsX0_advanceBy := goodIn_r _ [50, 51, 52, 53, 28, 54, 44, 43, 46, 55, 56, 45, 57, 58, 59, 60, 39, 40, 61, 62, 63, 64, 35, 36, 30, 42, 37, 38, 41, 65, 66, 67, 68, 69, 70, 71, 72, 73, 74, 75, 76, 77, 78, 79, 80, 81, 82, 83, 84, 99, 100, 101, 102, 103, 104, 105, 106, 107, 108, 109, 110, 111] (by decide +kernel) (by decide +kernel)
set_option maxRecDepth 20000 in
theorem gX4_step_X0_advanceBy : GoodIn wsX4_step (wsV RX4 167 RX0 yX0_advanceBy wsX0_advanceBy) := goodIn_app (goodIn_of _ (by decide +kernel)) ggX4_step_X0_advanceBy
set_option maxRecDepth 20000 in
theorem ggX4_step_X0_count : GoodIn wsX4_step wsX0_count := goodIn_r _ [88, 39, 99, 100, 101, 102, 103, 104, 105, 106, 107, 108, 109, 110, 111] (by decide +kernel) (by decide +kernel)
set_option maxRecDepth 20000 in
theorem gX4_step_X0_count : GoodIn wsX4_step (wsV RX4 104 RX0 yX0_count wsX0_count) := goodIn_app (goodIn_of _ (by decide +kernel)) ggX4_step_X0_count
theorem dX4_step_0 : decode cX4_step 0 = .ok (.iload_n 1, 1) := by decide +kernel
theorem dX4_step_1 : decode cX4_step 1 = .ok (.invokestatic 159, 3) := by decide +kernel
theorem dX4_step_4 : decode cX4_step 4 = .ok (.ifCond .ne 13, 3) := by decide +kernel
theorem dX4_step_7 : decode cX4_step 7 = .ok (.new 56, 3) := by decide +kernel
theorem dX4_step_10 : decode cX4_step 10 = .ok (.dup, 1) := by decide +kernel
theorem dX4_step_11 : decode cX4_step 11 = .ok (.ldc 162, 2) := by decide +kernel
theorem dX4_step_13 : decode cX4_step 13 = .ok (.invokespecial 60, 3) := by decide +kernel
theorem dX4_step_16 : decode cX4_step 16 = .ok (.athrow, 1) := by decide +kernel
theorem dX4_step_17 : decode cX4_step 17 = .ok (.aload_n 0, 1) := by decide +kernel
theorem dX4_step_18 : decode cX4_step 18 = .ok (.invokevirtual 164, 3) := by decide +kernel
theorem dX4_step_21 : decode cX4_step 21 = .ok (.aload_n 0, 1) := by decide +kernel
theorem dX4_step_22 : decode cX4_step 22 = .ok (.getfield 10, 3) := by decide +kernel
theorem dX4_step_25 : decode cX4_step 25 = .ok (.iload_n 1, 1) := by decide +kernel
theorem dX4_step_26 : decode cX4_step 26 = .ok (.invokevirtual 167, 3) := by decide +kernel
theorem dX4_step_29 : decode cX4_step 29 = .ok (.aload_n 0, 1) := by decide +kernel
theorem dX4_step_30 : decode cX4_step 30 = .ok (.getfield 10, 3) := by decide +kernel
theorem dX4_step_33 : decode cX4_step 33 = .ok (.iconst 2, 1) := by decide +kernel
theorem dX4_step_34 : decode cX4_step 34 = .ok (.invokevirtual 104, 3) := by decide +kernel
theorem dX4_step_37 : decode cX4_step 37 = .ok (.ireturn, 1) := by decide +kernel
set_option maxRecDepth 20000 in
theorem ggX4_addGrip_X0_isFull : GoodIn wsX4_addGrip wsX0_isFull := goodIn_r _ [10, 11, 12, 13, 9, 14, 15, 72, 73, 74, 75, 76, 77, 78, 79, 80, 81, 82, 83, 84] (by decide +kernel) (by decide +kernel)
set_option maxRecDepth 20000 in
theorem gX4_addGrip_X0_isFull : GoodIn wsX4_addGrip (wsV RX4 172 RX0 yX0_isFull wsX0_isFull) := goodIn_app (goodIn_of _ (by decide +kernel)) ggX4_addGrip_X0_isFull
set_option maxRecDepth 20000 in
theorem ggX4_addGrip_X4_remember : GoodIn wsX4_addGrip wsX4_remember := goodIn_r _ [20, 21, 22, 5, 23, 24, 25, 26, 27, 28, 29, 30, 31, 32, 33, 34, 35, 36, 9, 37, 38, 39, 40, 41, 42, 43, 44, 45, 46, 15, 47, 48, 49, 50, 51, 52, 53, 63, 64, 65, 66, 67, 68, 69, 70, 71, 85, 72, 73, 74, 75, 76, 77, 78, 79, 80, 81, 82, 83, 84] (by decide +kernel) (by decide +kernel)
set_option maxRecDepth 20000 in
theorem gX4_addGrip_X4_remember : GoodIn wsX4_addGrip (wsV RX4 164 RX4 yX4_remember wsX4_remember) := goodIn_app (goodIn_of _ (by decide +kernel)) ggX4_addGrip_X4_remember
set_option maxRecDepth 20000 in
theorem ggX4_addGrip_X0_add : GoodIn wsX4_addGrip wsX0_add := goodIn_r _ [57, 38, 43, 44, 45, 46, 15, 58, 59, 60, 9, 61, 11, 12, 13, 14, 72, 73, 74, 75, 76, 77, 78, 79, 80, 81, 82, 83, 84] (by decide +kernel) (by decide +kernel)
set_option maxRecDepth 20000 in
theorem gX4_addGrip_X0_add : GoodIn wsX4_addGrip (wsV RX4 175 RX0 yX0_add wsX0_add) := goodIn_app (goodIn_of _ (by decide +kernel)) ggX4_addGrip_X0_add
set_option maxRecDepth 20000 in
theorem ggX4_addGrip_X0_grips : GoodIn wsX4_addGrip wsX0_grips := goodIn_r _ [61, 11, 12, 13, 9, 14, 15, 72, 73, 74, 75, 76, 77, 78, 79, 80, 81, 82, 83, 84] (by decide +kernel) (by decide +kernel)
set_option maxRecDepth 20000 in
theorem gX4_addGrip_X0_grips : GoodIn wsX4_addGrip (wsV RX4 98 RX0 yX0_grips wsX0_grips) := goodIn_app (goodIn_of _ (by decide +kernel)) ggX4_addGrip_X0_grips
theorem dX4_addGrip_0 : decode cX4_addGrip 0 = .ok (.iload_n 1, 1) := by decide +kernel
theorem dX4_addGrip_1 : decode cX4_addGrip 1 = .ok (.ifCond .lt 8, 3) := by decide +kernel
theorem dX4_addGrip_4 : decode cX4_addGrip 4 = .ok (.iload_n 1, 1) := by decide +kernel
theorem dX4_addGrip_5 : decode cX4_addGrip 5 = .ok (.iconst 3, 1) := by decide +kernel
theorem dX4_addGrip_6 : decode cX4_addGrip 6 = .ok (.if_icmp .le 13, 3) := by decide +kernel
theorem dX4_addGrip_9 : decode cX4_addGrip 9 = .ok (.new 56, 3) := by decide +kernel
theorem dX4_addGrip_12 : decode cX4_addGrip 12 = .ok (.dup, 1) := by decide +kernel
theorem dX4_addGrip_13 : decode cX4_addGrip 13 = .ok (.ldc 170, 2) := by decide +kernel
theorem dX4_addGrip_15 : decode cX4_addGrip 15 = .ok (.invokespecial 60, 3) := by decide +kernel
theorem dX4_addGrip_18 : decode cX4_addGrip 18 = .ok (.athrow, 1) := by decide +kernel
theorem dX4_addGrip_19 : decode cX4_addGrip 19 = .ok (.aload_n 0, 1) := by decide +kernel
theorem dX4_addGrip_20 : decode cX4_addGrip 20 = .ok (.getfield 10, 3) := by decide +kernel
theorem dX4_addGrip_23 : decode cX4_addGrip 23 = .ok (.invokevirtual 172, 3) := by decide +kernel
theorem dX4_addGrip_26 : decode cX4_addGrip 26 = .ok (.ifCond .eq 13, 3) := by decide +kernel
theorem dX4_addGrip_29 : decode cX4_addGrip 29 = .ok (.new 70, 3) := by decide +kernel
theorem dX4_addGrip_32 : decode cX4_addGrip 32 = .ok (.dup, 1) := by decide +kernel
theorem dX4_addGrip_33 : decode cX4_addGrip 33 = .ok (.ldc 173, 2) := by decide +kernel
theorem dX4_addGrip_35 : decode cX4_addGrip 35 = .ok (.invokespecial 74, 3) := by decide +kernel
theorem dX4_addGrip_38 : decode cX4_addGrip 38 = .ok (.athrow, 1) := by decide +kernel
theorem dX4_addGrip_39 : decode cX4_addGrip 39 = .ok (.aload_n 0, 1) := by decide +kernel
theorem dX4_addGrip_40 : decode cX4_addGrip 40 = .ok (.invokevirtual 164, 3) := by decide +kernel
theorem dX4_addGrip_43 : decode cX4_addGrip 43 = .ok (.aload_n 0, 1) := by decide +kernel
theorem dX4_addGrip_44 : decode cX4_addGrip 44 = .ok (.getfield 10, 3) := by decide +kernel
theorem dX4_addGrip_47 : decode cX4_addGrip 47 = .ok (.iload_n 1, 1) := by decide +kernel
theorem dX4_addGrip_48 : decode cX4_addGrip 48 = .ok (.invokevirtual 175, 3) := by decide +kernel
theorem dX4_addGrip_51 : decode cX4_addGrip 51 = .ok (.aload_n 0, 1) := by decide +kernel
theorem dX4_addGrip_52 : decode cX4_addGrip 52 = .ok (.getfield 10, 3) := by decide +kernel
theorem dX4_addGrip_55 : decode cX4_addGrip 55 = .ok (.invokevirtual 98, 3) := by decide +kernel
theorem dX4_addGrip_58 : decode cX4_addGrip 58 = .ok (.iconst 1, 1) := by decide +kernel
theorem dX4_addGrip_59 : decode cX4_addGrip 59 = .ok (.isub, 1) := by decide +kernel
theorem dX4_addGrip_60 : decode cX4_addGrip 60 = .ok (.ireturn, 1) := by decide +kernel
set_option maxRecDepth 20000 in
theorem ggX4_putOn_X0_has : GoodIn wsX4_putOn wsX0_has := goodIn_r _ [10, 11, 83, 84, 85, 86, 87, 88, 89, 90, 91, 92, 93, 94, 95] (by decide +kernel) (by decide +kernel)
set_option maxRecDepth 20000 in
theorem gX4_putOn_X0_has : GoodIn wsX4_putOn (wsV RX4 120 RX0 yX0_has wsX0_has) := goodIn_app (goodIn_of _ (by decide +kernel)) ggX4_putOn_X0_has
set_option maxRecDepth 20000 in
theorem ggX4_putOn_X0_hasSlot : GoodIn wsX4_putOn wsX0_hasSlot := goodIn_r _ [15, 16, 83, 84, 85, 86, 87, 88, 89, 90, 91, 92, 93, 94, 95] (by decide +kernel) (by decide +kernel)
set_option maxRecDepth 20000 in
theorem gX4_putOn_X0_hasSlot : GoodIn wsX4_putOn (wsV RX4 138 RX0 yX0_hasSlot wsX0_hasSlot) := goodIn_app (goodIn_of _ (by decide +kernel)) ggX4_putOn_X0_hasSlot
set_option maxRecDepth 20000 in
theorem ggX4_putOn_X0_isIn : GoodIn wsX4_putOn wsX0_isIn := goodIn_r _ [20, 11, 83, 84, 85, 86, 87, 88, 89, 90, 91, 92, 93, 94, 95] (by decide +kernel) (by decide +kernel)
set_option maxRecDepth 20000 in
theorem gX4_putOn_X0_isIn : GoodIn wsX4_putOn (wsV RX4 180 RX0 yX0_isIn wsX0_isIn) := goodIn_app (goodIn_of _ (by decide +kernel)) ggX4_putOn_X0_isIn
set_option maxRecDepth 20000 in
theorem ggX4_putOn_X0_isRoomAt : GoodIn wsX4_putOn wsX0_isRoomAt := goodIn_r _ [24, 11, 25, 26, 27, 28, 29, 9, 30, 16, 83, 84, 85, 86, 87, 88, 89, 90, 91, 92, 93, 94, 95] (by decide +kernel) (by decide +kernel)
set_option maxRecDepth 20000 in
theorem gX4_putOn_X0_isRoomAt : GoodIn wsX4_putOn (wsV RX4 184 RX0 yX0_isRoomAt wsX0_isRoomAt) := goodIn_app (goodIn_of _ (by decide +kernel)) ggX4_putOn_X0_isRoomAt
set_option maxRecDepth 20000 in
theorem ggX4_putOn_X4_remember : GoodIn wsX4_putOn wsX4_remember := goodIn_r _ [35, 36, 37, 5, 38, 39, 40, 41, 42, 43, 44, 45, 46, 47, 48, 49, 50, 51, 9, 52, 53, 54, 55, 56, 57, 58, 59, 60, 61, 11, 25, 62, 26, 16, 63, 64, 65, 74, 75, 76, 77, 78, 79, 80, 81, 82, 96, 83, 84, 85, 86, 87, 88, 89, 90, 91, 92, 93, 94, 95] (by decide +kernel) (by decide +kernel)
set_option maxRecDepth 20000 in
theorem gX4_putOn_X4_remember : GoodIn wsX4_putOn (wsV RX4 164 RX4 yX4_remember wsX4_remember) := goodIn_app (goodIn_of _ (by decide +kernel)) ggX4_putOn_X4_remember
set_option maxRecDepth 20000 in
theorem ggX4_putOn_X0_hang : GoodIn wsX4_putOn wsX0_hang := goodIn_r _ [69, 11, 25, 83, 84, 85, 86, 87, 88, 89, 90, 91, 92, 93, 94, 95] (by decide +kernel) (by decide +kernel)
set_option maxRecDepth 20000 in
theorem gX4_putOn_X0_hang : GoodIn wsX4_putOn (wsV RX4 189 RX0 yX0_hang wsX0_hang) := goodIn_app (goodIn_of _ (by decide +kernel)) ggX4_putOn_X0_hang
set_option maxRecDepth 20000 in
theorem ggX4_putOn_X0_count : GoodIn wsX4_putOn wsX0_count := goodIn_r _ [73, 11, 83, 84, 85, 86, 87, 88, 89, 90, 91, 92, 93, 94, 95] (by decide +kernel) (by decide +kernel)
set_option maxRecDepth 20000 in
theorem gX4_putOn_X0_count : GoodIn wsX4_putOn (wsV RX4 104 RX0 yX0_count wsX0_count) := goodIn_app (goodIn_of _ (by decide +kernel)) ggX4_putOn_X0_count
theorem dX4_putOn_0 : decode cX4_putOn 0 = .ok (.aload_n 0, 1) := by decide +kernel
theorem dX4_putOn_1 : decode cX4_putOn 1 = .ok (.getfield 10, 3) := by decide +kernel
theorem dX4_putOn_4 : decode cX4_putOn 4 = .ok (.iload_n 1, 1) := by decide +kernel
theorem dX4_putOn_5 : decode cX4_putOn 5 = .ok (.invokevirtual 120, 3) := by decide +kernel
theorem dX4_putOn_8 : decode cX4_putOn 8 = .ok (.ifCond .eq 14, 3) := by decide +kernel
theorem dX4_putOn_11 : decode cX4_putOn 11 = .ok (.aload_n 0, 1) := by decide +kernel
theorem dX4_putOn_12 : decode cX4_putOn 12 = .ok (.getfield 10, 3) := by decide +kernel
theorem dX4_putOn_15 : decode cX4_putOn 15 = .ok (.iload_n 2, 1) := by decide +kernel
theorem dX4_putOn_16 : decode cX4_putOn 16 = .ok (.invokevirtual 138, 3) := by decide +kernel
theorem dX4_putOn_19 : decode cX4_putOn 19 = .ok (.ifCond .ne 13, 3) := by decide +kernel
theorem dX4_putOn_22 : decode cX4_putOn 22 = .ok (.new 124, 3) := by decide +kernel
theorem dX4_putOn_25 : decode cX4_putOn 25 = .ok (.dup, 1) := by decide +kernel
theorem dX4_putOn_26 : decode cX4_putOn 26 = .ok (.ldc 178, 2) := by decide +kernel
theorem dX4_putOn_28 : decode cX4_putOn 28 = .ok (.invokespecial 128, 3) := by decide +kernel
theorem dX4_putOn_31 : decode cX4_putOn 31 = .ok (.athrow, 1) := by decide +kernel
theorem dX4_putOn_32 : decode cX4_putOn 32 = .ok (.aload_n 0, 1) := by decide +kernel
theorem dX4_putOn_33 : decode cX4_putOn 33 = .ok (.getfield 10, 3) := by decide +kernel
theorem dX4_putOn_36 : decode cX4_putOn 36 = .ok (.iload_n 1, 1) := by decide +kernel
theorem dX4_putOn_37 : decode cX4_putOn 37 = .ok (.iconst 1, 1) := by decide +kernel
theorem dX4_putOn_38 : decode cX4_putOn 38 = .ok (.invokevirtual 180, 3) := by decide +kernel
theorem dX4_putOn_41 : decode cX4_putOn 41 = .ok (.ifCond .eq 14, 3) := by decide +kernel
theorem dX4_putOn_44 : decode cX4_putOn 44 = .ok (.aload_n 0, 1) := by decide +kernel
theorem dX4_putOn_45 : decode cX4_putOn 45 = .ok (.getfield 10, 3) := by decide +kernel
theorem dX4_putOn_48 : decode cX4_putOn 48 = .ok (.iload_n 2, 1) := by decide +kernel
theorem dX4_putOn_49 : decode cX4_putOn 49 = .ok (.invokevirtual 184, 3) := by decide +kernel
theorem dX4_putOn_52 : decode cX4_putOn 52 = .ok (.ifCond .ne 13, 3) := by decide +kernel
theorem dX4_putOn_55 : decode cX4_putOn 55 = .ok (.new 70, 3) := by decide +kernel
theorem dX4_putOn_58 : decode cX4_putOn 58 = .ok (.dup, 1) := by decide +kernel
theorem dX4_putOn_59 : decode cX4_putOn 59 = .ok (.ldc 187, 2) := by decide +kernel
theorem dX4_putOn_61 : decode cX4_putOn 61 = .ok (.invokespecial 74, 3) := by decide +kernel
theorem dX4_putOn_64 : decode cX4_putOn 64 = .ok (.athrow, 1) := by decide +kernel
theorem dX4_putOn_65 : decode cX4_putOn 65 = .ok (.aload_n 0, 1) := by decide +kernel
theorem dX4_putOn_66 : decode cX4_putOn 66 = .ok (.invokevirtual 164, 3) := by decide +kernel
theorem dX4_putOn_69 : decode cX4_putOn 69 = .ok (.aload_n 0, 1) := by decide +kernel
theorem dX4_putOn_70 : decode cX4_putOn 70 = .ok (.getfield 10, 3) := by decide +kernel
theorem dX4_putOn_73 : decode cX4_putOn 73 = .ok (.iload_n 1, 1) := by decide +kernel
theorem dX4_putOn_74 : decode cX4_putOn 74 = .ok (.iload_n 2, 1) := by decide +kernel
theorem dX4_putOn_75 : decode cX4_putOn 75 = .ok (.invokevirtual 189, 3) := by decide +kernel
theorem dX4_putOn_78 : decode cX4_putOn 78 = .ok (.aload_n 0, 1) := by decide +kernel
theorem dX4_putOn_79 : decode cX4_putOn 79 = .ok (.getfield 10, 3) := by decide +kernel
theorem dX4_putOn_82 : decode cX4_putOn 82 = .ok (.iconst 0, 1) := by decide +kernel
theorem dX4_putOn_83 : decode cX4_putOn 83 = .ok (.invokevirtual 104, 3) := by decide +kernel
theorem dX4_putOn_86 : decode cX4_putOn 86 = .ok (.ireturn, 1) := by decide +kernel
set_option maxRecDepth 20000 in
theorem ggX4_takeOff_X0_has : GoodIn wsX4_takeOff wsX0_has := goodIn_r _ [11, 12, 68, 69, 70, 71, 72, 73, 74, 75, 76, 77, 78, 79, 80] (by decide +kernel) (by decide +kernel)
set_option maxRecDepth 20000 in
theorem gX4_takeOff_X0_has : GoodIn wsX4_takeOff (wsV RX4 120 RX0 yX0_has wsX0_has) := goodIn_app (goodIn_of _ (by decide +kernel)) ggX4_takeOff_X0_has
set_option maxRecDepth 20000 in
theorem ggX4_takeOff_X0_isIn : GoodIn wsX4_takeOff wsX0_isIn := goodIn_r _ [16, 12, 68, 69, 70, 71, 72, 73, 74, 75, 76, 77, 78, 79, 80] (by decide +kernel) (by decide +kernel)
set_option maxRecDepth 20000 in
theorem gX4_takeOff_X0_isIn : GoodIn wsX4_takeOff (wsV RX4 180 RX0 yX0_isIn wsX0_isIn) := goodIn_app (goodIn_of _ (by decide +kernel)) ggX4_takeOff_X0_isIn
set_option maxRecDepth 20000 in
theorem ggX4_takeOff_X4_remember : GoodIn wsX4_takeOff wsX4_remember := goodIn_r _ [21, 22, 23, 5, 24, 25, 26, 27, 28, 29, 30, 31, 32, 33, 34, 35, 36, 37, 10, 38, 39, 40, 41, 42, 43, 44, 45, 46, 47, 12, 48, 49, 50, 51, 52, 53, 54, 59, 60, 61, 62, 63, 64, 65, 66, 67, 81, 68, 69, 70, 71, 72, 73, 74, 75, 76, 77, 78, 79, 80] (by decide +kernel) (by decide +kernel)
set_option maxRecDepth 20000 in
theorem gX4_takeOff_X4_remember : GoodIn wsX4_takeOff (wsV RX4 164 RX4 yX4_remember wsX4_remember) := goodIn_app (goodIn_of _ (by decide +kernel)) ggX4_takeOff_X4_remember
set_option maxRecDepth 20000 in
theorem ggX4_takeOff_X0_move : GoodIn wsX4_takeOff wsX0_move := goodIn_r _ [58, 12, 68, 69, 70, 71, 72, 73, 74, 75, 76, 77, 78, 79, 80] (by decide +kernel) (by decide +kernel)
set_option maxRecDepth 20000 in
theorem gX4_takeOff_X0_move : GoodIn wsX4_takeOff (wsV RX4 198 RX0 yX0_move wsX0_move) := goodIn_app (goodIn_of _ (by decide +kernel)) ggX4_takeOff_X0_move
theorem dX4_takeOff_0 : decode cX4_takeOff 0 = .ok (.aload_n 0, 1) := by decide +kernel
theorem dX4_takeOff_1 : decode cX4_takeOff 1 = .ok (.getfield 10, 3) := by decide +kernel
theorem dX4_takeOff_4 : decode cX4_takeOff 4 = .ok (.iload_n 1, 1) := by decide +kernel
theorem dX4_takeOff_5 : decode cX4_takeOff 5 = .ok (.invokevirtual 120, 3) := by decide +kernel
theorem dX4_takeOff_8 : decode cX4_takeOff 8 = .ok (.ifCond .ne 13, 3) := by decide +kernel
theorem dX4_takeOff_11 : decode cX4_takeOff 11 = .ok (.new 124, 3) := by decide +kernel
theorem dX4_takeOff_14 : decode cX4_takeOff 14 = .ok (.dup, 1) := by decide +kernel
theorem dX4_takeOff_15 : decode cX4_takeOff 15 = .ok (.ldc 126, 2) := by decide +kernel
theorem dX4_takeOff_17 : decode cX4_takeOff 17 = .ok (.invokespecial 128, 3) := by decide +kernel
theorem dX4_takeOff_20 : decode cX4_takeOff 20 = .ok (.athrow, 1) := by decide +kernel
theorem dX4_takeOff_21 : decode cX4_takeOff 21 = .ok (.aload_n 0, 1) := by decide +kernel
theorem dX4_takeOff_22 : decode cX4_takeOff 22 = .ok (.getfield 10, 3) := by decide +kernel
theorem dX4_takeOff_25 : decode cX4_takeOff 25 = .ok (.iload_n 1, 1) := by decide +kernel
theorem dX4_takeOff_26 : decode cX4_takeOff 26 = .ok (.iconst 0, 1) := by decide +kernel
theorem dX4_takeOff_27 : decode cX4_takeOff 27 = .ok (.invokevirtual 180, 3) := by decide +kernel
theorem dX4_takeOff_30 : decode cX4_takeOff 30 = .ok (.ifCond .ne 13, 3) := by decide +kernel
theorem dX4_takeOff_33 : decode cX4_takeOff 33 = .ok (.new 70, 3) := by decide +kernel
theorem dX4_takeOff_36 : decode cX4_takeOff 36 = .ok (.dup, 1) := by decide +kernel
theorem dX4_takeOff_37 : decode cX4_takeOff 37 = .ok (.ldc 193, 2) := by decide +kernel
theorem dX4_takeOff_39 : decode cX4_takeOff 39 = .ok (.invokespecial 74, 3) := by decide +kernel
theorem dX4_takeOff_42 : decode cX4_takeOff 42 = .ok (.athrow, 1) := by decide +kernel
theorem dX4_takeOff_43 : decode cX4_takeOff 43 = .ok (.aload_n 0, 1) := by decide +kernel
theorem dX4_takeOff_44 : decode cX4_takeOff 44 = .ok (.invokevirtual 164, 3) := by decide +kernel
theorem dX4_takeOff_47 : decode cX4_takeOff 47 = .ok (.aload_n 0, 1) := by decide +kernel
theorem dX4_takeOff_48 : decode cX4_takeOff 48 = .ok (.getfield 10, 3) := by decide +kernel
theorem dX4_takeOff_51 : decode cX4_takeOff 51 = .ok (.getfield 195, 3) := by decide +kernel
theorem dX4_takeOff_54 : decode cX4_takeOff 54 = .ok (.iload_n 1, 1) := by decide +kernel
theorem dX4_takeOff_55 : decode cX4_takeOff 55 = .ok (.iaload, 1) := by decide +kernel
theorem dX4_takeOff_56 : decode cX4_takeOff 56 = .ok (.istore_n 2, 1) := by decide +kernel
theorem dX4_takeOff_57 : decode cX4_takeOff 57 = .ok (.aload_n 0, 1) := by decide +kernel
theorem dX4_takeOff_58 : decode cX4_takeOff 58 = .ok (.getfield 10, 3) := by decide +kernel
theorem dX4_takeOff_61 : decode cX4_takeOff 61 = .ok (.iload_n 1, 1) := by decide +kernel
theorem dX4_takeOff_62 : decode cX4_takeOff 62 = .ok (.iconst 1, 1) := by decide +kernel
theorem dX4_takeOff_63 : decode cX4_takeOff 63 = .ok (.invokevirtual 198, 3) := by decide +kernel
theorem dX4_takeOff_66 : decode cX4_takeOff 66 = .ok (.iload_n 2, 1) := by decide +kernel
theorem dX4_takeOff_67 : decode cX4_takeOff 67 = .ok (.ireturn, 1) := by decide +kernel
set_option maxRecDepth 20000 in
theorem ggX4_scrap_X0_has : GoodIn wsX4_scrap wsX0_has := goodIn_r _ [11, 12, 68, 69, 70, 71, 72, 73, 74, 75, 76, 77, 78, 79, 80] (by decide +kernel) (by decide +kernel)
set_option maxRecDepth 20000 in
theorem gX4_scrap_X0_has : GoodIn wsX4_scrap (wsV RX4 120 RX0 yX0_has wsX0_has) := goodIn_app (goodIn_of _ (by decide +kernel)) ggX4_scrap_X0_has
set_option maxRecDepth 20000 in
theorem ggX4_scrap_X0_isIn : GoodIn wsX4_scrap wsX0_isIn := goodIn_r _ [16, 12, 68, 69, 70, 71, 72, 73, 74, 75, 76, 77, 78, 79, 80] (by decide +kernel) (by decide +kernel)
set_option maxRecDepth 20000 in
theorem gX4_scrap_X0_isIn : GoodIn wsX4_scrap (wsV RX4 180 RX0 yX0_isIn wsX0_isIn) := goodIn_app (goodIn_of _ (by decide +kernel)) ggX4_scrap_X0_isIn
set_option maxRecDepth 20000 in
theorem ggX4_scrap_X4_remember : GoodIn wsX4_scrap wsX4_remember := goodIn_r _ [21, 22, 23, 5, 24, 25, 26, 27, 28, 29, 30, 31, 32, 33, 34, 35, 36, 37, 10, 38, 39, 40, 41, 42, 43, 44, 45, 46, 47, 12, 48, 49, 50, 51, 52, 53, 54, 59, 60, 61, 62, 63, 64, 65, 66, 67, 81, 68, 69, 70, 71, 72, 73, 74, 75, 76, 77, 78, 79, 80] (by decide +kernel) (by decide +kernel)
set_option maxRecDepth 20000 in
theorem gX4_scrap_X4_remember : GoodIn wsX4_scrap (wsV RX4 164 RX4 yX4_remember wsX4_remember) := goodIn_app (goodIn_of _ (by decide +kernel)) ggX4_scrap_X4_remember
set_option maxRecDepth 20000 in
theorem ggX4_scrap_X0_move : GoodIn wsX4_scrap wsX0_move := goodIn_r _ [58, 12, 68, 69, 70, 71, 72, 73, 74, 75, 76, 77, 78, 79, 80] (by decide +kernel) (by decide +kernel)
set_option maxRecDepth 20000 in
theorem gX4_scrap_X0_move : GoodIn wsX4_scrap (wsV RX4 198 RX0 yX0_move wsX0_move) := goodIn_app (goodIn_of _ (by decide +kernel)) ggX4_scrap_X0_move
theorem dX4_scrap_0 : decode cX4_scrap 0 = .ok (.aload_n 0, 1) := by decide +kernel
theorem dX4_scrap_1 : decode cX4_scrap 1 = .ok (.getfield 10, 3) := by decide +kernel
theorem dX4_scrap_4 : decode cX4_scrap 4 = .ok (.iload_n 1, 1) := by decide +kernel
theorem dX4_scrap_5 : decode cX4_scrap 5 = .ok (.invokevirtual 120, 3) := by decide +kernel
theorem dX4_scrap_8 : decode cX4_scrap 8 = .ok (.ifCond .ne 13, 3) := by decide +kernel
theorem dX4_scrap_11 : decode cX4_scrap 11 = .ok (.new 124, 3) := by decide +kernel
theorem dX4_scrap_14 : decode cX4_scrap 14 = .ok (.dup, 1) := by decide +kernel
theorem dX4_scrap_15 : decode cX4_scrap 15 = .ok (.ldc 126, 2) := by decide +kernel
theorem dX4_scrap_17 : decode cX4_scrap 17 = .ok (.invokespecial 128, 3) := by decide +kernel
theorem dX4_scrap_20 : decode cX4_scrap 20 = .ok (.athrow, 1) := by decide +kernel
theorem dX4_scrap_21 : decode cX4_scrap 21 = .ok (.aload_n 0, 1) := by decide +kernel
theorem dX4_scrap_22 : decode cX4_scrap 22 = .ok (.getfield 10, 3) := by decide +kernel
theorem dX4_scrap_25 : decode cX4_scrap 25 = .ok (.iload_n 1, 1) := by decide +kernel
theorem dX4_scrap_26 : decode cX4_scrap 26 = .ok (.iconst 3, 1) := by decide +kernel
theorem dX4_scrap_27 : decode cX4_scrap 27 = .ok (.invokevirtual 180, 3) := by decide +kernel
theorem dX4_scrap_30 : decode cX4_scrap 30 = .ok (.ifCond .eq 13, 3) := by decide +kernel
theorem dX4_scrap_33 : decode cX4_scrap 33 = .ok (.new 70, 3) := by decide +kernel
theorem dX4_scrap_36 : decode cX4_scrap 36 = .ok (.dup, 1) := by decide +kernel
theorem dX4_scrap_37 : decode cX4_scrap 37 = .ok (.ldc 201, 2) := by decide +kernel
theorem dX4_scrap_39 : decode cX4_scrap 39 = .ok (.invokespecial 74, 3) := by decide +kernel
theorem dX4_scrap_42 : decode cX4_scrap 42 = .ok (.athrow, 1) := by decide +kernel
theorem dX4_scrap_43 : decode cX4_scrap 43 = .ok (.aload_n 0, 1) := by decide +kernel
theorem dX4_scrap_44 : decode cX4_scrap 44 = .ok (.invokevirtual 164, 3) := by decide +kernel
theorem dX4_scrap_47 : decode cX4_scrap 47 = .ok (.aload_n 0, 1) := by decide +kernel
theorem dX4_scrap_48 : decode cX4_scrap 48 = .ok (.getfield 10, 3) := by decide +kernel
theorem dX4_scrap_51 : decode cX4_scrap 51 = .ok (.getfield 203, 3) := by decide +kernel
theorem dX4_scrap_54 : decode cX4_scrap 54 = .ok (.iload_n 1, 1) := by decide +kernel
theorem dX4_scrap_55 : decode cX4_scrap 55 = .ok (.iaload, 1) := by decide +kernel
theorem dX4_scrap_56 : decode cX4_scrap 56 = .ok (.istore_n 2, 1) := by decide +kernel
theorem dX4_scrap_57 : decode cX4_scrap 57 = .ok (.aload_n 0, 1) := by decide +kernel
theorem dX4_scrap_58 : decode cX4_scrap 58 = .ok (.getfield 10, 3) := by decide +kernel
theorem dX4_scrap_61 : decode cX4_scrap 61 = .ok (.iload_n 1, 1) := by decide +kernel
theorem dX4_scrap_62 : decode cX4_scrap 62 = .ok (.iconst 3, 1) := by decide +kernel
theorem dX4_scrap_63 : decode cX4_scrap 63 = .ok (.invokevirtual 198, 3) := by decide +kernel
theorem dX4_scrap_66 : decode cX4_scrap 66 = .ok (.iload_n 2, 1) := by decide +kernel
theorem dX4_scrap_67 : decode cX4_scrap 67 = .ok (.ireturn, 1) := by decide +kernel
set_option maxRecDepth 20000 in
theorem ggX4_setLimit_X4_isLimit : GoodIn wsX4_setLimit wsX4_isLimit := goodIn_r _ [8, 9] (by decide +kernel) (by decide +kernel)
set_option maxRecDepth 20000 in
theorem gX4_setLimit_X4_isLimit : GoodIn wsX4_setLimit (va_wsS RX4 206 yX4_isLimit wsX4_isLimit) := goodIn_app (goodIn_of _ (by decide +kernel)) ggX4_setLimit_X4_isLimit
set_option maxRecDepth 20000 in
theorem ggX4_setLimit_X4_remember : GoodIn wsX4_setLimit wsX4_remember := goodIn_r _ [13, 14, 15, 3, 16, 17, 18, 19, 20, 21, 22, 23, 24, 25, 26, 27, 28, 29, 30, 31, 32, 33, 34, 35, 36, 37, 38, 39, 40, 41, 42, 43, 44, 45, 46, 47, 48, 49, 50, 51, 52, 53, 54, 55, 56, 57, 71, 58, 59, 60, 61, 62, 63, 64, 65, 66, 67, 68, 69, 70] (by decide +kernel) (by decide +kernel)
set_option maxRecDepth 20000 in
theorem gX4_setLimit_X4_remember : GoodIn wsX4_setLimit (wsV RX4 164 RX4 yX4_remember wsX4_remember) := goodIn_app (goodIn_of _ (by decide +kernel)) ggX4_setLimit_X4_remember
theorem dX4_setLimit_0 : decode cX4_setLimit 0 = .ok (.iload_n 1, 1) := by decide +kernel
theorem dX4_setLimit_1 : decode cX4_setLimit 1 = .ok (.iload_n 2, 1) := by decide +kernel
theorem dX4_setLimit_2 : decode cX4_setLimit 2 = .ok (.invokestatic 206, 3) := by decide +kernel
theorem dX4_setLimit_5 : decode cX4_setLimit 5 = .ok (.ifCond .ne 13, 3) := by decide +kernel
theorem dX4_setLimit_8 : decode cX4_setLimit 8 = .ok (.new 56, 3) := by decide +kernel
theorem dX4_setLimit_11 : decode cX4_setLimit 11 = .ok (.dup, 1) := by decide +kernel
theorem dX4_setLimit_12 : decode cX4_setLimit 12 = .ok (.ldc 209, 2) := by decide +kernel
theorem dX4_setLimit_14 : decode cX4_setLimit 14 = .ok (.invokespecial 60, 3) := by decide +kernel
theorem dX4_setLimit_17 : decode cX4_setLimit 17 = .ok (.athrow, 1) := by decide +kernel
theorem dX4_setLimit_18 : decode cX4_setLimit 18 = .ok (.aload_n 0, 1) := by decide +kernel
theorem dX4_setLimit_19 : decode cX4_setLimit 19 = .ok (.invokevirtual 164, 3) := by decide +kernel
theorem dX4_setLimit_22 : decode cX4_setLimit 22 = .ok (.aload_n 0, 1) := by decide +kernel
theorem dX4_setLimit_23 : decode cX4_setLimit 23 = .ok (.getfield 10, 3) := by decide +kernel
theorem dX4_setLimit_26 : decode cX4_setLimit 26 = .ok (.getfield 114, 3) := by decide +kernel
theorem dX4_setLimit_29 : decode cX4_setLimit 29 = .ok (.iload_n 1, 1) := by decide +kernel
theorem dX4_setLimit_30 : decode cX4_setLimit 30 = .ok (.iaload, 1) := by decide +kernel
theorem dX4_setLimit_31 : decode cX4_setLimit 31 = .ok (.istore_n 3, 1) := by decide +kernel
theorem dX4_setLimit_32 : decode cX4_setLimit 32 = .ok (.aload_n 0, 1) := by decide +kernel
theorem dX4_setLimit_33 : decode cX4_setLimit 33 = .ok (.getfield 10, 3) := by decide +kernel
theorem dX4_setLimit_36 : decode cX4_setLimit 36 = .ok (.getfield 114, 3) := by decide +kernel
theorem dX4_setLimit_39 : decode cX4_setLimit 39 = .ok (.iload_n 1, 1) := by decide +kernel
theorem dX4_setLimit_40 : decode cX4_setLimit 40 = .ok (.iload_n 2, 1) := by decide +kernel
theorem dX4_setLimit_41 : decode cX4_setLimit 41 = .ok (.iastore, 1) := by decide +kernel
theorem dX4_setLimit_42 : decode cX4_setLimit 42 = .ok (.iload_n 3, 1) := by decide +kernel
theorem dX4_setLimit_43 : decode cX4_setLimit 43 = .ok (.ireturn, 1) := by decide +kernel
set_option maxRecDepth 20000 in
theorem ggX4_setRandom_X4_remember : GoodIn wsX4_setRandom wsX4_remember := goodIn_r _ [7, 8, 9, 1, 10, 11, 12, 13, 14, 15, 16, 17, 18, 19, 20, 21, 22, 23, 24, 25, 26, 27, 28, 29, 30, 31, 32, 33, 34, 35, 36, 37, 38, 39, 40, 41, 42, 43, 44, 45, 46, 47, 48, 49, 50, 51, 65, 52, 53, 54, 55, 56, 57, 58, 59, 60, 61, 62, 63, 64] (by decide +kernel) (by decide +kernel)
set_option maxRecDepth 20000 in
theorem gX4_setRandom_X4_remember : GoodIn wsX4_setRandom (wsV RX4 164 RX4 yX4_remember wsX4_remember) := goodIn_app (goodIn_of _ (by decide +kernel)) ggX4_setRandom_X4_remember
theorem dX4_setRandom_0 : decode cX4_setRandom 0 = .ok (.aload_n 0, 1) := by decide +kernel
theorem dX4_setRandom_1 : decode cX4_setRandom 1 = .ok (.invokevirtual 164, 3) := by decide +kernel
theorem dX4_setRandom_4 : decode cX4_setRandom 4 = .ok (.aload_n 0, 1) := by decide +kernel
theorem dX4_setRandom_5 : decode cX4_setRandom 5 = .ok (.getfield 10, 3) := by decide +kernel
theorem dX4_setRandom_8 : decode cX4_setRandom 8 = .ok (.getfield 146, 3) := by decide +kernel
theorem dX4_setRandom_11 : decode cX4_setRandom 11 = .ok (.lstore_n 3, 1) := by decide +kernel
theorem dX4_setRandom_12 : decode cX4_setRandom 12 = .ok (.aload_n 0, 1) := by decide +kernel
theorem dX4_setRandom_13 : decode cX4_setRandom 13 = .ok (.getfield 10, 3) := by decide +kernel
theorem dX4_setRandom_16 : decode cX4_setRandom 16 = .ok (.lload_n 1, 1) := by decide +kernel
theorem dX4_setRandom_17 : decode cX4_setRandom 17 = .ok (.putfield 146, 3) := by decide +kernel
theorem dX4_setRandom_20 : decode cX4_setRandom 20 = .ok (.lload_n 3, 1) := by decide +kernel
theorem dX4_setRandom_21 : decode cX4_setRandom 21 = .ok (.lreturn, 1) := by decide +kernel
set_option maxRecDepth 20000 in
theorem ggX4_undo_X2_recall : GoodIn wsX4_undo wsX2_recall := goodIn_r _ [11, 12, 13, 14, 10, 15, 16, 17, 18, 19, 20, 21, 22, 23, 24, 25, 26, 27, 28, 29, 30, 31, 32, 33, 34, 35, 36, 37, 38, 48, 49, 50, 51, 52, 53, 54, 55, 56, 57, 58, 59, 60, 61] (by decide +kernel) (by decide +kernel)
set_option maxRecDepth 20000 in
theorem gX4_undo_X2_recall : GoodIn wsX4_undo (wsV RX4 213 RX2 yX2_recall wsX2_recall) := goodIn_app (goodIn_of _ (by decide +kernel)) ggX4_undo_X2_recall
theorem dX4_undo_0 : decode cX4_undo 0 = .ok (.aload_n 0, 1) := by decide +kernel
theorem dX4_undo_1 : decode cX4_undo 1 = .ok (.getfield 49, 3) := by decide +kernel
theorem dX4_undo_4 : decode cX4_undo 4 = .ok (.ifCond .ne 13, 3) := by decide +kernel
theorem dX4_undo_7 : decode cX4_undo 7 = .ok (.new 70, 3) := by decide +kernel
theorem dX4_undo_10 : decode cX4_undo 10 = .ok (.dup, 1) := by decide +kernel
theorem dX4_undo_11 : decode cX4_undo 11 = .ok (.ldc 211, 2) := by decide +kernel
theorem dX4_undo_13 : decode cX4_undo 13 = .ok (.invokespecial 74, 3) := by decide +kernel
theorem dX4_undo_16 : decode cX4_undo 16 = .ok (.athrow, 1) := by decide +kernel
theorem dX4_undo_17 : decode cX4_undo 17 = .ok (.aload_n 0, 1) := by decide +kernel
theorem dX4_undo_18 : decode cX4_undo 18 = .ok (.dup, 1) := by decide +kernel
theorem dX4_undo_19 : decode cX4_undo 19 = .ok (.getfield 49, 3) := by decide +kernel
theorem dX4_undo_22 : decode cX4_undo 22 = .ok (.iconst 1, 1) := by decide +kernel
theorem dX4_undo_23 : decode cX4_undo 23 = .ok (.isub, 1) := by decide +kernel
theorem dX4_undo_24 : decode cX4_undo 24 = .ok (.putfield 49, 3) := by decide +kernel
theorem dX4_undo_27 : decode cX4_undo 27 = .ok (.aload_n 0, 1) := by decide +kernel
theorem dX4_undo_28 : decode cX4_undo 28 = .ok (.aload_n 0, 1) := by decide +kernel
theorem dX4_undo_29 : decode cX4_undo 29 = .ok (.getfield 53, 3) := by decide +kernel
theorem dX4_undo_32 : decode cX4_undo 32 = .ok (.ifCond .le 12, 3) := by decide +kernel
theorem dX4_undo_35 : decode cX4_undo 35 = .ok (.aload_n 0, 1) := by decide +kernel
theorem dX4_undo_36 : decode cX4_undo 36 = .ok (.getfield 53, 3) := by decide +kernel
theorem dX4_undo_39 : decode cX4_undo 39 = .ok (.iconst 1, 1) := by decide +kernel
theorem dX4_undo_40 : decode cX4_undo 40 = .ok (.isub, 1) := by decide +kernel
theorem dX4_undo_41 : decode cX4_undo 41 = .ok (.goto 5, 3) := by decide +kernel
theorem dX4_undo_44 : decode cX4_undo 44 = .ok (.bipush 13, 2) := by decide +kernel
theorem dX4_undo_46 : decode cX4_undo 46 = .ok (.putfield 53, 3) := by decide +kernel
theorem dX4_undo_49 : decode cX4_undo 49 = .ok (.aload_n 0, 1) := by decide +kernel
theorem dX4_undo_50 : decode cX4_undo 50 = .ok (.getfield 38, 3) := by decide +kernel
theorem dX4_undo_53 : decode cX4_undo 53 = .ok (.aload_n 0, 1) := by decide +kernel
theorem dX4_undo_54 : decode cX4_undo 54 = .ok (.getfield 53, 3) := by decide +kernel
theorem dX4_undo_57 : decode cX4_undo 57 = .ok (.aload_n 0, 1) := by decide +kernel
theorem dX4_undo_58 : decode cX4_undo 58 = .ok (.getfield 10, 3) := by decide +kernel
theorem dX4_undo_61 : decode cX4_undo 61 = .ok (.invokevirtual 213, 3) := by decide +kernel
theorem dX4_undo_64 : decode cX4_undo 64 = .ok (.aload_n 0, 1) := by decide +kernel
theorem dX4_undo_65 : decode cX4_undo 65 = .ok (.getfield 49, 3) := by decide +kernel
theorem dX4_undo_68 : decode cX4_undo 68 = .ok (.ireturn, 1) := by decide +kernel
set_option maxRecDepth 20000 in
theorem ggX4_gap_X0_has : GoodIn wsX4_gap wsX0_has := goodIn_r _ [8, 9, 37, 38, 39, 40, 41, 42, 43, 44, 45, 46, 47, 48, 49] (by decide +kernel) (by decide +kernel)
set_option maxRecDepth 20000 in
theorem gX4_gap_X0_has : GoodIn wsX4_gap (wsV RX4 120 RX0 yX0_has wsX0_has) := goodIn_app (goodIn_of _ (by decide +kernel)) ggX4_gap_X0_has
set_option maxRecDepth 20000 in
theorem ggX4_gap_X0_isIn : GoodIn wsX4_gap wsX0_isIn := goodIn_r _ [13, 9, 37, 38, 39, 40, 41, 42, 43, 44, 45, 46, 47, 48, 49] (by decide +kernel) (by decide +kernel)
set_option maxRecDepth 20000 in
theorem gX4_gap_X0_isIn : GoodIn wsX4_gap (wsV RX4 180 RX0 yX0_isIn wsX0_isIn) := goodIn_app (goodIn_of _ (by decide +kernel)) ggX4_gap_X0_isIn
set_option maxRecDepth 20000 in
theorem ggX4_gap_X0_gapBehind : GoodIn wsX4_gap wsX0_gapBehind := goodIn_r _ [17, 18, 9, 19, 20, 21, 22, 23, 24, 25, 26, 7, 27, 37, 38, 39, 40, 41, 42, 43, 44, 45, 46, 47, 48, 49] (by decide +kernel) (by decide +kernel)
set_option maxRecDepth 20000 in
theorem gX4_gap_X0_gapBehind : GoodIn wsX4_gap (wsV RX4 217 RX0 yX0_gapBehind wsX0_gapBehind) := goodIn_app (goodIn_of _ (by decide +kernel)) ggX4_gap_X0_gapBehind
theorem dX4_gap_0 : decode cX4_gap 0 = .ok (.aload_n 0, 1) := by decide +kernel
theorem dX4_gap_1 : decode cX4_gap 1 = .ok (.getfield 10, 3) := by decide +kernel
theorem dX4_gap_4 : decode cX4_gap 4 = .ok (.iload_n 1, 1) := by decide +kernel
theorem dX4_gap_5 : decode cX4_gap 5 = .ok (.invokevirtual 120, 3) := by decide +kernel
theorem dX4_gap_8 : decode cX4_gap 8 = .ok (.ifCond .ne 13, 3) := by decide +kernel
theorem dX4_gap_11 : decode cX4_gap 11 = .ok (.new 124, 3) := by decide +kernel
theorem dX4_gap_14 : decode cX4_gap 14 = .ok (.dup, 1) := by decide +kernel
theorem dX4_gap_15 : decode cX4_gap 15 = .ok (.ldc 126, 2) := by decide +kernel
theorem dX4_gap_17 : decode cX4_gap 17 = .ok (.invokespecial 128, 3) := by decide +kernel
theorem dX4_gap_20 : decode cX4_gap 20 = .ok (.athrow, 1) := by decide +kernel
theorem dX4_gap_21 : decode cX4_gap 21 = .ok (.aload_n 0, 1) := by decide +kernel
theorem dX4_gap_22 : decode cX4_gap 22 = .ok (.getfield 10, 3) := by decide +kernel
theorem dX4_gap_25 : decode cX4_gap 25 = .ok (.iload_n 1, 1) := by decide +kernel
theorem dX4_gap_26 : decode cX4_gap 26 = .ok (.iconst 0, 1) := by decide +kernel
theorem dX4_gap_27 : decode cX4_gap 27 = .ok (.invokevirtual 180, 3) := by decide +kernel
theorem dX4_gap_30 : decode cX4_gap 30 = .ok (.ifCond .eq 14, 3) := by decide +kernel
theorem dX4_gap_33 : decode cX4_gap 33 = .ok (.aload_n 0, 1) := by decide +kernel
theorem dX4_gap_34 : decode cX4_gap 34 = .ok (.getfield 10, 3) := by decide +kernel
theorem dX4_gap_37 : decode cX4_gap 37 = .ok (.iload_n 1, 1) := by decide +kernel
theorem dX4_gap_38 : decode cX4_gap 38 = .ok (.invokevirtual 217, 3) := by decide +kernel
theorem dX4_gap_41 : decode cX4_gap 41 = .ok (.goto 5, 3) := by decide +kernel
theorem dX4_gap_44 : decode cX4_gap 44 = .ok (.bipush (-9), 2) := by decide +kernel
theorem dX4_gap_46 : decode cX4_gap 46 = .ok (.ireturn, 1) := by decide +kernel
set_option maxRecDepth 20000 in
theorem ggX4_room_X0_roomySlots : GoodIn wsX4_room wsX0_roomySlots := goodIn_r _ [8, 9, 10, 11, 12, 7, 13, 14, 15, 16, 17, 18, 19, 20, 50, 51, 52, 53, 54, 55, 56, 57, 58, 59, 60, 61, 62] (by decide +kernel) (by decide +kernel)
set_option maxRecDepth 20000 in
theorem gX4_room_X0_roomySlots : GoodIn wsX4_room (wsV RX4 220 RX0 yX0_roomySlots wsX0_roomySlots) := goodIn_app (goodIn_of _ (by decide +kernel)) ggX4_room_X0_roomySlots
set_option maxRecDepth 20000 in
theorem ggX4_room_X0_smallestGap : GoodIn wsX4_room wsX0_smallestGap := goodIn_r _ [24, 14, 25, 26, 27, 7, 28, 9, 15, 29, 30, 31, 32, 33, 34, 35, 36, 50, 51, 52, 53, 54, 55, 56, 57, 58, 59, 60, 61, 62] (by decide +kernel) (by decide +kernel)
set_option maxRecDepth 20000 in
theorem gX4_room_X0_smallestGap : GoodIn wsX4_room (wsV RX4 223 RX0 yX0_smallestGap wsX0_smallestGap) := goodIn_app (goodIn_of _ (by decide +kernel)) ggX4_room_X0_smallestGap
set_option maxRecDepth 20000 in
theorem ggX4_room_X0_capacity : GoodIn wsX4_room wsX0_capacity := goodIn_r _ [40, 16, 9, 50, 51, 52, 53, 54, 55, 56, 57, 58, 59, 60, 61, 62] (by decide +kernel) (by decide +kernel)
set_option maxRecDepth 20000 in
theorem gX4_room_X0_capacity : GoodIn wsX4_room (wsV RX4 226 RX0 yX0_capacity wsX0_capacity) := goodIn_app (goodIn_of _ (by decide +kernel)) ggX4_room_X0_capacity
theorem dX4_room_0 : decode cX4_room 0 = .ok (.iload_n 1, 1) := by decide +kernel
theorem dX4_room_1 : decode cX4_room 1 = .ok (.tableswitch 51 0 2 #[27, 35, 43], 27) := by decide +kernel
theorem dX4_room_28 : decode cX4_room 28 = .ok (.aload_n 0, 1) := by decide +kernel
theorem dX4_room_29 : decode cX4_room 29 = .ok (.getfield 10, 3) := by decide +kernel
theorem dX4_room_32 : decode cX4_room 32 = .ok (.invokevirtual 220, 3) := by decide +kernel
theorem dX4_room_35 : decode cX4_room 35 = .ok (.ireturn, 1) := by decide +kernel
theorem dX4_room_36 : decode cX4_room 36 = .ok (.aload_n 0, 1) := by decide +kernel
theorem dX4_room_37 : decode cX4_room 37 = .ok (.getfield 10, 3) := by decide +kernel
theorem dX4_room_40 : decode cX4_room 40 = .ok (.invokevirtual 223, 3) := by decide +kernel
theorem dX4_room_43 : decode cX4_room 43 = .ok (.ireturn, 1) := by decide +kernel
theorem dX4_room_44 : decode cX4_room 44 = .ok (.aload_n 0, 1) := by decide +kernel
theorem dX4_room_45 : decode cX4_room 45 = .ok (.getfield 10, 3) := by decide +kernel
theorem dX4_room_48 : decode cX4_room 48 = .ok (.invokevirtual 226, 3) := by decide +kernel
theorem dX4_room_51 : decode cX4_room 51 = .ok (.ireturn, 1) := by decide +kernel
theorem dX4_room_52 : decode cX4_room 52 = .ok (.new 56, 3) := by decide +kernel
theorem dX4_room_55 : decode cX4_room 55 = .ok (.dup, 1) := by decide +kernel
theorem dX4_room_56 : decode cX4_room 56 = .ok (.ldc 229, 2) := by decide +kernel
theorem dX4_room_58 : decode cX4_room 58 = .ok (.invokespecial 60, 3) := by decide +kernel
theorem dX4_room_61 : decode cX4_room 61 = .ok (.athrow, 1) := by decide +kernel
set_option maxRecDepth 20000 in
theorem ggX4_groups_X0_opensGroup : GoodIn wsX4_groups wsX0_opensGroup := goodIn_r _ [8, 9, 10, 11, 7, 12, 13, 14, 15, 16, 17, 18, 19, 33, 34, 35, 36, 37, 38, 39, 40, 41, 42, 43, 44, 45] (by decide +kernel) (by decide +kernel)
set_option maxRecDepth 20000 in
theorem gX4_groups_X0_opensGroup : GoodIn wsX4_groups (wsV RX4 231 RX0 yX0_opensGroup wsX0_opensGroup) := goodIn_app (goodIn_of _ (by decide +kernel)) ggX4_groups_X0_opensGroup
set_option maxRecDepth 20000 in
theorem ggX4_groups_X0_groupSize : GoodIn wsX4_groups wsX0_groupSize := goodIn_r _ [23, 9, 10, 11, 7, 12, 13, 14, 15, 16, 17, 18, 19, 33, 34, 35, 36, 37, 38, 39, 40, 41, 42, 43, 44, 45] (by decide +kernel) (by decide +kernel)
set_option maxRecDepth 20000 in
theorem gX4_groups_X0_groupSize : GoodIn wsX4_groups (wsV RX4 234 RX0 yX0_groupSize wsX0_groupSize) := goodIn_app (goodIn_of _ (by decide +kernel)) ggX4_groups_X0_groupSize
theorem dX4_groups_0 : decode cX4_groups 0 = .ok (.iload_n 1, 1) := by decide +kernel
theorem dX4_groups_1 : decode cX4_groups 1 = .ok (.ifCond .lt 8, 3) := by decide +kernel
theorem dX4_groups_4 : decode cX4_groups 4 = .ok (.iload_n 1, 1) := by decide +kernel
theorem dX4_groups_5 : decode cX4_groups 5 = .ok (.iconst 2, 1) := by decide +kernel
theorem dX4_groups_6 : decode cX4_groups 6 = .ok (.if_icmp .le 13, 3) := by decide +kernel
theorem dX4_groups_9 : decode cX4_groups 9 = .ok (.new 56, 3) := by decide +kernel
theorem dX4_groups_12 : decode cX4_groups 12 = .ok (.dup, 1) := by decide +kernel
theorem dX4_groups_13 : decode cX4_groups 13 = .ok (.ldc 229, 2) := by decide +kernel
theorem dX4_groups_15 : decode cX4_groups 15 = .ok (.invokespecial 60, 3) := by decide +kernel
theorem dX4_groups_18 : decode cX4_groups 18 = .ok (.athrow, 1) := by decide +kernel
theorem dX4_groups_19 : decode cX4_groups 19 = .ok (.iconst 0, 1) := by decide +kernel
theorem dX4_groups_20 : decode cX4_groups 20 = .ok (.istore_n 2, 1) := by decide +kernel
theorem dX4_groups_21 : decode cX4_groups 21 = .ok (.iconst 0, 1) := by decide +kernel
theorem dX4_groups_22 : decode cX4_groups 22 = .ok (.istore_n 3, 1) := by decide +kernel
theorem dX4_groups_23 : decode cX4_groups 23 = .ok (.bipush (-9), 2) := by decide +kernel
theorem dX4_groups_25 : decode cX4_groups 25 = .ok (.istore 4, 2) := by decide +kernel
theorem dX4_groups_27 : decode cX4_groups 27 = .ok (.iconst 0, 1) := by decide +kernel
theorem dX4_groups_28 : decode cX4_groups 28 = .ok (.istore 5, 2) := by decide +kernel
theorem dX4_groups_30 : decode cX4_groups 30 = .ok (.iload 5, 2) := by decide +kernel
theorem dX4_groups_32 : decode cX4_groups 32 = .ok (.bipush 12, 2) := by decide +kernel
theorem dX4_groups_34 : decode cX4_groups 34 = .ok (.if_icmp .ge 51, 3) := by decide +kernel
theorem dX4_groups_37 : decode cX4_groups 37 = .ok (.aload_n 0, 1) := by decide +kernel
theorem dX4_groups_38 : decode cX4_groups 38 = .ok (.getfield 10, 3) := by decide +kernel
theorem dX4_groups_41 : decode cX4_groups 41 = .ok (.iload 5, 2) := by decide +kernel
theorem dX4_groups_43 : decode cX4_groups 43 = .ok (.invokevirtual 231, 3) := by decide +kernel
theorem dX4_groups_46 : decode cX4_groups 46 = .ok (.ifCond .ne 6, 3) := by decide +kernel
theorem dX4_groups_49 : decode cX4_groups 49 = .ok (.goto 30, 3) := by decide +kernel
theorem dX4_groups_52 : decode cX4_groups 52 = .ok (.iinc 2 1, 3) := by decide +kernel
theorem dX4_groups_55 : decode cX4_groups 55 = .ok (.aload_n 0, 1) := by decide +kernel
theorem dX4_groups_56 : decode cX4_groups 56 = .ok (.getfield 10, 3) := by decide +kernel
theorem dX4_groups_59 : decode cX4_groups 59 = .ok (.iload 5, 2) := by decide +kernel
theorem dX4_groups_61 : decode cX4_groups 61 = .ok (.invokevirtual 234, 3) := by decide +kernel
theorem dX4_groups_64 : decode cX4_groups 64 = .ok (.istore 6, 2) := by decide +kernel
theorem dX4_groups_66 : decode cX4_groups 66 = .ok (.iload 6, 2) := by decide +kernel
theorem dX4_groups_68 : decode cX4_groups 68 = .ok (.iload_n 3, 1) := by decide +kernel
theorem dX4_groups_69 : decode cX4_groups 69 = .ok (.if_icmp .le 10, 3) := by decide +kernel
theorem dX4_groups_72 : decode cX4_groups 72 = .ok (.iload 6, 2) := by decide +kernel
theorem dX4_groups_74 : decode cX4_groups 74 = .ok (.istore_n 3, 1) := by decide +kernel
theorem dX4_groups_75 : decode cX4_groups 75 = .ok (.iload 5, 2) := by decide +kernel
theorem dX4_groups_77 : decode cX4_groups 77 = .ok (.istore 4, 2) := by decide +kernel
theorem dX4_groups_79 : decode cX4_groups 79 = .ok (.iinc 5 1, 3) := by decide +kernel
theorem dX4_groups_82 : decode cX4_groups 82 = .ok (.goto (-52), 3) := by decide +kernel
theorem dX4_groups_85 : decode cX4_groups 85 = .ok (.iload_n 1, 1) := by decide +kernel
theorem dX4_groups_86 : decode cX4_groups 86 = .ok (.ifCond .ne 7, 3) := by decide +kernel
theorem dX4_groups_89 : decode cX4_groups 89 = .ok (.iload_n 2, 1) := by decide +kernel
theorem dX4_groups_90 : decode cX4_groups 90 = .ok (.goto 14, 3) := by decide +kernel
theorem dX4_groups_93 : decode cX4_groups 93 = .ok (.iload_n 1, 1) := by decide +kernel
theorem dX4_groups_94 : decode cX4_groups 94 = .ok (.iconst 1, 1) := by decide +kernel
theorem dX4_groups_95 : decode cX4_groups 95 = .ok (.if_icmp .ne 7, 3) := by decide +kernel
theorem dX4_groups_98 : decode cX4_groups 98 = .ok (.iload_n 3, 1) := by decide +kernel
theorem dX4_groups_99 : decode cX4_groups 99 = .ok (.goto 5, 3) := by decide +kernel
theorem dX4_groups_102 : decode cX4_groups 102 = .ok (.iload 4, 2) := by decide +kernel
theorem dX4_groups_104 : decode cX4_groups 104 = .ok (.ireturn, 1) := by decide +kernel
set_option maxRecDepth 20000 in
theorem ggX4_dueAfter_X0_has : GoodIn wsX4_dueAfter wsX0_has := goodIn_r _ [8, 9, 40, 41, 42, 43, 44, 45, 46, 47, 48, 49, 50, 51, 52] (by decide +kernel) (by decide +kernel)
set_option maxRecDepth 20000 in
theorem gX4_dueAfter_X0_has : GoodIn wsX4_dueAfter (wsV RX4 120 RX0 yX0_has wsX0_has) := goodIn_app (goodIn_of _ (by decide +kernel)) ggX4_dueAfter_X0_has
set_option maxRecDepth 20000 in
theorem ggX4_dueAfter_X0_isIn : GoodIn wsX4_dueAfter wsX0_isIn := goodIn_r _ [13, 9, 40, 41, 42, 43, 44, 45, 46, 47, 48, 49, 50, 51, 52] (by decide +kernel) (by decide +kernel)
set_option maxRecDepth 20000 in
theorem gX4_dueAfter_X0_isIn : GoodIn wsX4_dueAfter (wsV RX4 180 RX0 yX0_isIn wsX0_isIn) := goodIn_app (goodIn_of _ (by decide +kernel)) ggX4_dueAfter_X0_isIn
set_option maxRecDepth 20000 in
theorem ggX4_dueAfter_X0_stepsUntilDue : GoodIn wsX4_dueAfter wsX0_stepsUntilDue := goodIn_r _ [17, 18, 19, 20, 21, 22, 23, 24, 25, 26, 27, 28, 29, 7, 30, 40, 41, 42, 43, 44, 45, 46, 47, 48, 49, 50, 51, 52] (by decide +kernel) (by decide +kernel)
set_option maxRecDepth 20000 in
theorem gX4_dueAfter_X0_stepsUntilDue : GoodIn wsX4_dueAfter (wsV RX4 237 RX0 yX0_stepsUntilDue wsX0_stepsUntilDue) := goodIn_app (goodIn_of _ (by decide +kernel)) ggX4_dueAfter_X0_stepsUntilDue
theorem dX4_dueAfter_0 : decode cX4_dueAfter 0 = .ok (.aload_n 0, 1) := by decide +kernel
theorem dX4_dueAfter_1 : decode cX4_dueAfter 1 = .ok (.getfield 10, 3) := by decide +kernel
theorem dX4_dueAfter_4 : decode cX4_dueAfter 4 = .ok (.iload_n 1, 1) := by decide +kernel
theorem dX4_dueAfter_5 : decode cX4_dueAfter 5 = .ok (.invokevirtual 120, 3) := by decide +kernel
theorem dX4_dueAfter_8 : decode cX4_dueAfter 8 = .ok (.ifCond .ne 13, 3) := by decide +kernel
theorem dX4_dueAfter_11 : decode cX4_dueAfter 11 = .ok (.new 124, 3) := by decide +kernel
theorem dX4_dueAfter_14 : decode cX4_dueAfter 14 = .ok (.dup, 1) := by decide +kernel
theorem dX4_dueAfter_15 : decode cX4_dueAfter 15 = .ok (.ldc 126, 2) := by decide +kernel
theorem dX4_dueAfter_17 : decode cX4_dueAfter 17 = .ok (.invokespecial 128, 3) := by decide +kernel
theorem dX4_dueAfter_20 : decode cX4_dueAfter 20 = .ok (.athrow, 1) := by decide +kernel
theorem dX4_dueAfter_21 : decode cX4_dueAfter 21 = .ok (.aload_n 0, 1) := by decide +kernel
theorem dX4_dueAfter_22 : decode cX4_dueAfter 22 = .ok (.getfield 10, 3) := by decide +kernel
theorem dX4_dueAfter_25 : decode cX4_dueAfter 25 = .ok (.iload_n 1, 1) := by decide +kernel
theorem dX4_dueAfter_26 : decode cX4_dueAfter 26 = .ok (.iconst 0, 1) := by decide +kernel
theorem dX4_dueAfter_27 : decode cX4_dueAfter 27 = .ok (.invokevirtual 180, 3) := by decide +kernel
theorem dX4_dueAfter_30 : decode cX4_dueAfter 30 = .ok (.ifCond .eq 14, 3) := by decide +kernel
theorem dX4_dueAfter_33 : decode cX4_dueAfter 33 = .ok (.aload_n 0, 1) := by decide +kernel
theorem dX4_dueAfter_34 : decode cX4_dueAfter 34 = .ok (.getfield 10, 3) := by decide +kernel
theorem dX4_dueAfter_37 : decode cX4_dueAfter 37 = .ok (.iload_n 1, 1) := by decide +kernel
theorem dX4_dueAfter_38 : decode cX4_dueAfter 38 = .ok (.invokevirtual 237, 3) := by decide +kernel
theorem dX4_dueAfter_41 : decode cX4_dueAfter 41 = .ok (.goto 5, 3) := by decide +kernel
theorem dX4_dueAfter_44 : decode cX4_dueAfter 44 = .ok (.bipush (-9), 2) := by decide +kernel
theorem dX4_dueAfter_46 : decode cX4_dueAfter 46 = .ok (.ireturn, 1) := by decide +kernel
theorem dX4_chance_0 : decode cX4_chance 0 = .ok (.iload_n 1, 1) := by decide +kernel
theorem dX4_chance_1 : decode cX4_chance 1 = .ok (.iconst 1, 1) := by decide +kernel
theorem dX4_chance_2 : decode cX4_chance 2 = .ok (.if_icmp .lt 9, 3) := by decide +kernel
theorem dX4_chance_5 : decode cX4_chance 5 = .ok (.iload_n 1, 1) := by decide +kernel
theorem dX4_chance_6 : decode cX4_chance 6 = .ok (.bipush 9, 2) := by decide +kernel
theorem dX4_chance_8 : decode cX4_chance 8 = .ok (.if_icmp .le 13, 3) := by decide +kernel
theorem dX4_chance_11 : decode cX4_chance 11 = .ok (.new 56, 3) := by decide +kernel
theorem dX4_chance_14 : decode cX4_chance 14 = .ok (.dup, 1) := by decide +kernel
theorem dX4_chance_15 : decode cX4_chance 15 = .ok (.ldc 240, 2) := by decide +kernel
theorem dX4_chance_17 : decode cX4_chance 17 = .ok (.invokespecial 60, 3) := by decide +kernel
theorem dX4_chance_20 : decode cX4_chance 20 = .ok (.athrow, 1) := by decide +kernel
theorem dX4_chance_21 : decode cX4_chance 21 = .ok (.aload_n 0, 1) := by decide +kernel
theorem dX4_chance_22 : decode cX4_chance 22 = .ok (.getfield 10, 3) := by decide +kernel
theorem dX4_chance_25 : decode cX4_chance 25 = .ok (.getfield 114, 3) := by decide +kernel
theorem dX4_chance_28 : decode cX4_chance 28 = .ok (.iconst 2, 1) := by decide +kernel
theorem dX4_chance_29 : decode cX4_chance 29 = .ok (.iaload, 1) := by decide +kernel
theorem dX4_chance_30 : decode cX4_chance 30 = .ok (.istore_n 3, 1) := by decide +kernel
theorem dX4_chance_31 : decode cX4_chance 31 = .ok (.iload_n 2, 1) := by decide +kernel
theorem dX4_chance_32 : decode cX4_chance 32 = .ok (.ifCond .eq 9, 3) := by decide +kernel
theorem dX4_chance_35 : decode cX4_chance 35 = .ok (.iload_n 3, 1) := by decide +kernel
theorem dX4_chance_36 : decode cX4_chance 36 = .ok (.iconst 1, 1) := by decide +kernel
theorem dX4_chance_37 : decode cX4_chance 37 = .ok (.isub, 1) := by decide +kernel
theorem dX4_chance_38 : decode cX4_chance 38 = .ok (.goto 4, 3) := by decide +kernel
theorem dX4_chance_41 : decode cX4_chance 41 = .ok (.iload_n 3, 1) := by decide +kernel
theorem dX4_chance_42 : decode cX4_chance 42 = .ok (.istore 4, 2) := by decide +kernel
theorem dX4_chance_44 : decode cX4_chance 44 = .ok (.iconst 1, 1) := by decide +kernel
theorem dX4_chance_45 : decode cX4_chance 45 = .ok (.istore 5, 2) := by decide +kernel
theorem dX4_chance_47 : decode cX4_chance 47 = .ok (.iconst 0, 1) := by decide +kernel
theorem dX4_chance_48 : decode cX4_chance 48 = .ok (.istore 6, 2) := by decide +kernel
theorem dX4_chance_50 : decode cX4_chance 50 = .ok (.iload 6, 2) := by decide +kernel
theorem dX4_chance_52 : decode cX4_chance 52 = .ok (.iload_n 1, 1) := by decide +kernel
theorem dX4_chance_53 : decode cX4_chance 53 = .ok (.if_icmp .ge 16, 3) := by decide +kernel
theorem dX4_chance_56 : decode cX4_chance 56 = .ok (.iload 5, 2) := by decide +kernel
theorem dX4_chance_58 : decode cX4_chance 58 = .ok (.iload 4, 2) := by decide +kernel
theorem dX4_chance_60 : decode cX4_chance 60 = .ok (.imul, 1) := by decide +kernel
theorem dX4_chance_61 : decode cX4_chance 61 = .ok (.istore 5, 2) := by decide +kernel
theorem dX4_chance_63 : decode cX4_chance 63 = .ok (.iinc 6 1, 3) := by decide +kernel
theorem dX4_chance_66 : decode cX4_chance 66 = .ok (.goto (-16), 3) := by decide +kernel
theorem dX4_chance_69 : decode cX4_chance 69 = .ok (.iload 5, 2) := by decide +kernel
theorem dX4_chance_71 : decode cX4_chance 71 = .ok (.ireturn, 1) := by decide +kernel
set_option maxRecDepth 20000 in
theorem ggX4_ahead_X0_has : GoodIn wsX4_ahead wsX0_has := goodIn_r _ [11, 12, 88, 89, 90, 91, 92, 93, 94, 95, 96, 97, 98, 99, 100] (by decide +kernel) (by decide +kernel)
set_option maxRecDepth 20000 in
theorem gX4_ahead_X0_has : GoodIn wsX4_ahead (wsV RX4 120 RX0 yX0_has wsX0_has) := goodIn_app (goodIn_of _ (by decide +kernel)) ggX4_ahead_X0_has
set_option maxRecDepth 20000 in
theorem ggX4_ahead_X4_isGripNumber : GoodIn wsX4_ahead wsX4_isGripNumber := goodIn_r _ [16] (by decide +kernel) (by decide +kernel)
set_option maxRecDepth 20000 in
theorem gX4_ahead_X4_isGripNumber : GoodIn wsX4_ahead (va_wsS RX4 129 yX4_isGripNumber wsX4_isGripNumber) := goodIn_app (goodIn_of _ (by decide +kernel)) ggX4_ahead_X4_isGripNumber
set_option maxRecDepth 20000 in
theorem ggX4_ahead_X0_become : GoodIn wsX4_ahead wsX0_become := goodIn_r _ [20, 21, 22, 23, 24, 25, 26, 27, 28, 29, 12, 30, 31, 32, 33, 34, 35, 36, 88, 89, 90, 91, 92, 93, 94, 95, 96, 97, 98, 99, 100] (by decide +kernel) (by decide +kernel)
set_option maxRecDepth 20000 in
theorem gX4_ahead_X0_become : GoodIn wsX4_ahead (wsV RX4 94 RX0 yX0_become wsX0_become) := goodIn_app (goodIn_of _ (by decide +kernel)) ggX4_ahead_X0_become
set_option maxRecDepth 20000 in
theorem ggX4_ahead_X0_advanceBy : GoodIn wsX4_ahead wsX0_advanceBy := goodIn_r _ [40, 41, 42, 43, 10, 44, 34, 33, 36, 45, 46, 35, 47, 48, 49, 50, 12, 30, 51, 52, 53, 54, 26, 27, 21, 32, 28, 29, 31, 55, 56, 57, 58, 59, 60, 61, 62, 63, 64, 65, 66, 67, 68, 69, 70, 71, 72, 73, 74, 88, 89, 90, 91, 92, 93, 94, 95, 96, 97, 98, 99, 100] (by decide +kernel) (by decide +kernel)
set_option maxRecDepth 20000 in
theorem gX4_ahead_X0_advanceBy : GoodIn wsX4_ahead (wsV RX4 167 RX0 yX0_advanceBy wsX0_advanceBy) := goodIn_app (goodIn_of _ (by decide +kernel)) ggX4_ahead_X0_advanceBy
set_option maxRecDepth 20000 in
theorem ggX4_ahead_X0_number : GoodIn wsX4_ahead wsX0_number := goodIn_r _ [78, 21, 26, 27, 28, 29, 12, 30, 31, 88, 89, 90, 91, 92, 93, 94, 95, 96, 97, 98, 99, 100] (by decide +kernel) (by decide +kernel)
set_option maxRecDepth 20000 in
theorem gX4_ahead_X0_number : GoodIn wsX4_ahead (wsV RX4 134 RX0 yX0_number wsX0_number) := goodIn_app (goodIn_of _ (by decide +kernel)) ggX4_ahead_X0_number
theorem dX4_ahead_0 : decode cX4_ahead 0 = .ok (.aload_n 0, 1) := by decide +kernel
theorem dX4_ahead_1 : decode cX4_ahead 1 = .ok (.getfield 10, 3) := by decide +kernel
theorem dX4_ahead_4 : decode cX4_ahead 4 = .ok (.iload_n 1, 1) := by decide +kernel
theorem dX4_ahead_5 : decode cX4_ahead 5 = .ok (.invokevirtual 120, 3) := by decide +kernel
theorem dX4_ahead_8 : decode cX4_ahead 8 = .ok (.ifCond .ne 13, 3) := by decide +kernel
theorem dX4_ahead_11 : decode cX4_ahead 11 = .ok (.new 124, 3) := by decide +kernel
theorem dX4_ahead_14 : decode cX4_ahead 14 = .ok (.dup, 1) := by decide +kernel
theorem dX4_ahead_15 : decode cX4_ahead 15 = .ok (.ldc 126, 2) := by decide +kernel
theorem dX4_ahead_17 : decode cX4_ahead 17 = .ok (.invokespecial 128, 3) := by decide +kernel
theorem dX4_ahead_20 : decode cX4_ahead 20 = .ok (.athrow, 1) := by decide +kernel
theorem dX4_ahead_21 : decode cX4_ahead 21 = .ok (.iload_n 2, 1) := by decide +kernel
theorem dX4_ahead_22 : decode cX4_ahead 22 = .ok (.ifCond .lt 9, 3) := by decide +kernel
theorem dX4_ahead_25 : decode cX4_ahead 25 = .ok (.iload_n 2, 1) := by decide +kernel
theorem dX4_ahead_26 : decode cX4_ahead 26 = .ok (.bipush 99, 2) := by decide +kernel
theorem dX4_ahead_28 : decode cX4_ahead 28 = .ok (.if_icmp .le 13, 3) := by decide +kernel
theorem dX4_ahead_31 : decode cX4_ahead 31 = .ok (.new 56, 3) := by decide +kernel
theorem dX4_ahead_34 : decode cX4_ahead 34 = .ok (.dup, 1) := by decide +kernel
theorem dX4_ahead_35 : decode cX4_ahead 35 = .ok (.ldc 242, 2) := by decide +kernel
theorem dX4_ahead_37 : decode cX4_ahead 37 = .ok (.invokespecial 60, 3) := by decide +kernel
theorem dX4_ahead_40 : decode cX4_ahead 40 = .ok (.athrow, 1) := by decide +kernel
theorem dX4_ahead_41 : decode cX4_ahead 41 = .ok (.iload_n 3, 1) := by decide +kernel
theorem dX4_ahead_42 : decode cX4_ahead 42 = .ok (.invokestatic 129, 3) := by decide +kernel
theorem dX4_ahead_45 : decode cX4_ahead 45 = .ok (.ifCond .ne 13, 3) := by decide +kernel
theorem dX4_ahead_48 : decode cX4_ahead 48 = .ok (.new 56, 3) := by decide +kernel
theorem dX4_ahead_51 : decode cX4_ahead 51 = .ok (.dup, 1) := by decide +kernel
theorem dX4_ahead_52 : decode cX4_ahead 52 = .ok (.ldc 132, 2) := by decide +kernel
theorem dX4_ahead_54 : decode cX4_ahead 54 = .ok (.invokespecial 60, 3) := by decide +kernel
theorem dX4_ahead_57 : decode cX4_ahead 57 = .ok (.athrow, 1) := by decide +kernel
theorem dX4_ahead_58 : decode cX4_ahead 58 = .ok (.aload_n 0, 1) := by decide +kernel
theorem dX4_ahead_59 : decode cX4_ahead 59 = .ok (.getfield 16, 3) := by decide +kernel
theorem dX4_ahead_62 : decode cX4_ahead 62 = .ok (.aload_n 0, 1) := by decide +kernel
theorem dX4_ahead_63 : decode cX4_ahead 63 = .ok (.getfield 10, 3) := by decide +kernel
theorem dX4_ahead_66 : decode cX4_ahead 66 = .ok (.invokevirtual 94, 3) := by decide +kernel
theorem dX4_ahead_69 : decode cX4_ahead 69 = .ok (.aload_n 0, 1) := by decide +kernel
theorem dX4_ahead_70 : decode cX4_ahead 70 = .ok (.getfield 16, 3) := by decide +kernel
theorem dX4_ahead_73 : decode cX4_ahead 73 = .ok (.iload_n 2, 1) := by decide +kernel
theorem dX4_ahead_74 : decode cX4_ahead 74 = .ok (.invokevirtual 167, 3) := by decide +kernel
theorem dX4_ahead_77 : decode cX4_ahead 77 = .ok (.aload_n 0, 1) := by decide +kernel
theorem dX4_ahead_78 : decode cX4_ahead 78 = .ok (.getfield 16, 3) := by decide +kernel
theorem dX4_ahead_81 : decode cX4_ahead 81 = .ok (.iload_n 1, 1) := by decide +kernel
theorem dX4_ahead_82 : decode cX4_ahead 82 = .ok (.iload_n 3, 1) := by decide +kernel
theorem dX4_ahead_83 : decode cX4_ahead 83 = .ok (.invokevirtual 134, 3) := by decide +kernel
theorem dX4_ahead_86 : decode cX4_ahead 86 = .ok (.ireturn, 1) := by decide +kernel
set_option maxRecDepth 20000 in
theorem ggX4_happens_X4_isStepNumber : GoodIn wsX4_happens wsX4_isStepNumber := goodIn_r _ [8] (by decide +kernel) (by decide +kernel)
set_option maxRecDepth 20000 in
theorem gX4_happens_X4_isStepNumber : GoodIn wsX4_happens (va_wsS RX4 159 yX4_isStepNumber wsX4_isStepNumber) := goodIn_app (goodIn_of _ (by decide +kernel)) ggX4_happens_X4_isStepNumber
set_option maxRecDepth 20000 in
theorem ggX4_happens_X0_become : GoodIn wsX4_happens wsX0_become := goodIn_r _ [13, 14, 15, 16, 17, 18, 19, 20, 21, 22, 23, 24, 25, 26, 27, 28, 29, 30, 74, 75, 76, 77, 78, 79, 80, 81, 82, 83, 84, 85, 86] (by decide +kernel) (by decide +kernel)
set_option maxRecDepth 20000 in
theorem gX4_happens_X0_become : GoodIn wsX4_happens (wsV RX4 94 RX0 yX0_become wsX0_become) := goodIn_app (goodIn_of _ (by decide +kernel)) ggX4_happens_X0_become
set_option maxRecDepth 20000 in
theorem ggX4_happens_X0_advance : GoodIn wsX4_happens wsX0_advance := goodIn_r _ [34, 28, 27, 30, 35, 36, 29, 37, 38, 39, 12, 40, 23, 24, 41, 42, 43, 44, 19, 20, 14, 26, 21, 22, 25, 45, 46, 47, 48, 49, 50, 51, 52, 53, 54, 55, 56, 57, 58, 59, 60, 61, 62, 63, 64, 74, 75, 76, 77, 78, 79, 80, 81, 82, 83, 84, 85, 86] (by decide +kernel) (by decide +kernel)
set_option maxRecDepth 20000 in
theorem gX4_happens_X0_advance : GoodIn wsX4_happens (wsV RX4 246 RX0 yX0_advance wsX0_advance) := goodIn_app (goodIn_of _ (by decide +kernel)) ggX4_happens_X0_advance
theorem dX4_happens_0 : decode cX4_happens 0 = .ok (.iload_n 1, 1) := by decide +kernel
theorem dX4_happens_1 : decode cX4_happens 1 = .ok (.invokestatic 159, 3) := by decide +kernel
theorem dX4_happens_4 : decode cX4_happens 4 = .ok (.ifCond .eq 12, 3) := by decide +kernel
theorem dX4_happens_7 : decode cX4_happens 7 = .ok (.iload_n 2, 1) := by decide +kernel
theorem dX4_happens_8 : decode cX4_happens 8 = .ok (.ifCond .lt 8, 3) := by decide +kernel
theorem dX4_happens_11 : decode cX4_happens 11 = .ok (.iload_n 2, 1) := by decide +kernel
theorem dX4_happens_12 : decode cX4_happens 12 = .ok (.iconst 3, 1) := by decide +kernel
theorem dX4_happens_13 : decode cX4_happens 13 = .ok (.if_icmp .le 13, 3) := by decide +kernel
theorem dX4_happens_16 : decode cX4_happens 16 = .ok (.new 56, 3) := by decide +kernel
theorem dX4_happens_19 : decode cX4_happens 19 = .ok (.dup, 1) := by decide +kernel
theorem dX4_happens_20 : decode cX4_happens 20 = .ok (.ldc 244, 2) := by decide +kernel
theorem dX4_happens_22 : decode cX4_happens 22 = .ok (.invokespecial 60, 3) := by decide +kernel
theorem dX4_happens_25 : decode cX4_happens 25 = .ok (.athrow, 1) := by decide +kernel
theorem dX4_happens_26 : decode cX4_happens 26 = .ok (.aload_n 0, 1) := by decide +kernel
theorem dX4_happens_27 : decode cX4_happens 27 = .ok (.getfield 16, 3) := by decide +kernel
theorem dX4_happens_30 : decode cX4_happens 30 = .ok (.aload_n 0, 1) := by decide +kernel
theorem dX4_happens_31 : decode cX4_happens 31 = .ok (.getfield 10, 3) := by decide +kernel
theorem dX4_happens_34 : decode cX4_happens 34 = .ok (.invokevirtual 94, 3) := by decide +kernel
theorem dX4_happens_37 : decode cX4_happens 37 = .ok (.iconst 0, 1) := by decide +kernel
theorem dX4_happens_38 : decode cX4_happens 38 = .ok (.istore_n 3, 1) := by decide +kernel
theorem dX4_happens_39 : decode cX4_happens 39 = .ok (.iconst 0, 1) := by decide +kernel
theorem dX4_happens_40 : decode cX4_happens 40 = .ok (.istore 4, 2) := by decide +kernel
theorem dX4_happens_42 : decode cX4_happens 42 = .ok (.iload 4, 2) := by decide +kernel
theorem dX4_happens_44 : decode cX4_happens 44 = .ok (.iload_n 1, 1) := by decide +kernel
theorem dX4_happens_45 : decode cX4_happens 45 = .ok (.if_icmp .ge 23, 3) := by decide +kernel
theorem dX4_happens_48 : decode cX4_happens 48 = .ok (.iload_n 3, 1) := by decide +kernel
theorem dX4_happens_49 : decode cX4_happens 49 = .ok (.aload_n 0, 1) := by decide +kernel
theorem dX4_happens_50 : decode cX4_happens 50 = .ok (.getfield 16, 3) := by decide +kernel
theorem dX4_happens_53 : decode cX4_happens 53 = .ok (.invokevirtual 246, 3) := by decide +kernel
theorem dX4_happens_56 : decode cX4_happens 56 = .ok (.iload_n 2, 1) := by decide +kernel
theorem dX4_happens_57 : decode cX4_happens 57 = .ok (.ishr, 1) := by decide +kernel
theorem dX4_happens_58 : decode cX4_happens 58 = .ok (.iconst 1, 1) := by decide +kernel
theorem dX4_happens_59 : decode cX4_happens 59 = .ok (.iand, 1) := by decide +kernel
theorem dX4_happens_60 : decode cX4_happens 60 = .ok (.iadd, 1) := by decide +kernel
theorem dX4_happens_61 : decode cX4_happens 61 = .ok (.istore_n 3, 1) := by decide +kernel
theorem dX4_happens_62 : decode cX4_happens 62 = .ok (.iinc 4 1, 3) := by decide +kernel
theorem dX4_happens_65 : decode cX4_happens 65 = .ok (.goto (-23), 3) := by decide +kernel
theorem dX4_happens_68 : decode cX4_happens 68 = .ok (.iload_n 3, 1) := by decide +kernel
theorem dX4_happens_69 : decode cX4_happens 69 = .ok (.ireturn, 1) := by decide +kernel
set_option maxRecDepth 20000 in
theorem ggX4_bestLimit_X4_isStepNumber : GoodIn wsX4_bestLimit wsX4_isStepNumber := goodIn_r _ [7] (by decide +kernel) (by decide +kernel)
set_option maxRecDepth 20000 in
theorem gX4_bestLimit_X4_isStepNumber : GoodIn wsX4_bestLimit (va_wsS RX4 159 yX4_isStepNumber wsX4_isStepNumber) := goodIn_app (goodIn_of _ (by decide +kernel)) ggX4_bestLimit_X4_isStepNumber
set_option maxRecDepth 20000 in
theorem ggX4_bestLimit_X4_isSlipFree : GoodIn wsX4_bestLimit wsX4_isSlipFree := goodIn_r _ [11, 12, 13, 14, 15, 16, 17, 18, 19, 20, 21, 22, 23, 24, 25, 26, 27, 28, 29, 30, 31, 32, 33, 34, 35, 36, 37, 38, 39, 40, 41, 42, 43, 44, 45, 46, 47, 48, 49, 50, 51, 52, 53, 54, 55, 56, 57, 58, 59, 60, 61, 62, 63, 64, 65, 66, 67, 68, 69, 70, 71, 72, 73, 74, 75, 76, 77, 78, 79, 80, 81, 82, 83, 84, 85, 86, 87, 88, 89, 90, 91, 92] (by decide +kernel) (by decide +kernel)
set_option maxRecDepth 20000 in
theorem gX4_bestLimit_X4_isSlipFree : GoodIn wsX4_bestLimit (wsV RX4 252 RX4 yX4_isSlipFree wsX4_isSlipFree) := goodIn_app (goodIn_of _ (by decide +kernel)) ggX4_bestLimit_X4_isSlipFree
theorem dX4_bestLimit_0 : decode cX4_bestLimit 0 = .ok (.iload_n 1, 1) := by decide +kernel
theorem dX4_bestLimit_1 : decode cX4_bestLimit 1 = .ok (.invokestatic 159, 3) := by decide +kernel
theorem dX4_bestLimit_4 : decode cX4_bestLimit 4 = .ok (.ifCond .ne 13, 3) := by decide +kernel
theorem dX4_bestLimit_7 : decode cX4_bestLimit 7 = .ok (.new 56, 3) := by decide +kernel
theorem dX4_bestLimit_10 : decode cX4_bestLimit 10 = .ok (.dup, 1) := by decide +kernel
theorem dX4_bestLimit_11 : decode cX4_bestLimit 11 = .ok (.ldc 162, 2) := by decide +kernel
theorem dX4_bestLimit_13 : decode cX4_bestLimit 13 = .ok (.invokespecial 60, 3) := by decide +kernel
theorem dX4_bestLimit_16 : decode cX4_bestLimit 16 = .ok (.athrow, 1) := by decide +kernel
theorem dX4_bestLimit_17 : decode cX4_bestLimit 17 = .ok (.getstatic 249, 3) := by decide +kernel
theorem dX4_bestLimit_20 : decode cX4_bestLimit 20 = .ok (.iconst 0, 1) := by decide +kernel
theorem dX4_bestLimit_21 : decode cX4_bestLimit 21 = .ok (.iaload, 1) := by decide +kernel
theorem dX4_bestLimit_22 : decode cX4_bestLimit 22 = .ok (.istore_n 2, 1) := by decide +kernel
theorem dX4_bestLimit_23 : decode cX4_bestLimit 23 = .ok (.iload_n 2, 1) := by decide +kernel
theorem dX4_bestLimit_24 : decode cX4_bestLimit 24 = .ok (.iconst 1, 1) := by decide +kernel
theorem dX4_bestLimit_25 : decode cX4_bestLimit 25 = .ok (.if_icmp .lt 20, 3) := by decide +kernel
theorem dX4_bestLimit_28 : decode cX4_bestLimit 28 = .ok (.aload_n 0, 1) := by decide +kernel
theorem dX4_bestLimit_29 : decode cX4_bestLimit 29 = .ok (.iload_n 2, 1) := by decide +kernel
theorem dX4_bestLimit_30 : decode cX4_bestLimit 30 = .ok (.iload_n 1, 1) := by decide +kernel
theorem dX4_bestLimit_31 : decode cX4_bestLimit 31 = .ok (.invokevirtual 252, 3) := by decide +kernel
theorem dX4_bestLimit_34 : decode cX4_bestLimit 34 = .ok (.ifCond .eq 5, 3) := by decide +kernel
theorem dX4_bestLimit_37 : decode cX4_bestLimit 37 = .ok (.iload_n 2, 1) := by decide +kernel
theorem dX4_bestLimit_38 : decode cX4_bestLimit 38 = .ok (.ireturn, 1) := by decide +kernel
theorem dX4_bestLimit_39 : decode cX4_bestLimit 39 = .ok (.iinc 2 (-1), 3) := by decide +kernel
theorem dX4_bestLimit_42 : decode cX4_bestLimit 42 = .ok (.goto (-19), 3) := by decide +kernel
theorem dX4_bestLimit_45 : decode cX4_bestLimit 45 = .ok (.bipush (-9), 2) := by decide +kernel
theorem dX4_bestLimit_47 : decode cX4_bestLimit 47 = .ok (.ireturn, 1) := by decide +kernel
set_option maxRecDepth 20000 in
theorem ggX4_emptyAfter_X0_become : GoodIn wsX4_emptyAfter wsX0_become := goodIn_r _ [7, 8, 9, 10, 11, 12, 13, 14, 15, 16, 17, 18, 19, 20, 21, 22, 23, 24, 72, 73, 74, 75, 76, 77, 78, 79, 80, 81, 82, 83, 84] (by decide +kernel) (by decide +kernel)
set_option maxRecDepth 20000 in
theorem gX4_emptyAfter_X0_become : GoodIn wsX4_emptyAfter (wsV RX4 94 RX0 yX0_become wsX0_become) := goodIn_app (goodIn_of _ (by decide +kernel)) ggX4_emptyAfter_X0_become
set_option maxRecDepth 20000 in
theorem ggX4_emptyAfter_X0_count : GoodIn wsX4_emptyAfter wsX0_count := goodIn_r _ [28, 17, 72, 73, 74, 75, 76, 77, 78, 79, 80, 81, 82, 83, 84] (by decide +kernel) (by decide +kernel)
set_option maxRecDepth 20000 in
theorem gX4_emptyAfter_X0_count : GoodIn wsX4_emptyAfter (wsV RX4 104 RX0 yX0_count wsX0_count) := goodIn_app (goodIn_of _ (by decide +kernel)) ggX4_emptyAfter_X0_count
set_option maxRecDepth 20000 in
theorem ggX4_emptyAfter_X0_advance : GoodIn wsX4_emptyAfter wsX0_advance := goodIn_r _ [32, 22, 21, 24, 33, 34, 23, 35, 36, 37, 6, 38, 17, 18, 39, 40, 41, 42, 13, 14, 8, 20, 15, 16, 19, 43, 44, 45, 46, 47, 48, 49, 50, 51, 52, 53, 54, 55, 56, 57, 58, 59, 60, 61, 62, 72, 73, 74, 75, 76, 77, 78, 79, 80, 81, 82, 83, 84] (by decide +kernel) (by decide +kernel)
set_option maxRecDepth 20000 in
theorem gX4_emptyAfter_X0_advance : GoodIn wsX4_emptyAfter (wsV RX4 246 RX0 yX0_advance wsX0_advance) := goodIn_app (goodIn_of _ (by decide +kernel)) ggX4_emptyAfter_X0_advance
theorem dX4_emptyAfter_0 : decode cX4_emptyAfter 0 = .ok (.aload_n 0, 1) := by decide +kernel
theorem dX4_emptyAfter_1 : decode cX4_emptyAfter 1 = .ok (.getfield 16, 3) := by decide +kernel
theorem dX4_emptyAfter_4 : decode cX4_emptyAfter 4 = .ok (.aload_n 0, 1) := by decide +kernel
theorem dX4_emptyAfter_5 : decode cX4_emptyAfter 5 = .ok (.getfield 10, 3) := by decide +kernel
theorem dX4_emptyAfter_8 : decode cX4_emptyAfter 8 = .ok (.invokevirtual 94, 3) := by decide +kernel
theorem dX4_emptyAfter_11 : decode cX4_emptyAfter 11 = .ok (.iconst 0, 1) := by decide +kernel
theorem dX4_emptyAfter_12 : decode cX4_emptyAfter 12 = .ok (.istore_n 1, 1) := by decide +kernel
theorem dX4_emptyAfter_13 : decode cX4_emptyAfter 13 = .ok (.iload_n 1, 1) := by decide +kernel
theorem dX4_emptyAfter_14 : decode cX4_emptyAfter 14 = .ok (.sipush 150, 3) := by decide +kernel
theorem dX4_emptyAfter_17 : decode cX4_emptyAfter 17 = .ok (.if_icmp .gt 30, 3) := by decide +kernel
theorem dX4_emptyAfter_20 : decode cX4_emptyAfter 20 = .ok (.aload_n 0, 1) := by decide +kernel
theorem dX4_emptyAfter_21 : decode cX4_emptyAfter 21 = .ok (.getfield 16, 3) := by decide +kernel
theorem dX4_emptyAfter_24 : decode cX4_emptyAfter 24 = .ok (.iconst 0, 1) := by decide +kernel
theorem dX4_emptyAfter_25 : decode cX4_emptyAfter 25 = .ok (.invokevirtual 104, 3) := by decide +kernel
theorem dX4_emptyAfter_28 : decode cX4_emptyAfter 28 = .ok (.ifCond .ne 5, 3) := by decide +kernel
theorem dX4_emptyAfter_31 : decode cX4_emptyAfter 31 = .ok (.iload_n 1, 1) := by decide +kernel
theorem dX4_emptyAfter_32 : decode cX4_emptyAfter 32 = .ok (.ireturn, 1) := by decide +kernel
theorem dX4_emptyAfter_33 : decode cX4_emptyAfter 33 = .ok (.aload_n 0, 1) := by decide +kernel
theorem dX4_emptyAfter_34 : decode cX4_emptyAfter 34 = .ok (.getfield 16, 3) := by decide +kernel
theorem dX4_emptyAfter_37 : decode cX4_emptyAfter 37 = .ok (.invokevirtual 246, 3) := by decide +kernel
theorem dX4_emptyAfter_40 : decode cX4_emptyAfter 40 = .ok (.pop, 1) := by decide +kernel
theorem dX4_emptyAfter_41 : decode cX4_emptyAfter 41 = .ok (.iinc 1 1, 3) := by decide +kernel
theorem dX4_emptyAfter_44 : decode cX4_emptyAfter 44 = .ok (.goto (-31), 3) := by decide +kernel
theorem dX4_emptyAfter_47 : decode cX4_emptyAfter 47 = .ok (.bipush (-9), 2) := by decide +kernel
theorem dX4_emptyAfter_49 : decode cX4_emptyAfter 49 = .ok (.ireturn, 1) := by decide +kernel
set_option maxRecDepth 20000 in
theorem ggX4_runScript_X4_groupPower : GoodIn wsX4_runScript wsX4_groupPower := goodIn_r _ [8, 9] (by decide +kernel) (by decide +kernel)
set_option maxRecDepth 20000 in
theorem gX4_runScript_X4_groupPower : GoodIn wsX4_runScript (va_wsS RX4 257 yX4_groupPower wsX4_groupPower) := goodIn_app (goodIn_of _ (by decide +kernel)) ggX4_runScript_X4_groupPower
set_option maxRecDepth 20000 in
theorem ggX4_runScript_X0_become : GoodIn wsX4_runScript wsX0_become := goodIn_r _ [14, 15, 16, 17, 18, 19, 20, 21, 22, 23, 24, 25, 26, 27, 28, 29, 30, 31, 130, 131, 132, 133, 134, 135, 136, 137, 138, 139, 140, 141, 142] (by decide +kernel) (by decide +kernel)
set_option maxRecDepth 20000 in
theorem gX4_runScript_X0_become : GoodIn wsX4_runScript (wsV RX4 94 RX0 yX0_become wsX0_become) := goodIn_app (goodIn_of _ (by decide +kernel)) ggX4_runScript_X0_become
set_option maxRecDepth 20000 in
theorem ggX4_runScript_X4_groupAt : GoodIn wsX4_runScript wsX4_groupAt := goodIn_r _ [34, 9] (by decide +kernel) (by decide +kernel)
set_option maxRecDepth 20000 in
theorem gX4_runScript_X4_groupAt : GoodIn wsX4_runScript (va_wsS RX4 263 yX4_groupAt wsX4_groupAt) := goodIn_app (goodIn_of _ (by decide +kernel)) ggX4_runScript_X4_groupAt
set_option maxRecDepth 20000 in
theorem ggX4_runScript_X4_obeys : GoodIn wsX4_runScript wsX4_obeys := goodIn_r _ [38, 3, 39, 40, 41, 42, 7, 43, 44, 45, 46, 13, 47, 48, 49, 50, 51, 29, 28, 31, 52, 53, 30, 54, 55, 56, 57, 24, 25, 58, 59, 60, 61, 20, 21, 15, 27, 22, 23, 26, 62, 63, 64, 65, 66, 67, 68, 69, 70, 71, 72, 73, 74, 75, 76, 77, 78, 79, 80, 81, 82, 83, 84, 85, 86, 87, 88, 89, 90, 91, 92, 93, 94, 95, 96, 97, 98, 99, 100, 101, 102, 103, 104, 105, 106, 107, 108, 109, 110, 111, 112, 113, 114, 115, 116, 117, 118, 119, 120, 121, 122, 123, 124, 125, 126, 127, 128, 129, 130, 131, 132, 133, 134, 135, 136, 137, 138, 139, 140, 141, 142] (by decide +kernel) (by decide +kernel)
set_option maxRecDepth 20000 in
theorem gX4_runScript_X4_obeys : GoodIn wsX4_runScript (wsV RX4 267 RX4 yX4_obeys wsX4_obeys) := goodIn_app (goodIn_of _ (by decide +kernel)) ggX4_runScript_X4_obeys
theorem dX4_runScript_0 : decode cX4_runScript 0 = .ok (.iload_n 1, 1) := by decide +kernel
theorem dX4_runScript_1 : decode cX4_runScript 1 = .ok (.iconst 1, 1) := by decide +kernel
theorem dX4_runScript_2 : decode cX4_runScript 2 = .ok (.if_icmp .lt 8, 3) := by decide +kernel
theorem dX4_runScript_5 : decode cX4_runScript 5 = .ok (.iload_n 1, 1) := by decide +kernel
theorem dX4_runScript_6 : decode cX4_runScript 6 = .ok (.iconst 3, 1) := by decide +kernel
theorem dX4_runScript_7 : decode cX4_runScript 7 = .ok (.if_icmp .le 13, 3) := by decide +kernel
theorem dX4_runScript_10 : decode cX4_runScript 10 = .ok (.new 56, 3) := by decide +kernel
theorem dX4_runScript_13 : decode cX4_runScript 13 = .ok (.dup, 1) := by decide +kernel
theorem dX4_runScript_14 : decode cX4_runScript 14 = .ok (.ldc 255, 2) := by decide +kernel
theorem dX4_runScript_16 : decode cX4_runScript 16 = .ok (.invokespecial 60, 3) := by decide +kernel
theorem dX4_runScript_19 : decode cX4_runScript 19 = .ok (.athrow, 1) := by decide +kernel
theorem dX4_runScript_20 : decode cX4_runScript 20 = .ok (.lload_n 2, 1) := by decide +kernel
theorem dX4_runScript_21 : decode cX4_runScript 21 = .ok (.lconst 0, 1) := by decide +kernel
theorem dX4_runScript_22 : decode cX4_runScript 22 = .ok (.lcmp, 1) := by decide +kernel
theorem dX4_runScript_23 : decode cX4_runScript 23 = .ok (.ifCond .lt 12, 3) := by decide +kernel
theorem dX4_runScript_26 : decode cX4_runScript 26 = .ok (.lload_n 2, 1) := by decide +kernel
theorem dX4_runScript_27 : decode cX4_runScript 27 = .ok (.iload_n 1, 1) := by decide +kernel
theorem dX4_runScript_28 : decode cX4_runScript 28 = .ok (.invokestatic 257, 3) := by decide +kernel
theorem dX4_runScript_31 : decode cX4_runScript 31 = .ok (.lcmp, 1) := by decide +kernel
theorem dX4_runScript_32 : decode cX4_runScript 32 = .ok (.ifCond .lt 14, 3) := by decide +kernel
theorem dX4_runScript_35 : decode cX4_runScript 35 = .ok (.new 56, 3) := by decide +kernel
theorem dX4_runScript_38 : decode cX4_runScript 38 = .ok (.dup, 1) := by decide +kernel
theorem dX4_runScript_39 : decode cX4_runScript 39 = .ok (.ldc_w 261, 3) := by decide +kernel
theorem dX4_runScript_42 : decode cX4_runScript 42 = .ok (.invokespecial 60, 3) := by decide +kernel
theorem dX4_runScript_45 : decode cX4_runScript 45 = .ok (.athrow, 1) := by decide +kernel
theorem dX4_runScript_46 : decode cX4_runScript 46 = .ok (.aload_n 0, 1) := by decide +kernel
theorem dX4_runScript_47 : decode cX4_runScript 47 = .ok (.getfield 16, 3) := by decide +kernel
theorem dX4_runScript_50 : decode cX4_runScript 50 = .ok (.aload_n 0, 1) := by decide +kernel
theorem dX4_runScript_51 : decode cX4_runScript 51 = .ok (.getfield 10, 3) := by decide +kernel
theorem dX4_runScript_54 : decode cX4_runScript 54 = .ok (.invokevirtual 94, 3) := by decide +kernel
theorem dX4_runScript_57 : decode cX4_runScript 57 = .ok (.iconst 0, 1) := by decide +kernel
theorem dX4_runScript_58 : decode cX4_runScript 58 = .ok (.istore 4, 2) := by decide +kernel
theorem dX4_runScript_60 : decode cX4_runScript 60 = .ok (.iload 4, 2) := by decide +kernel
theorem dX4_runScript_62 : decode cX4_runScript 62 = .ok (.iload_n 1, 1) := by decide +kernel
theorem dX4_runScript_63 : decode cX4_runScript 63 = .ok (.if_icmp .ge 29, 3) := by decide +kernel
theorem dX4_runScript_66 : decode cX4_runScript 66 = .ok (.aload_n 0, 1) := by decide +kernel
theorem dX4_runScript_67 : decode cX4_runScript 67 = .ok (.lload_n 2, 1) := by decide +kernel
theorem dX4_runScript_68 : decode cX4_runScript 68 = .ok (.iload_n 1, 1) := by decide +kernel
theorem dX4_runScript_69 : decode cX4_runScript 69 = .ok (.iconst 1, 1) := by decide +kernel
theorem dX4_runScript_70 : decode cX4_runScript 70 = .ok (.isub, 1) := by decide +kernel
theorem dX4_runScript_71 : decode cX4_runScript 71 = .ok (.iload 4, 2) := by decide +kernel
theorem dX4_runScript_73 : decode cX4_runScript 73 = .ok (.isub, 1) := by decide +kernel
theorem dX4_runScript_74 : decode cX4_runScript 74 = .ok (.invokestatic 263, 3) := by decide +kernel
theorem dX4_runScript_77 : decode cX4_runScript 77 = .ok (.invokevirtual 267, 3) := by decide +kernel
theorem dX4_runScript_80 : decode cX4_runScript 80 = .ok (.ifCond .ne 6, 3) := by decide +kernel
theorem dX4_runScript_83 : decode cX4_runScript 83 = .ok (.iload 4, 2) := by decide +kernel
theorem dX4_runScript_85 : decode cX4_runScript 85 = .ok (.ireturn, 1) := by decide +kernel
theorem dX4_runScript_86 : decode cX4_runScript 86 = .ok (.iinc 4 1, 3) := by decide +kernel
theorem dX4_runScript_89 : decode cX4_runScript 89 = .ok (.goto (-29), 3) := by decide +kernel
theorem dX4_runScript_92 : decode cX4_runScript 92 = .ok (.bipush (-9), 2) := by decide +kernel
theorem dX4_runScript_94 : decode cX4_runScript 94 = .ok (.ireturn, 1) := by decide +kernel
set_option maxRecDepth 20000 in
theorem ggX4_simulate_X4_isStepNumber : GoodIn wsX4_simulate wsX4_isStepNumber := goodIn_r _ [9] (by decide +kernel) (by decide +kernel)
set_option maxRecDepth 20000 in
theorem gX4_simulate_X4_isStepNumber : GoodIn wsX4_simulate (va_wsS RX4 159 yX4_isStepNumber wsX4_isStepNumber) := goodIn_app (goodIn_of _ (by decide +kernel)) ggX4_simulate_X4_isStepNumber
set_option maxRecDepth 20000 in
theorem ggX4_simulate_X0_become : GoodIn wsX4_simulate wsX0_become := goodIn_r _ [14, 15, 16, 17, 18, 19, 20, 21, 22, 23, 24, 25, 26, 27, 28, 29, 30, 31, 87, 88, 89, 90, 91, 92, 93, 94, 95, 96, 97, 98, 99] (by decide +kernel) (by decide +kernel)
set_option maxRecDepth 20000 in
theorem gX4_simulate_X0_become : GoodIn wsX4_simulate (wsV RX4 94 RX0 yX0_become wsX0_become) := goodIn_app (goodIn_of _ (by decide +kernel)) ggX4_simulate_X0_become
set_option maxRecDepth 20000 in
theorem ggX4_simulate_X0_advanceBy : GoodIn wsX4_simulate wsX0_advanceBy := goodIn_r _ [35, 36, 37, 38, 13, 39, 29, 28, 31, 40, 41, 30, 42, 43, 44, 45, 24, 25, 46, 47, 48, 49, 20, 21, 15, 27, 22, 23, 26, 50, 51, 52, 53, 54, 55, 56, 57, 58, 59, 60, 61, 62, 63, 64, 65, 66, 67, 68, 69, 87, 88, 89, 90, 91, 92, 93, 94, 95, 96, 97, 98, 99] (by decide +kernel) (by decide +kernel)
set_option maxRecDepth 20000 in
theorem gX4_simulate_X0_advanceBy : GoodIn wsX4_simulate (wsV RX4 167 RX0 yX0_advanceBy wsX0_advanceBy) := goodIn_app (goodIn_of _ (by decide +kernel)) ggX4_simulate_X0_advanceBy
set_option maxRecDepth 20000 in
theorem ggX4_simulate_X0_allPulls : GoodIn wsX4_simulate wsX0_allPulls := goodIn_r _ [73, 24, 22, 87, 88, 89, 90, 91, 92, 93, 94, 95, 96, 97, 98, 99] (by decide +kernel) (by decide +kernel)
set_option maxRecDepth 20000 in
theorem gX4_simulate_X0_allPulls : GoodIn wsX4_simulate (wsV RX4 270 RX0 yX0_allPulls wsX0_allPulls) := goodIn_app (goodIn_of _ (by decide +kernel)) ggX4_simulate_X0_allPulls
set_option maxRecDepth 20000 in
theorem ggX4_simulate_X0_count : GoodIn wsX4_simulate wsX0_count := goodIn_r _ [77, 24, 87, 88, 89, 90, 91, 92, 93, 94, 95, 96, 97, 98, 99] (by decide +kernel) (by decide +kernel)
set_option maxRecDepth 20000 in
theorem gX4_simulate_X0_count : GoodIn wsX4_simulate (wsV RX4 104 RX0 yX0_count wsX0_count) := goodIn_app (goodIn_of _ (by decide +kernel)) ggX4_simulate_X0_count
theorem dX4_simulate_0 : decode cX4_simulate 0 = .ok (.iload_n 3, 1) := by decide +kernel
theorem dX4_simulate_1 : decode cX4_simulate 1 = .ok (.invokestatic 159, 3) := by decide +kernel
theorem dX4_simulate_4 : decode cX4_simulate 4 = .ok (.ifCond .ne 13, 3) := by decide +kernel
theorem dX4_simulate_7 : decode cX4_simulate 7 = .ok (.new 56, 3) := by decide +kernel
theorem dX4_simulate_10 : decode cX4_simulate 10 = .ok (.dup, 1) := by decide +kernel
theorem dX4_simulate_11 : decode cX4_simulate 11 = .ok (.ldc 162, 2) := by decide +kernel
theorem dX4_simulate_13 : decode cX4_simulate 13 = .ok (.invokespecial 60, 3) := by decide +kernel
theorem dX4_simulate_16 : decode cX4_simulate 16 = .ok (.athrow, 1) := by decide +kernel
theorem dX4_simulate_17 : decode cX4_simulate 17 = .ok (.aload_n 0, 1) := by decide +kernel
theorem dX4_simulate_18 : decode cX4_simulate 18 = .ok (.getfield 16, 3) := by decide +kernel
theorem dX4_simulate_21 : decode cX4_simulate 21 = .ok (.aload_n 0, 1) := by decide +kernel
theorem dX4_simulate_22 : decode cX4_simulate 22 = .ok (.getfield 10, 3) := by decide +kernel
theorem dX4_simulate_25 : decode cX4_simulate 25 = .ok (.invokevirtual 94, 3) := by decide +kernel
theorem dX4_simulate_28 : decode cX4_simulate 28 = .ok (.aload_n 0, 1) := by decide +kernel
theorem dX4_simulate_29 : decode cX4_simulate 29 = .ok (.getfield 16, 3) := by decide +kernel
theorem dX4_simulate_32 : decode cX4_simulate 32 = .ok (.lload_n 1, 1) := by decide +kernel
theorem dX4_simulate_33 : decode cX4_simulate 33 = .ok (.putfield 146, 3) := by decide +kernel
theorem dX4_simulate_36 : decode cX4_simulate 36 = .ok (.aload_n 0, 1) := by decide +kernel
theorem dX4_simulate_37 : decode cX4_simulate 37 = .ok (.getfield 16, 3) := by decide +kernel
theorem dX4_simulate_40 : decode cX4_simulate 40 = .ok (.iload_n 3, 1) := by decide +kernel
theorem dX4_simulate_41 : decode cX4_simulate 41 = .ok (.invokevirtual 167, 3) := by decide +kernel
theorem dX4_simulate_44 : decode cX4_simulate 44 = .ok (.bipush 100, 2) := by decide +kernel
theorem dX4_simulate_46 : decode cX4_simulate 46 = .ok (.aload_n 0, 1) := by decide +kernel
theorem dX4_simulate_47 : decode cX4_simulate 47 = .ok (.getfield 16, 3) := by decide +kernel
theorem dX4_simulate_50 : decode cX4_simulate 50 = .ok (.invokevirtual 270, 3) := by decide +kernel
theorem dX4_simulate_53 : decode cX4_simulate 53 = .ok (.imul, 1) := by decide +kernel
theorem dX4_simulate_54 : decode cX4_simulate 54 = .ok (.aload_n 0, 1) := by decide +kernel
theorem dX4_simulate_55 : decode cX4_simulate 55 = .ok (.getfield 16, 3) := by decide +kernel
theorem dX4_simulate_58 : decode cX4_simulate 58 = .ok (.iconst 0, 1) := by decide +kernel
theorem dX4_simulate_59 : decode cX4_simulate 59 = .ok (.invokevirtual 104, 3) := by decide +kernel
theorem dX4_simulate_62 : decode cX4_simulate 62 = .ok (.iadd, 1) := by decide +kernel
theorem dX4_simulate_63 : decode cX4_simulate 63 = .ok (.ireturn, 1) := by decide +kernel
set_option maxRecDepth 20000 in
theorem ggX4_save_X2_keep : GoodIn wsX4_save wsX2_keep := goodIn_r _ [11, 12, 13, 14, 10, 15, 16, 17, 18, 19, 20, 21, 22, 23, 24, 25, 26, 27, 28, 29, 30, 31, 32, 33, 34, 35, 36, 37, 38, 61, 48, 49, 50, 51, 52, 53, 54, 55, 56, 57, 58, 59, 60] (by decide +kernel) (by decide +kernel)
set_option maxRecDepth 20000 in
theorem gX4_save_X2_keep : GoodIn wsX4_save (wsV RX4 275 RX2 yX2_keep wsX2_keep) := goodIn_app (goodIn_of _ (by decide +kernel)) ggX4_save_X2_keep
theorem dX4_save_0 : decode cX4_save 0 = .ok (.iload_n 1, 1) := by decide +kernel
theorem dX4_save_1 : decode cX4_save 1 = .ok (.ifCond .lt 8, 3) := by decide +kernel
theorem dX4_save_4 : decode cX4_save 4 = .ok (.iload_n 1, 1) := by decide +kernel
theorem dX4_save_5 : decode cX4_save 5 = .ok (.iconst 2, 1) := by decide +kernel
theorem dX4_save_6 : decode cX4_save 6 = .ok (.if_icmp .lt 14, 3) := by decide +kernel
theorem dX4_save_9 : decode cX4_save 9 = .ok (.new 124, 3) := by decide +kernel
theorem dX4_save_12 : decode cX4_save 12 = .ok (.dup, 1) := by decide +kernel
theorem dX4_save_13 : decode cX4_save 13 = .ok (.ldc_w 273, 3) := by decide +kernel
theorem dX4_save_16 : decode cX4_save 16 = .ok (.invokespecial 128, 3) := by decide +kernel
theorem dX4_save_19 : decode cX4_save 19 = .ok (.athrow, 1) := by decide +kernel
theorem dX4_save_20 : decode cX4_save 20 = .ok (.aload_n 0, 1) := by decide +kernel
theorem dX4_save_21 : decode cX4_save 21 = .ok (.getfield 42, 3) := by decide +kernel
theorem dX4_save_24 : decode cX4_save 24 = .ok (.iload_n 1, 1) := by decide +kernel
theorem dX4_save_25 : decode cX4_save 25 = .ok (.aload_n 0, 1) := by decide +kernel
theorem dX4_save_26 : decode cX4_save 26 = .ok (.getfield 10, 3) := by decide +kernel
theorem dX4_save_29 : decode cX4_save 29 = .ok (.invokevirtual 275, 3) := by decide +kernel
theorem dX4_save_32 : decode cX4_save 32 = .ok (.aload_n 0, 1) := by decide +kernel
theorem dX4_save_33 : decode cX4_save 33 = .ok (.getfield 45, 3) := by decide +kernel
theorem dX4_save_36 : decode cX4_save 36 = .ok (.iload_n 1, 1) := by decide +kernel
theorem dX4_save_37 : decode cX4_save 37 = .ok (.iconst 1, 1) := by decide +kernel
theorem dX4_save_38 : decode cX4_save 38 = .ok (.bastore, 1) := by decide +kernel
theorem dX4_save_39 : decode cX4_save 39 = .ok (.aload_n 0, 1) := by decide +kernel
theorem dX4_save_40 : decode cX4_save 40 = .ok (.getfield 10, 3) := by decide +kernel
theorem dX4_save_43 : decode cX4_save 43 = .ok (.getfield 111, 3) := by decide +kernel
theorem dX4_save_46 : decode cX4_save 46 = .ok (.ireturn, 1) := by decide +kernel
set_option maxRecDepth 20000 in
theorem ggX4_restore_X2_recall : GoodIn wsX4_restore wsX2_recall := goodIn_r _ [14, 15, 16, 17, 13, 18, 19, 20, 21, 22, 23, 24, 25, 26, 27, 28, 29, 30, 31, 32, 33, 34, 35, 36, 37, 38, 39, 40, 41, 64, 51, 52, 53, 54, 55, 56, 57, 58, 59, 60, 61, 62, 63] (by decide +kernel) (by decide +kernel)
set_option maxRecDepth 20000 in
theorem gX4_restore_X2_recall : GoodIn wsX4_restore (wsV RX4 213 RX2 yX2_recall wsX2_recall) := goodIn_app (goodIn_of _ (by decide +kernel)) ggX4_restore_X2_recall
theorem dX4_restore_0 : decode cX4_restore 0 = .ok (.iload_n 1, 1) := by decide +kernel
theorem dX4_restore_1 : decode cX4_restore 1 = .ok (.ifCond .lt 8, 3) := by decide +kernel
theorem dX4_restore_4 : decode cX4_restore 4 = .ok (.iload_n 1, 1) := by decide +kernel
theorem dX4_restore_5 : decode cX4_restore 5 = .ok (.iconst 2, 1) := by decide +kernel
theorem dX4_restore_6 : decode cX4_restore 6 = .ok (.if_icmp .lt 14, 3) := by decide +kernel
theorem dX4_restore_9 : decode cX4_restore 9 = .ok (.new 124, 3) := by decide +kernel
theorem dX4_restore_12 : decode cX4_restore 12 = .ok (.dup, 1) := by decide +kernel
theorem dX4_restore_13 : decode cX4_restore 13 = .ok (.ldc_w 273, 3) := by decide +kernel
theorem dX4_restore_16 : decode cX4_restore 16 = .ok (.invokespecial 128, 3) := by decide +kernel
theorem dX4_restore_19 : decode cX4_restore 19 = .ok (.athrow, 1) := by decide +kernel
theorem dX4_restore_20 : decode cX4_restore 20 = .ok (.aload_n 0, 1) := by decide +kernel
theorem dX4_restore_21 : decode cX4_restore 21 = .ok (.getfield 45, 3) := by decide +kernel
theorem dX4_restore_24 : decode cX4_restore 24 = .ok (.iload_n 1, 1) := by decide +kernel
theorem dX4_restore_25 : decode cX4_restore 25 = .ok (.baload, 1) := by decide +kernel
theorem dX4_restore_26 : decode cX4_restore 26 = .ok (.ifCond .ne 14, 3) := by decide +kernel
theorem dX4_restore_29 : decode cX4_restore 29 = .ok (.new 70, 3) := by decide +kernel
theorem dX4_restore_32 : decode cX4_restore 32 = .ok (.dup, 1) := by decide +kernel
theorem dX4_restore_33 : decode cX4_restore 33 = .ok (.ldc_w 278, 3) := by decide +kernel
theorem dX4_restore_36 : decode cX4_restore 36 = .ok (.invokespecial 74, 3) := by decide +kernel
theorem dX4_restore_39 : decode cX4_restore 39 = .ok (.athrow, 1) := by decide +kernel
theorem dX4_restore_40 : decode cX4_restore 40 = .ok (.aload_n 0, 1) := by decide +kernel
theorem dX4_restore_41 : decode cX4_restore 41 = .ok (.getfield 42, 3) := by decide +kernel
theorem dX4_restore_44 : decode cX4_restore 44 = .ok (.iload_n 1, 1) := by decide +kernel
theorem dX4_restore_45 : decode cX4_restore 45 = .ok (.aload_n 0, 1) := by decide +kernel
theorem dX4_restore_46 : decode cX4_restore 46 = .ok (.getfield 10, 3) := by decide +kernel
theorem dX4_restore_49 : decode cX4_restore 49 = .ok (.invokevirtual 213, 3) := by decide +kernel
theorem dX4_restore_52 : decode cX4_restore 52 = .ok (.aload_n 0, 1) := by decide +kernel
theorem dX4_restore_53 : decode cX4_restore 53 = .ok (.iconst 0, 1) := by decide +kernel
theorem dX4_restore_54 : decode cX4_restore 54 = .ok (.putfield 49, 3) := by decide +kernel
theorem dX4_restore_57 : decode cX4_restore 57 = .ok (.aload_n 0, 1) := by decide +kernel
theorem dX4_restore_58 : decode cX4_restore 58 = .ok (.getfield 10, 3) := by decide +kernel
theorem dX4_restore_61 : decode cX4_restore 61 = .ok (.getfield 111, 3) := by decide +kernel
theorem dX4_restore_64 : decode cX4_restore 64 = .ok (.ireturn, 1) := by decide +kernel
set_option maxRecDepth 20000 in
theorem ggX4_remember_X2_keep : GoodIn wsX4_remember wsX2_keep := goodIn_r _ [9, 10, 11, 12, 8, 13, 14, 15, 16, 17, 18, 19, 20, 21, 22, 23, 24, 25, 26, 27, 28, 29, 30, 31, 32, 33, 34, 35, 36, 46, 47, 48, 49, 50, 51, 52, 53, 54, 55, 56, 57, 58, 59] (by decide +kernel) (by decide +kernel)
set_option maxRecDepth 20000 in
theorem gX4_remember_X2_keep : GoodIn wsX4_remember (wsV RX4 275 RX2 yX2_keep wsX2_keep) := goodIn_app (goodIn_of _ (by decide +kernel)) ggX4_remember_X2_keep
theorem dX4_remember_0 : decode cX4_remember 0 = .ok (.aload_n 0, 1) := by decide +kernel
theorem dX4_remember_1 : decode cX4_remember 1 = .ok (.getfield 38, 3) := by decide +kernel
theorem dX4_remember_4 : decode cX4_remember 4 = .ok (.aload_n 0, 1) := by decide +kernel
theorem dX4_remember_5 : decode cX4_remember 5 = .ok (.getfield 53, 3) := by decide +kernel
theorem dX4_remember_8 : decode cX4_remember 8 = .ok (.aload_n 0, 1) := by decide +kernel
theorem dX4_remember_9 : decode cX4_remember 9 = .ok (.getfield 10, 3) := by decide +kernel
theorem dX4_remember_12 : decode cX4_remember 12 = .ok (.invokevirtual 275, 3) := by decide +kernel
theorem dX4_remember_15 : decode cX4_remember 15 = .ok (.aload_n 0, 1) := by decide +kernel
theorem dX4_remember_16 : decode cX4_remember 16 = .ok (.aload_n 0, 1) := by decide +kernel
theorem dX4_remember_17 : decode cX4_remember 17 = .ok (.getfield 53, 3) := by decide +kernel
theorem dX4_remember_20 : decode cX4_remember 20 = .ok (.iconst 1, 1) := by decide +kernel
theorem dX4_remember_21 : decode cX4_remember 21 = .ok (.iadd, 1) := by decide +kernel
theorem dX4_remember_22 : decode cX4_remember 22 = .ok (.bipush 14, 2) := by decide +kernel
theorem dX4_remember_24 : decode cX4_remember 24 = .ok (.if_icmp .ge 12, 3) := by decide +kernel
theorem dX4_remember_27 : decode cX4_remember 27 = .ok (.aload_n 0, 1) := by decide +kernel
theorem dX4_remember_28 : decode cX4_remember 28 = .ok (.getfield 53, 3) := by decide +kernel
theorem dX4_remember_31 : decode cX4_remember 31 = .ok (.iconst 1, 1) := by decide +kernel
theorem dX4_remember_32 : decode cX4_remember 32 = .ok (.iadd, 1) := by decide +kernel
theorem dX4_remember_33 : decode cX4_remember 33 = .ok (.goto 4, 3) := by decide +kernel
theorem dX4_remember_36 : decode cX4_remember 36 = .ok (.iconst 0, 1) := by decide +kernel
theorem dX4_remember_37 : decode cX4_remember 37 = .ok (.putfield 53, 3) := by decide +kernel
theorem dX4_remember_40 : decode cX4_remember 40 = .ok (.aload_n 0, 1) := by decide +kernel
theorem dX4_remember_41 : decode cX4_remember 41 = .ok (.getfield 49, 3) := by decide +kernel
theorem dX4_remember_44 : decode cX4_remember 44 = .ok (.bipush 14, 2) := by decide +kernel
theorem dX4_remember_46 : decode cX4_remember 46 = .ok (.if_icmp .ge 13, 3) := by decide +kernel
theorem dX4_remember_49 : decode cX4_remember 49 = .ok (.aload_n 0, 1) := by decide +kernel
theorem dX4_remember_50 : decode cX4_remember 50 = .ok (.dup, 1) := by decide +kernel
theorem dX4_remember_51 : decode cX4_remember 51 = .ok (.getfield 49, 3) := by decide +kernel
theorem dX4_remember_54 : decode cX4_remember 54 = .ok (.iconst 1, 1) := by decide +kernel
theorem dX4_remember_55 : decode cX4_remember 55 = .ok (.iadd, 1) := by decide +kernel
theorem dX4_remember_56 : decode cX4_remember 56 = .ok (.putfield 49, 3) := by decide +kernel
theorem dX4_remember_59 : decode cX4_remember 59 = .ok (.return_, 1) := by decide +kernel
set_option maxRecDepth 20000 in
theorem ggX4_isSlipFree_X0_become : GoodIn wsX4_isSlipFree wsX0_become := goodIn_r _ [8, 9, 10, 11, 12, 13, 14, 15, 16, 17, 18, 19, 20, 21, 22, 23, 24, 25, 69, 70, 71, 72, 73, 74, 75, 76, 77, 78, 79, 80, 81] (by decide +kernel) (by decide +kernel)
set_option maxRecDepth 20000 in
theorem gX4_isSlipFree_X0_become : GoodIn wsX4_isSlipFree (wsV RX4 94 RX0 yX0_become wsX0_become) := goodIn_app (goodIn_of _ (by decide +kernel)) ggX4_isSlipFree_X0_become
set_option maxRecDepth 20000 in
theorem ggX4_isSlipFree_X0_advance : GoodIn wsX4_isSlipFree wsX0_advance := goodIn_r _ [29, 23, 22, 25, 30, 31, 24, 32, 33, 34, 7, 35, 18, 19, 36, 37, 38, 39, 14, 15, 9, 21, 16, 17, 20, 40, 41, 42, 43, 44, 45, 46, 47, 48, 49, 50, 51, 52, 53, 54, 55, 56, 57, 58, 59, 69, 70, 71, 72, 73, 74, 75, 76, 77, 78, 79, 80, 81] (by decide +kernel) (by decide +kernel)
set_option maxRecDepth 20000 in
theorem gX4_isSlipFree_X0_advance : GoodIn wsX4_isSlipFree (wsV RX4 246 RX0 yX0_advance wsX0_advance) := goodIn_app (goodIn_of _ (by decide +kernel)) ggX4_isSlipFree_X0_advance
theorem dX4_isSlipFree_0 : decode cX4_isSlipFree 0 = .ok (.aload_n 0, 1) := by decide +kernel
theorem dX4_isSlipFree_1 : decode cX4_isSlipFree 1 = .ok (.getfield 16, 3) := by decide +kernel
theorem dX4_isSlipFree_4 : decode cX4_isSlipFree 4 = .ok (.aload_n 0, 1) := by decide +kernel
theorem dX4_isSlipFree_5 : decode cX4_isSlipFree 5 = .ok (.getfield 10, 3) := by decide +kernel
theorem dX4_isSlipFree_8 : decode cX4_isSlipFree 8 = .ok (.invokevirtual 94, 3) := by decide +kernel
theorem dX4_isSlipFree_11 : decode cX4_isSlipFree 11 = .ok (.aload_n 0, 1) := by decide +kernel
theorem dX4_isSlipFree_12 : decode cX4_isSlipFree 12 = .ok (.getfield 16, 3) := by decide +kernel
theorem dX4_isSlipFree_15 : decode cX4_isSlipFree 15 = .ok (.getfield 114, 3) := by decide +kernel
theorem dX4_isSlipFree_18 : decode cX4_isSlipFree 18 = .ok (.iconst 0, 1) := by decide +kernel
theorem dX4_isSlipFree_19 : decode cX4_isSlipFree 19 = .ok (.iload_n 1, 1) := by decide +kernel
theorem dX4_isSlipFree_20 : decode cX4_isSlipFree 20 = .ok (.iastore, 1) := by decide +kernel
theorem dX4_isSlipFree_21 : decode cX4_isSlipFree 21 = .ok (.iconst 0, 1) := by decide +kernel
theorem dX4_isSlipFree_22 : decode cX4_isSlipFree 22 = .ok (.istore_n 3, 1) := by decide +kernel
theorem dX4_isSlipFree_23 : decode cX4_isSlipFree 23 = .ok (.iload_n 3, 1) := by decide +kernel
theorem dX4_isSlipFree_24 : decode cX4_isSlipFree 24 = .ok (.iload_n 2, 1) := by decide +kernel
theorem dX4_isSlipFree_25 : decode cX4_isSlipFree 25 = .ok (.if_icmp .ge 23, 3) := by decide +kernel
theorem dX4_isSlipFree_28 : decode cX4_isSlipFree 28 = .ok (.aload_n 0, 1) := by decide +kernel
theorem dX4_isSlipFree_29 : decode cX4_isSlipFree 29 = .ok (.getfield 16, 3) := by decide +kernel
theorem dX4_isSlipFree_32 : decode cX4_isSlipFree 32 = .ok (.invokevirtual 246, 3) := by decide +kernel
theorem dX4_isSlipFree_35 : decode cX4_isSlipFree 35 = .ok (.iconst 4, 1) := by decide +kernel
theorem dX4_isSlipFree_36 : decode cX4_isSlipFree 36 = .ok (.iand, 1) := by decide +kernel
theorem dX4_isSlipFree_37 : decode cX4_isSlipFree 37 = .ok (.ifCond .eq 5, 3) := by decide +kernel
theorem dX4_isSlipFree_40 : decode cX4_isSlipFree 40 = .ok (.iconst 0, 1) := by decide +kernel
theorem dX4_isSlipFree_41 : decode cX4_isSlipFree 41 = .ok (.ireturn, 1) := by decide +kernel
theorem dX4_isSlipFree_42 : decode cX4_isSlipFree 42 = .ok (.iinc 3 1, 3) := by decide +kernel
theorem dX4_isSlipFree_45 : decode cX4_isSlipFree 45 = .ok (.goto (-22), 3) := by decide +kernel
theorem dX4_isSlipFree_48 : decode cX4_isSlipFree 48 = .ok (.iconst 1, 1) := by decide +kernel
theorem dX4_isSlipFree_49 : decode cX4_isSlipFree 49 = .ok (.ireturn, 1) := by decide +kernel
theorem dX4_isStepNumber_0 : decode cX4_isStepNumber 0 = .ok (.iload_n 0, 1) := by decide +kernel
theorem dX4_isStepNumber_1 : decode cX4_isStepNumber 1 = .ok (.iconst 1, 1) := by decide +kernel
theorem dX4_isStepNumber_2 : decode cX4_isStepNumber 2 = .ok (.if_icmp .lt 13, 3) := by decide +kernel
theorem dX4_isStepNumber_5 : decode cX4_isStepNumber 5 = .ok (.iload_n 0, 1) := by decide +kernel
theorem dX4_isStepNumber_6 : decode cX4_isStepNumber 6 = .ok (.bipush 99, 2) := by decide +kernel
theorem dX4_isStepNumber_8 : decode cX4_isStepNumber 8 = .ok (.if_icmp .gt 7, 3) := by decide +kernel
theorem dX4_isStepNumber_11 : decode cX4_isStepNumber 11 = .ok (.iconst 1, 1) := by decide +kernel
theorem dX4_isStepNumber_12 : decode cX4_isStepNumber 12 = .ok (.goto 4, 3) := by decide +kernel
theorem dX4_isStepNumber_15 : decode cX4_isStepNumber 15 = .ok (.iconst 0, 1) := by decide +kernel
theorem dX4_isStepNumber_16 : decode cX4_isStepNumber 16 = .ok (.ireturn, 1) := by decide +kernel
theorem dX4_isGripNumber_0 : decode cX4_isGripNumber 0 = .ok (.iload_n 0, 1) := by decide +kernel
theorem dX4_isGripNumber_1 : decode cX4_isGripNumber 1 = .ok (.ifCond .lt 13, 3) := by decide +kernel
theorem dX4_isGripNumber_4 : decode cX4_isGripNumber 4 = .ok (.iload_n 0, 1) := by decide +kernel
theorem dX4_isGripNumber_5 : decode cX4_isGripNumber 5 = .ok (.bipush 7, 2) := by decide +kernel
theorem dX4_isGripNumber_7 : decode cX4_isGripNumber 7 = .ok (.if_icmp .gt 7, 3) := by decide +kernel
theorem dX4_isGripNumber_10 : decode cX4_isGripNumber 10 = .ok (.iconst 1, 1) := by decide +kernel
theorem dX4_isGripNumber_11 : decode cX4_isGripNumber 11 = .ok (.goto 4, 3) := by decide +kernel
theorem dX4_isGripNumber_14 : decode cX4_isGripNumber 14 = .ok (.iconst 0, 1) := by decide +kernel
theorem dX4_isGripNumber_15 : decode cX4_isGripNumber 15 = .ok (.ireturn, 1) := by decide +kernel
theorem dX4_isLimit_0 : decode cX4_isLimit 0 = .ok (.iload_n 0, 1) := by decide +kernel
theorem dX4_isLimit_1 : decode cX4_isLimit 1 = .ok (.ifCond .lt 26, 3) := by decide +kernel
theorem dX4_isLimit_4 : decode cX4_isLimit 4 = .ok (.iload_n 0, 1) := by decide +kernel
theorem dX4_isLimit_5 : decode cX4_isLimit 5 = .ok (.iconst 5, 1) := by decide +kernel
theorem dX4_isLimit_6 : decode cX4_isLimit 6 = .ok (.if_icmp .ge 21, 3) := by decide +kernel
theorem dX4_isLimit_9 : decode cX4_isLimit 9 = .ok (.iload_n 1, 1) := by decide +kernel
theorem dX4_isLimit_10 : decode cX4_isLimit 10 = .ok (.iconst 1, 1) := by decide +kernel
theorem dX4_isLimit_11 : decode cX4_isLimit 11 = .ok (.if_icmp .lt 16, 3) := by decide +kernel
theorem dX4_isLimit_14 : decode cX4_isLimit 14 = .ok (.iload_n 1, 1) := by decide +kernel
theorem dX4_isLimit_15 : decode cX4_isLimit 15 = .ok (.getstatic 249, 3) := by decide +kernel
theorem dX4_isLimit_18 : decode cX4_isLimit 18 = .ok (.iload_n 0, 1) := by decide +kernel
theorem dX4_isLimit_19 : decode cX4_isLimit 19 = .ok (.iaload, 1) := by decide +kernel
theorem dX4_isLimit_20 : decode cX4_isLimit 20 = .ok (.if_icmp .gt 7, 3) := by decide +kernel
theorem dX4_isLimit_23 : decode cX4_isLimit 23 = .ok (.iconst 1, 1) := by decide +kernel
theorem dX4_isLimit_24 : decode cX4_isLimit 24 = .ok (.goto 4, 3) := by decide +kernel
theorem dX4_isLimit_27 : decode cX4_isLimit 27 = .ok (.iconst 0, 1) := by decide +kernel
theorem dX4_isLimit_28 : decode cX4_isLimit 28 = .ok (.ireturn, 1) := by decide +kernel
theorem dX4_groupPower_0 : decode cX4_groupPower 0 = .ok (.lconst 1, 1) := by decide +kernel
theorem dX4_groupPower_1 : decode cX4_groupPower 1 = .ok (.lstore_n 1, 1) := by decide +kernel
theorem dX4_groupPower_2 : decode cX4_groupPower 2 = .ok (.iconst 0, 1) := by decide +kernel
theorem dX4_groupPower_3 : decode cX4_groupPower 3 = .ok (.istore_n 3, 1) := by decide +kernel
theorem dX4_groupPower_4 : decode cX4_groupPower 4 = .ok (.iload_n 3, 1) := by decide +kernel
theorem dX4_groupPower_5 : decode cX4_groupPower 5 = .ok (.iload_n 0, 1) := by decide +kernel
theorem dX4_groupPower_6 : decode cX4_groupPower 6 = .ok (.if_icmp .ge 15, 3) := by decide +kernel
theorem dX4_groupPower_9 : decode cX4_groupPower 9 = .ok (.lload_n 1, 1) := by decide +kernel
theorem dX4_groupPower_10 : decode cX4_groupPower 10 = .ok (.ldc2_w 280, 3) := by decide +kernel
theorem dX4_groupPower_13 : decode cX4_groupPower 13 = .ok (.lmul, 1) := by decide +kernel
theorem dX4_groupPower_14 : decode cX4_groupPower 14 = .ok (.lstore_n 1, 1) := by decide +kernel
theorem dX4_groupPower_15 : decode cX4_groupPower 15 = .ok (.iinc 3 1, 3) := by decide +kernel
theorem dX4_groupPower_18 : decode cX4_groupPower 18 = .ok (.goto (-14), 3) := by decide +kernel
theorem dX4_groupPower_21 : decode cX4_groupPower 21 = .ok (.lload_n 1, 1) := by decide +kernel
theorem dX4_groupPower_22 : decode cX4_groupPower 22 = .ok (.lreturn, 1) := by decide +kernel
theorem dX4_groupAt_0 : decode cX4_groupAt 0 = .ok (.lload_n 0, 1) := by decide +kernel
theorem dX4_groupAt_1 : decode cX4_groupAt 1 = .ok (.lstore_n 3, 1) := by decide +kernel
theorem dX4_groupAt_2 : decode cX4_groupAt 2 = .ok (.iconst 0, 1) := by decide +kernel
theorem dX4_groupAt_3 : decode cX4_groupAt 3 = .ok (.istore 5, 2) := by decide +kernel
theorem dX4_groupAt_5 : decode cX4_groupAt 5 = .ok (.iload 5, 2) := by decide +kernel
theorem dX4_groupAt_7 : decode cX4_groupAt 7 = .ok (.iload_n 2, 1) := by decide +kernel
theorem dX4_groupAt_8 : decode cX4_groupAt 8 = .ok (.if_icmp .ge 15, 3) := by decide +kernel
theorem dX4_groupAt_11 : decode cX4_groupAt 11 = .ok (.lload_n 3, 1) := by decide +kernel
theorem dX4_groupAt_12 : decode cX4_groupAt 12 = .ok (.ldc2_w 280, 3) := by decide +kernel
theorem dX4_groupAt_15 : decode cX4_groupAt 15 = .ok (.ldiv, 1) := by decide +kernel
theorem dX4_groupAt_16 : decode cX4_groupAt 16 = .ok (.lstore_n 3, 1) := by decide +kernel
theorem dX4_groupAt_17 : decode cX4_groupAt 17 = .ok (.iinc 5 1, 3) := by decide +kernel
theorem dX4_groupAt_20 : decode cX4_groupAt 20 = .ok (.goto (-15), 3) := by decide +kernel
theorem dX4_groupAt_23 : decode cX4_groupAt 23 = .ok (.lload_n 3, 1) := by decide +kernel
theorem dX4_groupAt_24 : decode cX4_groupAt 24 = .ok (.ldc2_w 280, 3) := by decide +kernel
theorem dX4_groupAt_27 : decode cX4_groupAt 27 = .ok (.lrem, 1) := by decide +kernel
theorem dX4_groupAt_28 : decode cX4_groupAt 28 = .ok (.l2i, 1) := by decide +kernel
theorem dX4_groupAt_29 : decode cX4_groupAt 29 = .ok (.ireturn, 1) := by decide +kernel
set_option maxRecDepth 20000 in
theorem ggX4_obeys_X4_isStepNumber : GoodIn wsX4_obeys wsX4_isStepNumber := goodIn_r _ [7] (by decide +kernel) (by decide +kernel)
set_option maxRecDepth 20000 in
theorem gX4_obeys_X4_isStepNumber : GoodIn wsX4_obeys (va_wsS RX4 159 yX4_isStepNumber wsX4_isStepNumber) := goodIn_app (goodIn_of _ (by decide +kernel)) ggX4_obeys_X4_isStepNumber
set_option maxRecDepth 20000 in
theorem ggX4_obeys_X0_advanceBy : GoodIn wsX4_obeys wsX0_advanceBy := goodIn_r _ [12, 13, 14, 15, 11, 16, 17, 18, 19, 20, 21, 22, 23, 24, 25, 26, 27, 28, 29, 30, 31, 32, 33, 34, 35, 36, 37, 38, 39, 40, 41, 42, 43, 44, 45, 46, 47, 48, 49, 50, 51, 52, 53, 54, 55, 56, 57, 58, 59, 108, 109, 110, 111, 112, 113, 114, 115, 116, 117, 118, 119, 120] (by decide +kernel) (by decide +kernel)
set_option maxRecDepth 20000 in
theorem gX4_obeys_X0_advanceBy : GoodIn wsX4_obeys (wsV RX4 167 RX0 yX0_advanceBy wsX0_advanceBy) := goodIn_app (goodIn_of _ (by decide +kernel)) ggX4_obeys_X0_advanceBy
set_option maxRecDepth 20000 in
theorem ggX4_obeys_X4_triesPutting : GoodIn wsX4_obeys wsX4_triesPutting := goodIn_r _ [63, 1, 64, 65, 66, 11, 67, 27, 68, 69, 70, 71, 18, 72, 73, 74, 75, 76, 49, 50, 51, 28, 36, 52, 53, 54, 55, 77, 57, 58, 59, 99, 100, 101, 102, 103, 104, 105, 106, 107, 108, 109, 110, 111, 112, 113, 114, 115, 116, 117, 118, 119, 120] (by decide +kernel) (by decide +kernel)
set_option maxRecDepth 20000 in
theorem gX4_obeys_X4_triesPutting : GoodIn wsX4_obeys (wsV RX4 282 RX4 yX4_triesPutting wsX4_triesPutting) := goodIn_app (goodIn_of _ (by decide +kernel)) ggX4_obeys_X4_triesPutting
set_option maxRecDepth 20000 in
theorem ggX4_obeys_X4_triesTaking : GoodIn wsX4_obeys wsX4_triesTaking := goodIn_r _ [81, 1, 64, 65, 66, 11, 67, 27, 72, 73, 74, 75, 82, 83, 84, 85, 99, 100, 101, 102, 103, 104, 105, 106, 107, 108, 109, 110, 111, 112, 113, 114, 115, 116, 117, 118, 119, 120] (by decide +kernel) (by decide +kernel)
set_option maxRecDepth 20000 in
theorem gX4_obeys_X4_triesTaking : GoodIn wsX4_obeys (wsV RX4 285 RX4 yX4_triesTaking wsX4_triesTaking) := goodIn_app (goodIn_of _ (by decide +kernel)) ggX4_obeys_X4_triesTaking
set_option maxRecDepth 20000 in
theorem ggX4_obeys_X4_triesLimit : GoodIn wsX4_obeys wsX4_triesLimit := goodIn_r _ [89, 1, 90, 91, 92, 6, 93, 94, 99, 100, 101, 102, 103, 104, 105, 106, 107, 108, 109, 110, 111, 112, 113, 114, 115, 116, 117, 118, 119, 120] (by decide +kernel) (by decide +kernel)
set_option maxRecDepth 20000 in
theorem gX4_obeys_X4_triesLimit : GoodIn wsX4_obeys (wsV RX4 288 RX4 yX4_triesLimit wsX4_triesLimit) := goodIn_app (goodIn_of _ (by decide +kernel)) ggX4_obeys_X4_triesLimit
set_option maxRecDepth 20000 in
theorem ggX4_obeys_X0_has : GoodIn wsX4_obeys wsX0_has := goodIn_r _ [67, 27, 108, 109, 110, 111, 112, 113, 114, 115, 116, 117, 118, 119, 120] (by decide +kernel) (by decide +kernel)
set_option maxRecDepth 20000 in
theorem gX4_obeys_X0_has : GoodIn wsX4_obeys (wsV RX4 120 RX0 yX0_has wsX0_has) := goodIn_app (goodIn_of _ (by decide +kernel)) ggX4_obeys_X0_has
set_option maxRecDepth 20000 in
theorem ggX4_obeys_X0_isIn : GoodIn wsX4_obeys wsX0_isIn := goodIn_r _ [75, 27, 108, 109, 110, 111, 112, 113, 114, 115, 116, 117, 118, 119, 120] (by decide +kernel) (by decide +kernel)
set_option maxRecDepth 20000 in
theorem gX4_obeys_X0_isIn : GoodIn wsX4_obeys (wsV RX4 180 RX0 yX0_isIn wsX0_isIn) := goodIn_app (goodIn_of _ (by decide +kernel)) ggX4_obeys_X0_isIn
set_option maxRecDepth 20000 in
theorem ggX4_obeys_X0_count : GoodIn wsX4_obeys wsX0_count := goodIn_r _ [98, 27, 108, 109, 110, 111, 112, 113, 114, 115, 116, 117, 118, 119, 120] (by decide +kernel) (by decide +kernel)
set_option maxRecDepth 20000 in
theorem gX4_obeys_X0_count : GoodIn wsX4_obeys (wsV RX4 104 RX0 yX0_count wsX0_count) := goodIn_app (goodIn_of _ (by decide +kernel)) ggX4_obeys_X0_count
theorem dX4_obeys_0 : decode cX4_obeys 0 = .ok (.iload_n 1, 1) := by decide +kernel
theorem dX4_obeys_1 : decode cX4_obeys 1 = .ok (.bipush 100, 2) := by decide +kernel
theorem dX4_obeys_3 : decode cX4_obeys 3 = .ok (.idiv, 1) := by decide +kernel
theorem dX4_obeys_4 : decode cX4_obeys 4 = .ok (.bipush 100, 2) := by decide +kernel
theorem dX4_obeys_6 : decode cX4_obeys 6 = .ok (.irem, 1) := by decide +kernel
theorem dX4_obeys_7 : decode cX4_obeys 7 = .ok (.istore_n 2, 1) := by decide +kernel
theorem dX4_obeys_8 : decode cX4_obeys 8 = .ok (.iload_n 1, 1) := by decide +kernel
theorem dX4_obeys_9 : decode cX4_obeys 9 = .ok (.bipush 100, 2) := by decide +kernel
theorem dX4_obeys_11 : decode cX4_obeys 11 = .ok (.irem, 1) := by decide +kernel
theorem dX4_obeys_12 : decode cX4_obeys 12 = .ok (.istore_n 3, 1) := by decide +kernel
theorem dX4_obeys_13 : decode cX4_obeys 13 = .ok (.iload_n 1, 1) := by decide +kernel
theorem dX4_obeys_14 : decode cX4_obeys 14 = .ok (.sipush 10000, 3) := by decide +kernel
theorem dX4_obeys_17 : decode cX4_obeys 17 = .ok (.idiv, 1) := by decide +kernel
theorem dX4_obeys_18 : decode cX4_obeys 18 = .ok (.tableswitch 242 1 8 #[46, 69, 76, 94, 119, 149, 178, 200], 46) := by decide +kernel
theorem dX4_obeys_64 : decode cX4_obeys 64 = .ok (.iload_n 2, 1) := by decide +kernel
theorem dX4_obeys_65 : decode cX4_obeys 65 = .ok (.ifCond .ne 10, 3) := by decide +kernel
theorem dX4_obeys_68 : decode cX4_obeys 68 = .ok (.iload_n 3, 1) := by decide +kernel
theorem dX4_obeys_69 : decode cX4_obeys 69 = .ok (.invokestatic 159, 3) := by decide +kernel
theorem dX4_obeys_72 : decode cX4_obeys 72 = .ok (.ifCond .ne 5, 3) := by decide +kernel
theorem dX4_obeys_75 : decode cX4_obeys 75 = .ok (.iconst 0, 1) := by decide +kernel
theorem dX4_obeys_76 : decode cX4_obeys 76 = .ok (.ireturn, 1) := by decide +kernel
theorem dX4_obeys_77 : decode cX4_obeys 77 = .ok (.aload_n 0, 1) := by decide +kernel
theorem dX4_obeys_78 : decode cX4_obeys 78 = .ok (.getfield 16, 3) := by decide +kernel
theorem dX4_obeys_81 : decode cX4_obeys 81 = .ok (.iload_n 3, 1) := by decide +kernel
theorem dX4_obeys_82 : decode cX4_obeys 82 = .ok (.invokevirtual 167, 3) := by decide +kernel
theorem dX4_obeys_85 : decode cX4_obeys 85 = .ok (.iconst 1, 1) := by decide +kernel
theorem dX4_obeys_86 : decode cX4_obeys 86 = .ok (.ireturn, 1) := by decide +kernel
theorem dX4_obeys_87 : decode cX4_obeys 87 = .ok (.aload_n 0, 1) := by decide +kernel
theorem dX4_obeys_88 : decode cX4_obeys 88 = .ok (.iload_n 2, 1) := by decide +kernel
theorem dX4_obeys_89 : decode cX4_obeys 89 = .ok (.iload_n 3, 1) := by decide +kernel
theorem dX4_obeys_90 : decode cX4_obeys 90 = .ok (.invokevirtual 282, 3) := by decide +kernel
theorem dX4_obeys_93 : decode cX4_obeys 93 = .ok (.ireturn, 1) := by decide +kernel
theorem dX4_obeys_94 : decode cX4_obeys 94 = .ok (.iload_n 3, 1) := by decide +kernel
theorem dX4_obeys_95 : decode cX4_obeys 95 = .ok (.ifCond .ne 15, 3) := by decide +kernel
theorem dX4_obeys_98 : decode cX4_obeys 98 = .ok (.aload_n 0, 1) := by decide +kernel
theorem dX4_obeys_99 : decode cX4_obeys 99 = .ok (.iload_n 2, 1) := by decide +kernel
theorem dX4_obeys_100 : decode cX4_obeys 100 = .ok (.invokevirtual 285, 3) := by decide +kernel
theorem dX4_obeys_103 : decode cX4_obeys 103 = .ok (.ifCond .eq 7, 3) := by decide +kernel
theorem dX4_obeys_106 : decode cX4_obeys 106 = .ok (.iconst 1, 1) := by decide +kernel
theorem dX4_obeys_107 : decode cX4_obeys 107 = .ok (.goto 4, 3) := by decide +kernel
theorem dX4_obeys_110 : decode cX4_obeys 110 = .ok (.iconst 0, 1) := by decide +kernel
theorem dX4_obeys_111 : decode cX4_obeys 111 = .ok (.ireturn, 1) := by decide +kernel
theorem dX4_obeys_112 : decode cX4_obeys 112 = .ok (.iload_n 2, 1) := by decide +kernel
theorem dX4_obeys_113 : decode cX4_obeys 113 = .ok (.bipush 10, 2) := by decide +kernel
theorem dX4_obeys_115 : decode cX4_obeys 115 = .ok (.irem, 1) := by decide +kernel
theorem dX4_obeys_116 : decode cX4_obeys 116 = .ok (.ifCond .ne 19, 3) := by decide +kernel
theorem dX4_obeys_119 : decode cX4_obeys 119 = .ok (.aload_n 0, 1) := by decide +kernel
theorem dX4_obeys_120 : decode cX4_obeys 120 = .ok (.iload_n 2, 1) := by decide +kernel
theorem dX4_obeys_121 : decode cX4_obeys 121 = .ok (.bipush 10, 2) := by decide +kernel
theorem dX4_obeys_123 : decode cX4_obeys 123 = .ok (.idiv, 1) := by decide +kernel
theorem dX4_obeys_124 : decode cX4_obeys 124 = .ok (.iload_n 3, 1) := by decide +kernel
theorem dX4_obeys_125 : decode cX4_obeys 125 = .ok (.invokevirtual 288, 3) := by decide +kernel
theorem dX4_obeys_128 : decode cX4_obeys 128 = .ok (.ifCond .eq 7, 3) := by decide +kernel
theorem dX4_obeys_131 : decode cX4_obeys 131 = .ok (.iconst 1, 1) := by decide +kernel
theorem dX4_obeys_132 : decode cX4_obeys 132 = .ok (.goto 4, 3) := by decide +kernel
theorem dX4_obeys_135 : decode cX4_obeys 135 = .ok (.iconst 0, 1) := by decide +kernel
theorem dX4_obeys_136 : decode cX4_obeys 136 = .ok (.ireturn, 1) := by decide +kernel
theorem dX4_obeys_137 : decode cX4_obeys 137 = .ok (.aload_n 0, 1) := by decide +kernel
theorem dX4_obeys_138 : decode cX4_obeys 138 = .ok (.getfield 16, 3) := by decide +kernel
theorem dX4_obeys_141 : decode cX4_obeys 141 = .ok (.iload_n 2, 1) := by decide +kernel
theorem dX4_obeys_142 : decode cX4_obeys 142 = .ok (.invokevirtual 120, 3) := by decide +kernel
theorem dX4_obeys_145 : decode cX4_obeys 145 = .ok (.ifCond .eq 20, 3) := by decide +kernel
theorem dX4_obeys_148 : decode cX4_obeys 148 = .ok (.aload_n 0, 1) := by decide +kernel
theorem dX4_obeys_149 : decode cX4_obeys 149 = .ok (.getfield 16, 3) := by decide +kernel
theorem dX4_obeys_152 : decode cX4_obeys 152 = .ok (.getfield 291, 3) := by decide +kernel
theorem dX4_obeys_155 : decode cX4_obeys 155 = .ok (.iload_n 2, 1) := by decide +kernel
theorem dX4_obeys_156 : decode cX4_obeys 156 = .ok (.iaload, 1) := by decide +kernel
theorem dX4_obeys_157 : decode cX4_obeys 157 = .ok (.iload_n 3, 1) := by decide +kernel
theorem dX4_obeys_158 : decode cX4_obeys 158 = .ok (.if_icmp .ne 7, 3) := by decide +kernel
theorem dX4_obeys_161 : decode cX4_obeys 161 = .ok (.iconst 1, 1) := by decide +kernel
theorem dX4_obeys_162 : decode cX4_obeys 162 = .ok (.goto 4, 3) := by decide +kernel
theorem dX4_obeys_165 : decode cX4_obeys 165 = .ok (.iconst 0, 1) := by decide +kernel
theorem dX4_obeys_166 : decode cX4_obeys 166 = .ok (.ireturn, 1) := by decide +kernel
theorem dX4_obeys_167 : decode cX4_obeys 167 = .ok (.aload_n 0, 1) := by decide +kernel
theorem dX4_obeys_168 : decode cX4_obeys 168 = .ok (.getfield 16, 3) := by decide +kernel
theorem dX4_obeys_171 : decode cX4_obeys 171 = .ok (.iload_n 2, 1) := by decide +kernel
theorem dX4_obeys_172 : decode cX4_obeys 172 = .ok (.invokevirtual 120, 3) := by decide +kernel
theorem dX4_obeys_175 : decode cX4_obeys 175 = .ok (.ifCond .eq 19, 3) := by decide +kernel
theorem dX4_obeys_178 : decode cX4_obeys 178 = .ok (.aload_n 0, 1) := by decide +kernel
theorem dX4_obeys_179 : decode cX4_obeys 179 = .ok (.getfield 16, 3) := by decide +kernel
theorem dX4_obeys_182 : decode cX4_obeys 182 = .ok (.iload_n 2, 1) := by decide +kernel
theorem dX4_obeys_183 : decode cX4_obeys 183 = .ok (.iload_n 3, 1) := by decide +kernel
theorem dX4_obeys_184 : decode cX4_obeys 184 = .ok (.invokevirtual 180, 3) := by decide +kernel
theorem dX4_obeys_187 : decode cX4_obeys 187 = .ok (.ifCond .eq 7, 3) := by decide +kernel
theorem dX4_obeys_190 : decode cX4_obeys 190 = .ok (.iconst 1, 1) := by decide +kernel
theorem dX4_obeys_191 : decode cX4_obeys 191 = .ok (.goto 4, 3) := by decide +kernel
theorem dX4_obeys_194 : decode cX4_obeys 194 = .ok (.iconst 0, 1) := by decide +kernel
theorem dX4_obeys_195 : decode cX4_obeys 195 = .ok (.ireturn, 1) := by decide +kernel
theorem dX4_obeys_196 : decode cX4_obeys 196 = .ok (.iload_n 2, 1) := by decide +kernel
theorem dX4_obeys_197 : decode cX4_obeys 197 = .ok (.ifCond .ne 19, 3) := by decide +kernel
theorem dX4_obeys_200 : decode cX4_obeys 200 = .ok (.aload_n 0, 1) := by decide +kernel
theorem dX4_obeys_201 : decode cX4_obeys 201 = .ok (.getfield 16, 3) := by decide +kernel
theorem dX4_obeys_204 : decode cX4_obeys 204 = .ok (.iconst 0, 1) := by decide +kernel
theorem dX4_obeys_205 : decode cX4_obeys 205 = .ok (.invokevirtual 104, 3) := by decide +kernel
theorem dX4_obeys_208 : decode cX4_obeys 208 = .ok (.iload_n 3, 1) := by decide +kernel
theorem dX4_obeys_209 : decode cX4_obeys 209 = .ok (.if_icmp .ne 7, 3) := by decide +kernel
theorem dX4_obeys_212 : decode cX4_obeys 212 = .ok (.iconst 1, 1) := by decide +kernel
theorem dX4_obeys_213 : decode cX4_obeys 213 = .ok (.goto 4, 3) := by decide +kernel
theorem dX4_obeys_216 : decode cX4_obeys 216 = .ok (.iconst 0, 1) := by decide +kernel
theorem dX4_obeys_217 : decode cX4_obeys 217 = .ok (.ireturn, 1) := by decide +kernel
theorem dX4_obeys_218 : decode cX4_obeys 218 = .ok (.aload_n 0, 1) := by decide +kernel
theorem dX4_obeys_219 : decode cX4_obeys 219 = .ok (.getfield 16, 3) := by decide +kernel
theorem dX4_obeys_222 : decode cX4_obeys 222 = .ok (.iload_n 3, 1) := by decide +kernel
theorem dX4_obeys_223 : decode cX4_obeys 223 = .ok (.invokevirtual 120, 3) := by decide +kernel
theorem dX4_obeys_226 : decode cX4_obeys 226 = .ok (.ifCond .eq 32, 3) := by decide +kernel
theorem dX4_obeys_229 : decode cX4_obeys 229 = .ok (.aload_n 0, 1) := by decide +kernel
theorem dX4_obeys_230 : decode cX4_obeys 230 = .ok (.getfield 16, 3) := by decide +kernel
theorem dX4_obeys_233 : decode cX4_obeys 233 = .ok (.iload_n 3, 1) := by decide +kernel
theorem dX4_obeys_234 : decode cX4_obeys 234 = .ok (.iconst 0, 1) := by decide +kernel
theorem dX4_obeys_235 : decode cX4_obeys 235 = .ok (.invokevirtual 180, 3) := by decide +kernel
theorem dX4_obeys_238 : decode cX4_obeys 238 = .ok (.ifCond .eq 20, 3) := by decide +kernel
theorem dX4_obeys_241 : decode cX4_obeys 241 = .ok (.aload_n 0, 1) := by decide +kernel
theorem dX4_obeys_242 : decode cX4_obeys 242 = .ok (.getfield 16, 3) := by decide +kernel
theorem dX4_obeys_245 : decode cX4_obeys 245 = .ok (.getfield 195, 3) := by decide +kernel
theorem dX4_obeys_248 : decode cX4_obeys 248 = .ok (.iload_n 3, 1) := by decide +kernel
theorem dX4_obeys_249 : decode cX4_obeys 249 = .ok (.iaload, 1) := by decide +kernel
theorem dX4_obeys_250 : decode cX4_obeys 250 = .ok (.iload_n 2, 1) := by decide +kernel
theorem dX4_obeys_251 : decode cX4_obeys 251 = .ok (.if_icmp .ne 7, 3) := by decide +kernel
theorem dX4_obeys_254 : decode cX4_obeys 254 = .ok (.iconst 1, 1) := by decide +kernel
theorem dX4_obeys_255 : decode cX4_obeys 255 = .ok (.goto 4, 3) := by decide +kernel
theorem dX4_obeys_258 : decode cX4_obeys 258 = .ok (.iconst 0, 1) := by decide +kernel
theorem dX4_obeys_259 : decode cX4_obeys 259 = .ok (.ireturn, 1) := by decide +kernel
theorem dX4_obeys_260 : decode cX4_obeys 260 = .ok (.iconst 0, 1) := by decide +kernel
theorem dX4_obeys_261 : decode cX4_obeys 261 = .ok (.ireturn, 1) := by decide +kernel
set_option maxRecDepth 20000 in
theorem ggX4_triesPutting_X0_has : GoodIn wsX4_triesPutting wsX0_has := goodIn_r _ [6, 7, 40, 41, 42, 43, 44, 45, 46, 47, 48, 49, 50, 51, 52] (by decide +kernel) (by decide +kernel)
set_option maxRecDepth 20000 in
theorem gX4_triesPutting_X0_has : GoodIn wsX4_triesPutting (wsV RX4 120 RX0 yX0_has wsX0_has) := goodIn_app (goodIn_of _ (by decide +kernel)) ggX4_triesPutting_X0_has
set_option maxRecDepth 20000 in
theorem ggX4_triesPutting_X0_hasSlot : GoodIn wsX4_triesPutting wsX0_hasSlot := goodIn_r _ [11, 12, 40, 41, 42, 43, 44, 45, 46, 47, 48, 49, 50, 51, 52] (by decide +kernel) (by decide +kernel)
set_option maxRecDepth 20000 in
theorem gX4_triesPutting_X0_hasSlot : GoodIn wsX4_triesPutting (wsV RX4 138 RX0 yX0_hasSlot wsX0_hasSlot) := goodIn_app (goodIn_of _ (by decide +kernel)) ggX4_triesPutting_X0_hasSlot
set_option maxRecDepth 20000 in
theorem ggX4_triesPutting_X0_isIn : GoodIn wsX4_triesPutting wsX0_isIn := goodIn_r _ [16, 7, 40, 41, 42, 43, 44, 45, 46, 47, 48, 49, 50, 51, 52] (by decide +kernel) (by decide +kernel)
set_option maxRecDepth 20000 in
theorem gX4_triesPutting_X0_isIn : GoodIn wsX4_triesPutting (wsV RX4 180 RX0 yX0_isIn wsX0_isIn) := goodIn_app (goodIn_of _ (by decide +kernel)) ggX4_triesPutting_X0_isIn
set_option maxRecDepth 20000 in
theorem ggX4_triesPutting_X0_isRoomAt : GoodIn wsX4_triesPutting wsX0_isRoomAt := goodIn_r _ [20, 7, 21, 22, 23, 24, 25, 5, 26, 12, 40, 41, 42, 43, 44, 45, 46, 47, 48, 49, 50, 51, 52] (by decide +kernel) (by decide +kernel)
set_option maxRecDepth 20000 in
theorem gX4_triesPutting_X0_isRoomAt : GoodIn wsX4_triesPutting (wsV RX4 184 RX0 yX0_isRoomAt wsX0_isRoomAt) := goodIn_app (goodIn_of _ (by decide +kernel)) ggX4_triesPutting_X0_isRoomAt
set_option maxRecDepth 20000 in
theorem ggX4_triesPutting_X0_hang : GoodIn wsX4_triesPutting wsX0_hang := goodIn_r _ [30, 7, 21, 40, 41, 42, 43, 44, 45, 46, 47, 48, 49, 50, 51, 52] (by decide +kernel) (by decide +kernel)
set_option maxRecDepth 20000 in
theorem gX4_triesPutting_X0_hang : GoodIn wsX4_triesPutting (wsV RX4 189 RX0 yX0_hang wsX0_hang) := goodIn_app (goodIn_of _ (by decide +kernel)) ggX4_triesPutting_X0_hang
theorem dX4_triesPutting_0 : decode cX4_triesPutting 0 = .ok (.aload_n 0, 1) := by decide +kernel
theorem dX4_triesPutting_1 : decode cX4_triesPutting 1 = .ok (.getfield 16, 3) := by decide +kernel
theorem dX4_triesPutting_4 : decode cX4_triesPutting 4 = .ok (.iload_n 1, 1) := by decide +kernel
theorem dX4_triesPutting_5 : decode cX4_triesPutting 5 = .ok (.invokevirtual 120, 3) := by decide +kernel
theorem dX4_triesPutting_8 : decode cX4_triesPutting 8 = .ok (.ifCond .eq 37, 3) := by decide +kernel
theorem dX4_triesPutting_11 : decode cX4_triesPutting 11 = .ok (.aload_n 0, 1) := by decide +kernel
theorem dX4_triesPutting_12 : decode cX4_triesPutting 12 = .ok (.getfield 16, 3) := by decide +kernel
theorem dX4_triesPutting_15 : decode cX4_triesPutting 15 = .ok (.iload_n 2, 1) := by decide +kernel
theorem dX4_triesPutting_16 : decode cX4_triesPutting 16 = .ok (.invokevirtual 138, 3) := by decide +kernel
theorem dX4_triesPutting_19 : decode cX4_triesPutting 19 = .ok (.ifCond .eq 26, 3) := by decide +kernel
theorem dX4_triesPutting_22 : decode cX4_triesPutting 22 = .ok (.aload_n 0, 1) := by decide +kernel
theorem dX4_triesPutting_23 : decode cX4_triesPutting 23 = .ok (.getfield 16, 3) := by decide +kernel
theorem dX4_triesPutting_26 : decode cX4_triesPutting 26 = .ok (.iload_n 1, 1) := by decide +kernel
theorem dX4_triesPutting_27 : decode cX4_triesPutting 27 = .ok (.iconst 1, 1) := by decide +kernel
theorem dX4_triesPutting_28 : decode cX4_triesPutting 28 = .ok (.invokevirtual 180, 3) := by decide +kernel
theorem dX4_triesPutting_31 : decode cX4_triesPutting 31 = .ok (.ifCond .eq 14, 3) := by decide +kernel
theorem dX4_triesPutting_34 : decode cX4_triesPutting 34 = .ok (.aload_n 0, 1) := by decide +kernel
theorem dX4_triesPutting_35 : decode cX4_triesPutting 35 = .ok (.getfield 16, 3) := by decide +kernel
theorem dX4_triesPutting_38 : decode cX4_triesPutting 38 = .ok (.iload_n 2, 1) := by decide +kernel
theorem dX4_triesPutting_39 : decode cX4_triesPutting 39 = .ok (.invokevirtual 184, 3) := by decide +kernel
theorem dX4_triesPutting_42 : decode cX4_triesPutting 42 = .ok (.ifCond .ne 5, 3) := by decide +kernel
theorem dX4_triesPutting_45 : decode cX4_triesPutting 45 = .ok (.iconst 0, 1) := by decide +kernel
theorem dX4_triesPutting_46 : decode cX4_triesPutting 46 = .ok (.ireturn, 1) := by decide +kernel
theorem dX4_triesPutting_47 : decode cX4_triesPutting 47 = .ok (.aload_n 0, 1) := by decide +kernel
theorem dX4_triesPutting_48 : decode cX4_triesPutting 48 = .ok (.getfield 16, 3) := by decide +kernel
theorem dX4_triesPutting_51 : decode cX4_triesPutting 51 = .ok (.iload_n 1, 1) := by decide +kernel
theorem dX4_triesPutting_52 : decode cX4_triesPutting 52 = .ok (.iload_n 2, 1) := by decide +kernel
theorem dX4_triesPutting_53 : decode cX4_triesPutting 53 = .ok (.invokevirtual 189, 3) := by decide +kernel
theorem dX4_triesPutting_56 : decode cX4_triesPutting 56 = .ok (.iconst 1, 1) := by decide +kernel
theorem dX4_triesPutting_57 : decode cX4_triesPutting 57 = .ok (.ireturn, 1) := by decide +kernel
set_option maxRecDepth 20000 in
theorem ggX4_triesTaking_X0_has : GoodIn wsX4_triesTaking wsX0_has := goodIn_r _ [6, 7, 25, 26, 27, 28, 29, 30, 31, 32, 33, 34, 35, 36, 37] (by decide +kernel) (by decide +kernel)
set_option maxRecDepth 20000 in
theorem gX4_triesTaking_X0_has : GoodIn wsX4_triesTaking (wsV RX4 120 RX0 yX0_has wsX0_has) := goodIn_app (goodIn_of _ (by decide +kernel)) ggX4_triesTaking_X0_has
set_option maxRecDepth 20000 in
theorem ggX4_triesTaking_X0_isIn : GoodIn wsX4_triesTaking wsX0_isIn := goodIn_r _ [11, 7, 25, 26, 27, 28, 29, 30, 31, 32, 33, 34, 35, 36, 37] (by decide +kernel) (by decide +kernel)
set_option maxRecDepth 20000 in
theorem gX4_triesTaking_X0_isIn : GoodIn wsX4_triesTaking (wsV RX4 180 RX0 yX0_isIn wsX0_isIn) := goodIn_app (goodIn_of _ (by decide +kernel)) ggX4_triesTaking_X0_isIn
set_option maxRecDepth 20000 in
theorem ggX4_triesTaking_X0_move : GoodIn wsX4_triesTaking wsX0_move := goodIn_r _ [15, 7, 25, 26, 27, 28, 29, 30, 31, 32, 33, 34, 35, 36, 37] (by decide +kernel) (by decide +kernel)
set_option maxRecDepth 20000 in
theorem gX4_triesTaking_X0_move : GoodIn wsX4_triesTaking (wsV RX4 198 RX0 yX0_move wsX0_move) := goodIn_app (goodIn_of _ (by decide +kernel)) ggX4_triesTaking_X0_move
theorem dX4_triesTaking_0 : decode cX4_triesTaking 0 = .ok (.aload_n 0, 1) := by decide +kernel
theorem dX4_triesTaking_1 : decode cX4_triesTaking 1 = .ok (.getfield 16, 3) := by decide +kernel
theorem dX4_triesTaking_4 : decode cX4_triesTaking 4 = .ok (.iload_n 1, 1) := by decide +kernel
theorem dX4_triesTaking_5 : decode cX4_triesTaking 5 = .ok (.invokevirtual 120, 3) := by decide +kernel
theorem dX4_triesTaking_8 : decode cX4_triesTaking 8 = .ok (.ifCond .eq 15, 3) := by decide +kernel
theorem dX4_triesTaking_11 : decode cX4_triesTaking 11 = .ok (.aload_n 0, 1) := by decide +kernel
theorem dX4_triesTaking_12 : decode cX4_triesTaking 12 = .ok (.getfield 16, 3) := by decide +kernel
theorem dX4_triesTaking_15 : decode cX4_triesTaking 15 = .ok (.iload_n 1, 1) := by decide +kernel
theorem dX4_triesTaking_16 : decode cX4_triesTaking 16 = .ok (.iconst 0, 1) := by decide +kernel
theorem dX4_triesTaking_17 : decode cX4_triesTaking 17 = .ok (.invokevirtual 180, 3) := by decide +kernel
theorem dX4_triesTaking_20 : decode cX4_triesTaking 20 = .ok (.ifCond .ne 5, 3) := by decide +kernel
theorem dX4_triesTaking_23 : decode cX4_triesTaking 23 = .ok (.iconst 0, 1) := by decide +kernel
theorem dX4_triesTaking_24 : decode cX4_triesTaking 24 = .ok (.ireturn, 1) := by decide +kernel
theorem dX4_triesTaking_25 : decode cX4_triesTaking 25 = .ok (.aload_n 0, 1) := by decide +kernel
theorem dX4_triesTaking_26 : decode cX4_triesTaking 26 = .ok (.getfield 16, 3) := by decide +kernel
theorem dX4_triesTaking_29 : decode cX4_triesTaking 29 = .ok (.iload_n 1, 1) := by decide +kernel
theorem dX4_triesTaking_30 : decode cX4_triesTaking 30 = .ok (.iconst 1, 1) := by decide +kernel
theorem dX4_triesTaking_31 : decode cX4_triesTaking 31 = .ok (.invokevirtual 198, 3) := by decide +kernel
theorem dX4_triesTaking_34 : decode cX4_triesTaking 34 = .ok (.iconst 1, 1) := by decide +kernel
theorem dX4_triesTaking_35 : decode cX4_triesTaking 35 = .ok (.ireturn, 1) := by decide +kernel
set_option maxRecDepth 20000 in
theorem ggX4_triesLimit_X4_isLimit : GoodIn wsX4_triesLimit wsX4_isLimit := goodIn_r _ [6, 7] (by decide +kernel) (by decide +kernel)
set_option maxRecDepth 20000 in
theorem gX4_triesLimit_X4_isLimit : GoodIn wsX4_triesLimit (va_wsS RX4 206 yX4_isLimit wsX4_isLimit) := goodIn_app (goodIn_of _ (by decide +kernel)) ggX4_triesLimit_X4_isLimit
theorem dX4_triesLimit_0 : decode cX4_triesLimit 0 = .ok (.iload_n 1, 1) := by decide +kernel
theorem dX4_triesLimit_1 : decode cX4_triesLimit 1 = .ok (.iload_n 2, 1) := by decide +kernel
theorem dX4_triesLimit_2 : decode cX4_triesLimit 2 = .ok (.invokestatic 206, 3) := by decide +kernel
theorem dX4_triesLimit_5 : decode cX4_triesLimit 5 = .ok (.ifCond .ne 5, 3) := by decide +kernel
theorem dX4_triesLimit_8 : decode cX4_triesLimit 8 = .ok (.iconst 0, 1) := by decide +kernel
theorem dX4_triesLimit_9 : decode cX4_triesLimit 9 = .ok (.ireturn, 1) := by decide +kernel
theorem dX4_triesLimit_10 : decode cX4_triesLimit 10 = .ok (.aload_n 0, 1) := by decide +kernel
theorem dX4_triesLimit_11 : decode cX4_triesLimit 11 = .ok (.getfield 16, 3) := by decide +kernel
theorem dX4_triesLimit_14 : decode cX4_triesLimit 14 = .ok (.getfield 114, 3) := by decide +kernel
theorem dX4_triesLimit_17 : decode cX4_triesLimit 17 = .ok (.iload_n 1, 1) := by decide +kernel
theorem dX4_triesLimit_18 : decode cX4_triesLimit 18 = .ok (.iload_n 2, 1) := by decide +kernel
theorem dX4_triesLimit_19 : decode cX4_triesLimit 19 = .ok (.iastore, 1) := by decide +kernel
theorem dX4_triesLimit_20 : decode cX4_triesLimit 20 = .ok (.iconst 1, 1) := by decide +kernel
theorem dX4_triesLimit_21 : decode cX4_triesLimit 21 = .ok (.ireturn, 1) := by decide +kernel
