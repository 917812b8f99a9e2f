set_option maxRecDepth 20000 in
theorem ggX1_init_X3_init : GoodIn wsX1_init wsX3_init := goodIn_r _ [13, 14, 2, 3, 15, 16, 17, 40, 41] (by decide +kernel) (by decide +kernel)
set_option maxRecDepth 20000 in
theorem gX1_init_X3_init_n11 : GoodIn wsX1_init (wsX3_init) := ggX1_init_X3_init
set_option maxRecDepth 20000 in
theorem ggX1_init_X0_init : GoodIn wsX1_init wsX0_init := goodIn_r _ [20, 21, 2, 3, 22, 23, 24, 25, 26, 27, 28, 29, 30, 31, 32, 33, 34, 35, 10, 36, 37, 38, 39, 45, 46, 47, 48, 49, 50, 51, 52, 53, 54, 55, 56, 57] (by decide +kernel) (by decide +kernel)
set_option maxRecDepth 20000 in
theorem gX1_init_X0_init : GoodIn wsX1_init (wsX0_init) := ggX1_init_X0_init
theorem dX1_init_0 : decode cX1_init 0 = .ok (.aload_n 0, 1) := by decide +kernel
theorem dX1_init_1 : decode cX1_init 1 = .ok (.invokespecial 3, 3) := by decide +kernel
theorem dX1_init_4 : decode cX1_init 4 = .ok (.aload_n 0, 1) := by decide +kernel
theorem dX1_init_5 : decode cX1_init 5 = .ok (.new 9, 3) := by decide +kernel
theorem dX1_init_8 : decode cX1_init 8 = .ok (.dup, 1) := by decide +kernel
theorem dX1_init_9 : decode cX1_init 9 = .ok (.invokespecial 11, 3) := by decide +kernel
theorem dX1_init_12 : decode cX1_init 12 = .ok (.putfield 12, 3) := by decide +kernel
theorem dX1_init_15 : decode cX1_init 15 = .ok (.aload_n 0, 1) := by decide +kernel
theorem dX1_init_16 : decode cX1_init 16 = .ok (.new 18, 3) := by decide +kernel
theorem dX1_init_19 : decode cX1_init 19 = .ok (.dup, 1) := by decide +kernel
theorem dX1_init_20 : decode cX1_init 20 = .ok (.invokespecial 20, 3) := by decide +kernel
theorem dX1_init_23 : decode cX1_init 23 = .ok (.putfield 21, 3) := by decide +kernel
theorem dX1_init_26 : decode cX1_init 26 = .ok (.return_, 1) := by decide +kernel
set_option maxRecDepth 20000 in
theorem ggX1_findError_X0_clear : GoodIn wsX1_findError wsX0_clear := goodIn_r _ [9, 10, 11, 12, 13, 81, 82, 83, 84, 85, 86, 87, 88, 89, 90, 91, 92, 93] (by decide +kernel) (by decide +kernel)
set_option maxRecDepth 20000 in
theorem gX1_findError_X0_clear : GoodIn wsX1_findError (wsV RX1 29 RX0 yX0_clear wsX0_clear) := goodIn_app (goodIn_of _ (by decide +kernel)) ggX1_findError_X0_clear
set_option maxRecDepth 20000 in
theorem ggX1_findError_X1_readHead : GoodIn wsX1_findError wsX1_readHead := goodIn_r _ [18, 3, 1, 2, 19, 20, 21, 22, 23, 24, 25, 26, 27, 28, 29, 30, 17, 31, 32, 33, 34, 35, 36, 37, 38, 39, 40, 41, 42, 8, 43, 10, 44, 45, 46, 47, 48, 76, 77, 78, 81, 82, 83, 84, 85, 86, 87, 88, 89, 90, 91, 92, 93, 79, 80] (by decide +kernel) (by decide +kernel)
set_option maxRecDepth 20000 in
theorem gX1_findError_X1_readHead : GoodIn wsX1_findError (wsV RX1 32 RX1 yX1_readHead wsX1_readHead) := goodIn_app (goodIn_of _ (by decide +kernel)) ggX1_findError_X1_readHead
set_option maxRecDepth 20000 in
theorem ggX1_findError_X1_readItem : GoodIn wsX1_findError wsX1_readItem := goodIn_r _ [52, 3, 1, 2, 19, 21, 22, 23, 24, 25, 26, 27, 53, 54, 55, 8, 56, 57, 58, 59, 60, 10, 61, 45, 46, 47, 17, 48, 28, 29, 30, 31, 32, 33, 34, 35, 36, 37, 38, 39, 40, 41, 42, 43, 44, 62, 63, 64, 65, 66, 67, 68, 69, 70, 71, 72, 73, 74, 75, 76, 77, 78, 81, 82, 83, 84, 85, 86, 87, 88, 89, 90, 91, 92, 93, 79, 80] (by decide +kernel) (by decide +kernel)
set_option maxRecDepth 20000 in
theorem gX1_findError_X1_readItem : GoodIn wsX1_findError (wsV RX1 39 RX1 yX1_readItem wsX1_readItem) := goodIn_app (goodIn_of _ (by decide +kernel)) ggX1_findError_X1_readItem
theorem dX1_findError_0 : decode cX1_findError 0 = .ok (.aload_n 0, 1) := by decide +kernel
theorem dX1_findError_1 : decode cX1_findError 1 = .ok (.iconst 0, 1) := by decide +kernel
theorem dX1_findError_2 : decode cX1_findError 2 = .ok (.putfield 25, 3) := by decide +kernel
theorem dX1_findError_5 : decode cX1_findError 5 = .ok (.aload_n 0, 1) := by decide +kernel
theorem dX1_findError_6 : decode cX1_findError 6 = .ok (.getfield 21, 3) := by decide +kernel
theorem dX1_findError_9 : decode cX1_findError 9 = .ok (.invokevirtual 29, 3) := by decide +kernel
theorem dX1_findError_12 : decode cX1_findError 12 = .ok (.aload_n 0, 1) := by decide +kernel
theorem dX1_findError_13 : decode cX1_findError 13 = .ok (.invokevirtual 32, 3) := by decide +kernel
theorem dX1_findError_16 : decode cX1_findError 16 = .ok (.istore_n 1, 1) := by decide +kernel
theorem dX1_findError_17 : decode cX1_findError 17 = .ok (.iconst 0, 1) := by decide +kernel
theorem dX1_findError_18 : decode cX1_findError 18 = .ok (.istore_n 2, 1) := by decide +kernel
theorem dX1_findError_19 : decode cX1_findError 19 = .ok (.iload_n 1, 1) := by decide +kernel
theorem dX1_findError_20 : decode cX1_findError 20 = .ok (.ifCond .eq 34, 3) := by decide +kernel
theorem dX1_findError_23 : decode cX1_findError 23 = .ok (.aload_n 0, 1) := by decide +kernel
theorem dX1_findError_24 : decode cX1_findError 24 = .ok (.getfield 25, 3) := by decide +kernel
theorem dX1_findError_27 : decode cX1_findError 27 = .ok (.aload_n 0, 1) := by decide +kernel
theorem dX1_findError_28 : decode cX1_findError 28 = .ok (.getfield 12, 3) := by decide +kernel
theorem dX1_findError_31 : decode cX1_findError 31 = .ok (.getfield 36, 3) := by decide +kernel
theorem dX1_findError_34 : decode cX1_findError 34 = .ok (.if_icmp .ge 20, 3) := by decide +kernel
theorem dX1_findError_37 : decode cX1_findError 37 = .ok (.iload_n 2, 1) := by decide +kernel
theorem dX1_findError_38 : decode cX1_findError 38 = .ok (.bipush 12, 2) := by decide +kernel
theorem dX1_findError_40 : decode cX1_findError 40 = .ok (.if_icmp .gt 14, 3) := by decide +kernel
theorem dX1_findError_43 : decode cX1_findError 43 = .ok (.aload_n 0, 1) := by decide +kernel
theorem dX1_findError_44 : decode cX1_findError 44 = .ok (.invokevirtual 39, 3) := by decide +kernel
theorem dX1_findError_47 : decode cX1_findError 47 = .ok (.istore_n 1, 1) := by decide +kernel
theorem dX1_findError_48 : decode cX1_findError 48 = .ok (.iinc 2 1, 3) := by decide +kernel
theorem dX1_findError_51 : decode cX1_findError 51 = .ok (.goto (-32), 3) := by decide +kernel
theorem dX1_findError_54 : decode cX1_findError 54 = .ok (.iload_n 1, 1) := by decide +kernel
theorem dX1_findError_55 : decode cX1_findError 55 = .ok (.ifCond .eq 8, 3) := by decide +kernel
theorem dX1_findError_58 : decode cX1_findError 58 = .ok (.bipush (-9), 2) := by decide +kernel
theorem dX1_findError_60 : decode cX1_findError 60 = .ok (.goto 7, 3) := by decide +kernel
theorem dX1_findError_63 : decode cX1_findError 63 = .ok (.aload_n 0, 1) := by decide +kernel
theorem dX1_findError_64 : decode cX1_findError 64 = .ok (.getfield 25, 3) := by decide +kernel
theorem dX1_findError_67 : decode cX1_findError 67 = .ok (.ireturn, 1) := by decide +kernel
set_option maxRecDepth 20000 in
theorem ggX1_readHead_X3_at : GoodIn wsX1_readHead wsX3_at := goodIn_r _ [10, 11, 12, 53, 54] (by decide +kernel) (by decide +kernel)
set_option maxRecDepth 20000 in
theorem gX1_readHead_X3_at : GoodIn wsX1_readHead (wsV RX1 42 RX3 yX3_at wsX3_at) := goodIn_app (goodIn_of _ (by decide +kernel)) ggX1_readHead_X3_at
set_option maxRecDepth 20000 in
theorem ggX1_readHead_X1_readPair : GoodIn wsX1_readHead wsX1_readPair := goodIn_r _ [17, 1, 2, 6, 7, 8, 9, 10, 11, 12, 18, 19, 20, 16, 21, 22, 23, 24, 25, 3, 26, 27, 28, 29, 30, 31, 32, 37, 38, 39, 53, 54, 40, 41, 42, 43, 44, 45, 46, 47, 48, 49, 50, 51, 52] (by decide +kernel) (by decide +kernel)
set_option maxRecDepth 20000 in
theorem gX1_readHead_X1_readPair : GoodIn wsX1_readHead (wsV RX1 45 RX1 yX1_readPair wsX1_readPair) := goodIn_app (goodIn_of _ (by decide +kernel)) ggX1_readHead_X1_readPair
set_option maxRecDepth 20000 in
theorem ggX1_readHead_X1_readDigit : GoodIn wsX1_readHead wsX1_readDigit := goodIn_r _ [36, 1, 2, 6, 7, 8, 9, 10, 11, 12, 37, 38, 39, 53, 54] (by decide +kernel) (by decide +kernel)
set_option maxRecDepth 20000 in
theorem gX1_readHead_X1_readDigit : GoodIn wsX1_readHead (wsV RX1 56 RX1 yX1_readDigit wsX1_readDigit) := goodIn_app (goodIn_of _ (by decide +kernel)) ggX1_readHead_X1_readDigit
theorem dX1_readHead_0 : decode cX1_readHead 0 = .ok (.aload_n 0, 1) := by decide +kernel
theorem dX1_readHead_1 : decode cX1_readHead 1 = .ok (.getfield 12, 3) := by decide +kernel
theorem dX1_readHead_4 : decode cX1_readHead 4 = .ok (.aload_n 0, 1) := by decide +kernel
theorem dX1_readHead_5 : decode cX1_readHead 5 = .ok (.getfield 25, 3) := by decide +kernel
theorem dX1_readHead_8 : decode cX1_readHead 8 = .ok (.invokevirtual 42, 3) := by decide +kernel
theorem dX1_readHead_11 : decode cX1_readHead 11 = .ok (.bipush 76, 2) := by decide +kernel
theorem dX1_readHead_13 : decode cX1_readHead 13 = .ok (.if_icmp .eq 5, 3) := by decide +kernel
theorem dX1_readHead_16 : decode cX1_readHead 16 = .ok (.iconst 0, 1) := by decide +kernel
theorem dX1_readHead_17 : decode cX1_readHead 17 = .ok (.ireturn, 1) := by decide +kernel
theorem dX1_readHead_18 : decode cX1_readHead 18 = .ok (.aload_n 0, 1) := by decide +kernel
theorem dX1_readHead_19 : decode cX1_readHead 19 = .ok (.dup, 1) := by decide +kernel
theorem dX1_readHead_20 : decode cX1_readHead 20 = .ok (.getfield 25, 3) := by decide +kernel
theorem dX1_readHead_23 : decode cX1_readHead 23 = .ok (.iconst 1, 1) := by decide +kernel
theorem dX1_readHead_24 : decode cX1_readHead 24 = .ok (.iadd, 1) := by decide +kernel
theorem dX1_readHead_25 : decode cX1_readHead 25 = .ok (.putfield 25, 3) := by decide +kernel
theorem dX1_readHead_28 : decode cX1_readHead 28 = .ok (.aload_n 0, 1) := by decide +kernel
theorem dX1_readHead_29 : decode cX1_readHead 29 = .ok (.iconst 4, 1) := by decide +kernel
theorem dX1_readHead_30 : decode cX1_readHead 30 = .ok (.bipush 20, 2) := by decide +kernel
theorem dX1_readHead_32 : decode cX1_readHead 32 = .ok (.iconst 0, 1) := by decide +kernel
theorem dX1_readHead_33 : decode cX1_readHead 33 = .ok (.invokevirtual 45, 3) := by decide +kernel
theorem dX1_readHead_36 : decode cX1_readHead 36 = .ok (.istore_n 1, 1) := by decide +kernel
theorem dX1_readHead_37 : decode cX1_readHead 37 = .ok (.iload_n 1, 1) := by decide +kernel
theorem dX1_readHead_38 : decode cX1_readHead 38 = .ok (.iconst (-1), 1) := by decide +kernel
theorem dX1_readHead_39 : decode cX1_readHead 39 = .ok (.if_icmp .ne 5, 3) := by decide +kernel
theorem dX1_readHead_42 : decode cX1_readHead 42 = .ok (.iconst 0, 1) := by decide +kernel
theorem dX1_readHead_43 : decode cX1_readHead 43 = .ok (.ireturn, 1) := by decide +kernel
theorem dX1_readHead_44 : decode cX1_readHead 44 = .ok (.aload_n 0, 1) := by decide +kernel
theorem dX1_readHead_45 : decode cX1_readHead 45 = .ok (.getfield 21, 3) := by decide +kernel
theorem dX1_readHead_48 : decode cX1_readHead 48 = .ok (.iload_n 1, 1) := by decide +kernel
theorem dX1_readHead_49 : decode cX1_readHead 49 = .ok (.putfield 49, 3) := by decide +kernel
theorem dX1_readHead_52 : decode cX1_readHead 52 = .ok (.iconst 0, 1) := by decide +kernel
theorem dX1_readHead_53 : decode cX1_readHead 53 = .ok (.istore_n 2, 1) := by decide +kernel
theorem dX1_readHead_54 : decode cX1_readHead 54 = .ok (.iload_n 2, 1) := by decide +kernel
theorem dX1_readHead_55 : decode cX1_readHead 55 = .ok (.iconst 5, 1) := by decide +kernel
theorem dX1_readHead_56 : decode cX1_readHead 56 = .ok (.if_icmp .ge 58, 3) := by decide +kernel
theorem dX1_readHead_59 : decode cX1_readHead 59 = .ok (.getstatic 52, 3) := by decide +kernel
theorem dX1_readHead_62 : decode cX1_readHead 62 = .ok (.iload_n 2, 1) := by decide +kernel
theorem dX1_readHead_63 : decode cX1_readHead 63 = .ok (.iaload, 1) := by decide +kernel
theorem dX1_readHead_64 : decode cX1_readHead 64 = .ok (.istore_n 3, 1) := by decide +kernel
theorem dX1_readHead_65 : decode cX1_readHead 65 = .ok (.iload_n 3, 1) := by decide +kernel
theorem dX1_readHead_66 : decode cX1_readHead 66 = .ok (.bipush 9, 2) := by decide +kernel
theorem dX1_readHead_68 : decode cX1_readHead 68 = .ok (.if_icmp .le 13, 3) := by decide +kernel
theorem dX1_readHead_71 : decode cX1_readHead 71 = .ok (.aload_n 0, 1) := by decide +kernel
theorem dX1_readHead_72 : decode cX1_readHead 72 = .ok (.iconst 1, 1) := by decide +kernel
theorem dX1_readHead_73 : decode cX1_readHead 73 = .ok (.iload_n 3, 1) := by decide +kernel
theorem dX1_readHead_74 : decode cX1_readHead 74 = .ok (.iconst 0, 1) := by decide +kernel
theorem dX1_readHead_75 : decode cX1_readHead 75 = .ok (.invokevirtual 45, 3) := by decide +kernel
theorem dX1_readHead_78 : decode cX1_readHead 78 = .ok (.goto 9, 3) := by decide +kernel
theorem dX1_readHead_81 : decode cX1_readHead 81 = .ok (.aload_n 0, 1) := by decide +kernel
theorem dX1_readHead_82 : decode cX1_readHead 82 = .ok (.iconst 1, 1) := by decide +kernel
theorem dX1_readHead_83 : decode cX1_readHead 83 = .ok (.iload_n 3, 1) := by decide +kernel
theorem dX1_readHead_84 : decode cX1_readHead 84 = .ok (.invokevirtual 56, 3) := by decide +kernel
theorem dX1_readHead_87 : decode cX1_readHead 87 = .ok (.istore 4, 2) := by decide +kernel
theorem dX1_readHead_89 : decode cX1_readHead 89 = .ok (.iload 4, 2) := by decide +kernel
theorem dX1_readHead_91 : decode cX1_readHead 91 = .ok (.iconst (-1), 1) := by decide +kernel
theorem dX1_readHead_92 : decode cX1_readHead 92 = .ok (.if_icmp .ne 5, 3) := by decide +kernel
theorem dX1_readHead_95 : decode cX1_readHead 95 = .ok (.iconst 0, 1) := by decide +kernel
theorem dX1_readHead_96 : decode cX1_readHead 96 = .ok (.ireturn, 1) := by decide +kernel
theorem dX1_readHead_97 : decode cX1_readHead 97 = .ok (.aload_n 0, 1) := by decide +kernel
theorem dX1_readHead_98 : decode cX1_readHead 98 = .ok (.getfield 21, 3) := by decide +kernel
theorem dX1_readHead_101 : decode cX1_readHead 101 = .ok (.getfield 60, 3) := by decide +kernel
theorem dX1_readHead_104 : decode cX1_readHead 104 = .ok (.iload_n 2, 1) := by decide +kernel
theorem dX1_readHead_105 : decode cX1_readHead 105 = .ok (.iload 4, 2) := by decide +kernel
theorem dX1_readHead_107 : decode cX1_readHead 107 = .ok (.iastore, 1) := by decide +kernel
theorem dX1_readHead_108 : decode cX1_readHead 108 = .ok (.iinc 2 1, 3) := by decide +kernel
theorem dX1_readHead_111 : decode cX1_readHead 111 = .ok (.goto (-57), 3) := by decide +kernel
theorem dX1_readHead_114 : decode cX1_readHead 114 = .ok (.iconst 1, 1) := by decide +kernel
theorem dX1_readHead_115 : decode cX1_readHead 115 = .ok (.ireturn, 1) := by decide +kernel
set_option maxRecDepth 20000 in
theorem ggX1_readItem_X3_at : GoodIn wsX1_readItem wsX3_at := goodIn_r _ [9, 10, 11, 75, 76] (by decide +kernel) (by decide +kernel)
set_option maxRecDepth 20000 in
theorem gX1_readItem_X3_at : GoodIn wsX1_readItem (wsV RX1 42 RX3 yX3_at wsX3_at) := goodIn_app (goodIn_of _ (by decide +kernel)) ggX1_readItem_X3_at
set_option maxRecDepth 20000 in
theorem ggX1_readItem_X0_grips : GoodIn wsX1_readItem wsX0_grips := goodIn_r _ [16, 17, 18, 19, 15, 20, 21, 62, 63, 64, 65, 66, 67, 68, 69, 70, 71, 72, 73, 74] (by decide +kernel) (by decide +kernel)
set_option maxRecDepth 20000 in
theorem gX1_readItem_X0_grips : GoodIn wsX1_readItem (wsV RX1 63 RX0 yX0_grips wsX0_grips) := goodIn_app (goodIn_of _ (by decide +kernel)) ggX1_readItem_X0_grips
set_option maxRecDepth 20000 in
theorem ggX1_readItem_X0_count : GoodIn wsX1_readItem wsX0_count := goodIn_r _ [20, 21, 62, 63, 64, 65, 66, 67, 68, 69, 70, 71, 72, 73, 74] (by decide +kernel) (by decide +kernel)
set_option maxRecDepth 20000 in
theorem gX1_readItem_X0_count : GoodIn wsX1_readItem (wsV RX1 67 RX0 yX0_count wsX0_count) := goodIn_app (goodIn_of _ (by decide +kernel)) ggX1_readItem_X0_count
set_option maxRecDepth 20000 in
theorem ggX1_readItem_X1_readDigit : GoodIn wsX1_readItem wsX1_readDigit := goodIn_r _ [27, 1, 2, 5, 6, 7, 8, 9, 10, 11, 59, 60, 61, 75, 76] (by decide +kernel) (by decide +kernel)
set_option maxRecDepth 20000 in
theorem gX1_readItem_X1_readDigit : GoodIn wsX1_readItem (wsV RX1 56 RX1 yX1_readDigit wsX1_readDigit) := goodIn_app (goodIn_of _ (by decide +kernel)) ggX1_readItem_X1_readDigit
set_option maxRecDepth 20000 in
theorem ggX1_readItem_X1_readPair : GoodIn wsX1_readItem wsX1_readPair := goodIn_r _ [31, 1, 2, 5, 6, 7, 8, 9, 10, 11, 32, 33, 34, 26, 35, 36, 37, 38, 39, 3, 40, 41, 42, 15, 43, 21, 44, 59, 60, 61, 75, 76, 62, 63, 64, 65, 66, 67, 68, 69, 70, 71, 72, 73, 74] (by decide +kernel) (by decide +kernel)
set_option maxRecDepth 20000 in
theorem gX1_readItem_X1_readPair : GoodIn wsX1_readItem (wsV RX1 45 RX1 yX1_readPair wsX1_readPair) := goodIn_app (goodIn_of _ (by decide +kernel)) ggX1_readItem_X1_readPair
set_option maxRecDepth 20000 in
theorem ggX1_readItem_X0_add : GoodIn wsX1_readItem wsX0_add := goodIn_r _ [48, 49, 50, 51, 52, 53, 21, 54, 13, 14, 15, 16, 17, 18, 19, 20, 62, 63, 64, 65, 66, 67, 68, 69, 70, 71, 72, 73, 74] (by decide +kernel) (by decide +kernel)
set_option maxRecDepth 20000 in
theorem gX1_readItem_X0_add : GoodIn wsX1_readItem (wsV RX1 70 RX0 yX0_add wsX0_add) := goodIn_app (goodIn_of _ (by decide +kernel)) ggX1_readItem_X0_add
set_option maxRecDepth 20000 in
theorem ggX1_readItem_X0_hang : GoodIn wsX1_readItem wsX0_hang := goodIn_r _ [58, 21, 44, 62, 63, 64, 65, 66, 67, 68, 69, 70, 71, 72, 73, 74] (by decide +kernel) (by decide +kernel)
set_option maxRecDepth 20000 in
theorem gX1_readItem_X0_hang : GoodIn wsX1_readItem (wsV RX1 74 RX0 yX0_hang wsX0_hang) := goodIn_app (goodIn_of _ (by decide +kernel)) ggX1_readItem_X0_hang
theorem dX1_readItem_0 : decode cX1_readItem 0 = .ok (.aload_n 0, 1) := by decide +kernel
theorem dX1_readItem_1 : decode cX1_readItem 1 = .ok (.getfield 12, 3) := by decide +kernel
theorem dX1_readItem_4 : decode cX1_readItem 4 = .ok (.aload_n 0, 1) := by decide +kernel
theorem dX1_readItem_5 : decode cX1_readItem 5 = .ok (.getfield 25, 3) := by decide +kernel
theorem dX1_readItem_8 : decode cX1_readItem 8 = .ok (.invokevirtual 42, 3) := by decide +kernel
theorem dX1_readItem_11 : decode cX1_readItem 11 = .ok (.istore_n 1, 1) := by decide +kernel
theorem dX1_readItem_12 : decode cX1_readItem 12 = .ok (.iload_n 1, 1) := by decide +kernel
theorem dX1_readItem_13 : decode cX1_readItem 13 = .ok (.bipush 103, 2) := by decide +kernel
theorem dX1_readItem_15 : decode cX1_readItem 15 = .ok (.if_icmp .ne 7, 3) := by decide +kernel
theorem dX1_readItem_18 : decode cX1_readItem 18 = .ok (.iconst 1, 1) := by decide +kernel
theorem dX1_readItem_19 : decode cX1_readItem 19 = .ok (.goto 4, 3) := by decide +kernel
theorem dX1_readItem_22 : decode cX1_readItem 22 = .ok (.iconst 0, 1) := by decide +kernel
theorem dX1_readItem_23 : decode cX1_readItem 23 = .ok (.istore_n 2, 1) := by decide +kernel
theorem dX1_readItem_24 : decode cX1_readItem 24 = .ok (.aload_n 0, 1) := by decide +kernel
theorem dX1_readItem_25 : decode cX1_readItem 25 = .ok (.getfield 21, 3) := by decide +kernel
theorem dX1_readItem_28 : decode cX1_readItem 28 = .ok (.invokevirtual 63, 3) := by decide +kernel
theorem dX1_readItem_31 : decode cX1_readItem 31 = .ok (.istore_n 3, 1) := by decide +kernel
theorem dX1_readItem_32 : decode cX1_readItem 32 = .ok (.iload_n 3, 1) := by decide +kernel
theorem dX1_readItem_33 : decode cX1_readItem 33 = .ok (.bipush 12, 2) := by decide +kernel
theorem dX1_readItem_35 : decode cX1_readItem 35 = .ok (.if_icmp .ge 13, 3) := by decide +kernel
theorem dX1_readItem_38 : decode cX1_readItem 38 = .ok (.iload_n 2, 1) := by decide +kernel
theorem dX1_readItem_39 : decode cX1_readItem 39 = .ok (.ifCond .ne 11, 3) := by decide +kernel
theorem dX1_readItem_42 : decode cX1_readItem 42 = .ok (.iload_n 1, 1) := by decide +kernel
theorem dX1_readItem_43 : decode cX1_readItem 43 = .ok (.bipush 104, 2) := by decide +kernel
theorem dX1_readItem_45 : decode cX1_readItem 45 = .ok (.if_icmp .eq 5, 3) := by decide +kernel
theorem dX1_readItem_48 : decode cX1_readItem 48 = .ok (.iconst 0, 1) := by decide +kernel
theorem dX1_readItem_49 : decode cX1_readItem 49 = .ok (.ireturn, 1) := by decide +kernel
theorem dX1_readItem_50 : decode cX1_readItem 50 = .ok (.iload_n 2, 1) := by decide +kernel
theorem dX1_readItem_51 : decode cX1_readItem 51 = .ok (.ifCond .eq 23, 3) := by decide +kernel
theorem dX1_readItem_54 : decode cX1_readItem 54 = .ok (.aload_n 0, 1) := by decide +kernel
theorem dX1_readItem_55 : decode cX1_readItem 55 = .ok (.getfield 21, 3) := by decide +kernel
theorem dX1_readItem_58 : decode cX1_readItem 58 = .ok (.iconst 0, 1) := by decide +kernel
theorem dX1_readItem_59 : decode cX1_readItem 59 = .ok (.invokevirtual 67, 3) := by decide +kernel
theorem dX1_readItem_62 : decode cX1_readItem 62 = .ok (.aload_n 0, 1) := by decide +kernel
theorem dX1_readItem_63 : decode cX1_readItem 63 = .ok (.getfield 21, 3) := by decide +kernel
theorem dX1_readItem_66 : decode cX1_readItem 66 = .ok (.getfield 49, 3) := by decide +kernel
theorem dX1_readItem_69 : decode cX1_readItem 69 = .ok (.if_icmp .lt 5, 3) := by decide +kernel
theorem dX1_readItem_72 : decode cX1_readItem 72 = .ok (.iconst 0, 1) := by decide +kernel
theorem dX1_readItem_73 : decode cX1_readItem 73 = .ok (.ireturn, 1) := by decide +kernel
theorem dX1_readItem_74 : decode cX1_readItem 74 = .ok (.aload_n 0, 1) := by decide +kernel
theorem dX1_readItem_75 : decode cX1_readItem 75 = .ok (.dup, 1) := by decide +kernel
theorem dX1_readItem_76 : decode cX1_readItem 76 = .ok (.getfield 25, 3) := by decide +kernel
theorem dX1_readItem_79 : decode cX1_readItem 79 = .ok (.iconst 1, 1) := by decide +kernel
theorem dX1_readItem_80 : decode cX1_readItem 80 = .ok (.iadd, 1) := by decide +kernel
theorem dX1_readItem_81 : decode cX1_readItem 81 = .ok (.putfield 25, 3) := by decide +kernel
theorem dX1_readItem_84 : decode cX1_readItem 84 = .ok (.aload_n 0, 1) := by decide +kernel
theorem dX1_readItem_85 : decode cX1_readItem 85 = .ok (.iconst 0, 1) := by decide +kernel
theorem dX1_readItem_86 : decode cX1_readItem 86 = .ok (.iconst 3, 1) := by decide +kernel
theorem dX1_readItem_87 : decode cX1_readItem 87 = .ok (.invokevirtual 56, 3) := by decide +kernel
theorem dX1_readItem_90 : decode cX1_readItem 90 = .ok (.istore 4, 2) := by decide +kernel
theorem dX1_readItem_92 : decode cX1_readItem 92 = .ok (.iload 4, 2) := by decide +kernel
theorem dX1_readItem_94 : decode cX1_readItem 94 = .ok (.iconst (-1), 1) := by decide +kernel
theorem dX1_readItem_95 : decode cX1_readItem 95 = .ok (.if_icmp .ne 5, 3) := by decide +kernel
theorem dX1_readItem_98 : decode cX1_readItem 98 = .ok (.iconst 0, 1) := by decide +kernel
theorem dX1_readItem_99 : decode cX1_readItem 99 = .ok (.ireturn, 1) := by decide +kernel
theorem dX1_readItem_100 : decode cX1_readItem 100 = .ok (.iload_n 2, 1) := by decide +kernel
theorem dX1_readItem_101 : decode cX1_readItem 101 = .ok (.ifCond .eq 21, 3) := by decide +kernel
theorem dX1_readItem_104 : decode cX1_readItem 104 = .ok (.aload_n 0, 1) := by decide +kernel
theorem dX1_readItem_105 : decode cX1_readItem 105 = .ok (.iconst 0, 1) := by decide +kernel
theorem dX1_readItem_106 : decode cX1_readItem 106 = .ok (.aload_n 0, 1) := by decide +kernel
theorem dX1_readItem_107 : decode cX1_readItem 107 = .ok (.getfield 21, 3) := by decide +kernel
theorem dX1_readItem_110 : decode cX1_readItem 110 = .ok (.getfield 49, 3) := by decide +kernel
theorem dX1_readItem_113 : decode cX1_readItem 113 = .ok (.iconst 1, 1) := by decide +kernel
theorem dX1_readItem_114 : decode cX1_readItem 114 = .ok (.isub, 1) := by decide +kernel
theorem dX1_readItem_115 : decode cX1_readItem 115 = .ok (.iconst 1, 1) := by decide +kernel
theorem dX1_readItem_116 : decode cX1_readItem 116 = .ok (.invokevirtual 45, 3) := by decide +kernel
theorem dX1_readItem_119 : decode cX1_readItem 119 = .ok (.goto 4, 3) := by decide +kernel
theorem dX1_readItem_122 : decode cX1_readItem 122 = .ok (.iconst 0, 1) := by decide +kernel
theorem dX1_readItem_123 : decode cX1_readItem 123 = .ok (.istore 5, 2) := by decide +kernel
theorem dX1_readItem_125 : decode cX1_readItem 125 = .ok (.iload 5, 2) := by decide +kernel
theorem dX1_readItem_127 : decode cX1_readItem 127 = .ok (.iconst (-1), 1) := by decide +kernel
theorem dX1_readItem_128 : decode cX1_readItem 128 = .ok (.if_icmp .ne 5, 3) := by decide +kernel
theorem dX1_readItem_131 : decode cX1_readItem 131 = .ok (.iconst 0, 1) := by decide +kernel
theorem dX1_readItem_132 : decode cX1_readItem 132 = .ok (.ireturn, 1) := by decide +kernel
theorem dX1_readItem_133 : decode cX1_readItem 133 = .ok (.aload_n 0, 1) := by decide +kernel
theorem dX1_readItem_134 : decode cX1_readItem 134 = .ok (.getfield 21, 3) := by decide +kernel
theorem dX1_readItem_137 : decode cX1_readItem 137 = .ok (.iload 4, 2) := by decide +kernel
theorem dX1_readItem_139 : decode cX1_readItem 139 = .ok (.invokevirtual 70, 3) := by decide +kernel
theorem dX1_readItem_142 : decode cX1_readItem 142 = .ok (.iload_n 2, 1) := by decide +kernel
theorem dX1_readItem_143 : decode cX1_readItem 143 = .ok (.ifCond .eq 13, 3) := by decide +kernel
theorem dX1_readItem_146 : decode cX1_readItem 146 = .ok (.aload_n 0, 1) := by decide +kernel
theorem dX1_readItem_147 : decode cX1_readItem 147 = .ok (.getfield 21, 3) := by decide +kernel
theorem dX1_readItem_150 : decode cX1_readItem 150 = .ok (.iload_n 3, 1) := by decide +kernel
theorem dX1_readItem_151 : decode cX1_readItem 151 = .ok (.iload 5, 2) := by decide +kernel
theorem dX1_readItem_153 : decode cX1_readItem 153 = .ok (.invokevirtual 74, 3) := by decide +kernel
theorem dX1_readItem_156 : decode cX1_readItem 156 = .ok (.iconst 1, 1) := by decide +kernel
theorem dX1_readItem_157 : decode cX1_readItem 157 = .ok (.ireturn, 1) := by decide +kernel
set_option maxRecDepth 20000 in
theorem ggX1_readDigit_X3_at : GoodIn wsX1_readDigit wsX3_at := goodIn_r _ [7, 8, 9, 13, 14] (by decide +kernel) (by decide +kernel)
set_option maxRecDepth 20000 in
theorem gX1_readDigit_X3_at : GoodIn wsX1_readDigit (wsV RX1 42 RX3 yX3_at wsX3_at) := goodIn_app (goodIn_of _ (by decide +kernel)) ggX1_readDigit_X3_at
theorem dX1_readDigit_0 : decode cX1_readDigit 0 = .ok (.aload_n 0, 1) := by decide +kernel
theorem dX1_readDigit_1 : decode cX1_readDigit 1 = .ok (.getfield 12, 3) := by decide +kernel
theorem dX1_readDigit_4 : decode cX1_readDigit 4 = .ok (.aload_n 0, 1) := by decide +kernel
theorem dX1_readDigit_5 : decode cX1_readDigit 5 = .ok (.getfield 25, 3) := by decide +kernel
theorem dX1_readDigit_8 : decode cX1_readDigit 8 = .ok (.invokevirtual 42, 3) := by decide +kernel
theorem dX1_readDigit_11 : decode cX1_readDigit 11 = .ok (.bipush 48, 2) := by decide +kernel
theorem dX1_readDigit_13 : decode cX1_readDigit 13 = .ok (.isub, 1) := by decide +kernel
theorem dX1_readDigit_14 : decode cX1_readDigit 14 = .ok (.istore_n 3, 1) := by decide +kernel
theorem dX1_readDigit_15 : decode cX1_readDigit 15 = .ok (.iload_n 3, 1) := by decide +kernel
theorem dX1_readDigit_16 : decode cX1_readDigit 16 = .ok (.iload_n 1, 1) := by decide +kernel
theorem dX1_readDigit_17 : decode cX1_readDigit 17 = .ok (.if_icmp .lt 8, 3) := by decide +kernel
theorem dX1_readDigit_20 : decode cX1_readDigit 20 = .ok (.iload_n 3, 1) := by decide +kernel
theorem dX1_readDigit_21 : decode cX1_readDigit 21 = .ok (.iload_n 2, 1) := by decide +kernel
theorem dX1_readDigit_22 : decode cX1_readDigit 22 = .ok (.if_icmp .le 5, 3) := by decide +kernel
theorem dX1_readDigit_25 : decode cX1_readDigit 25 = .ok (.iconst (-1), 1) := by decide +kernel
theorem dX1_readDigit_26 : decode cX1_readDigit 26 = .ok (.ireturn, 1) := by decide +kernel
theorem dX1_readDigit_27 : decode cX1_readDigit 27 = .ok (.aload_n 0, 1) := by decide +kernel
theorem dX1_readDigit_28 : decode cX1_readDigit 28 = .ok (.dup, 1) := by decide +kernel
theorem dX1_readDigit_29 : decode cX1_readDigit 29 = .ok (.getfield 25, 3) := by decide +kernel
theorem dX1_readDigit_32 : decode cX1_readDigit 32 = .ok (.iconst 1, 1) := by decide +kernel
theorem dX1_readDigit_33 : decode cX1_readDigit 33 = .ok (.iadd, 1) := by decide +kernel
theorem dX1_readDigit_34 : decode cX1_readDigit 34 = .ok (.putfield 25, 3) := by decide +kernel
theorem dX1_readDigit_37 : decode cX1_readDigit 37 = .ok (.iload_n 3, 1) := by decide +kernel
theorem dX1_readDigit_38 : decode cX1_readDigit 38 = .ok (.ireturn, 1) := by decide +kernel
set_option maxRecDepth 20000 in
theorem ggX1_readPair_X3_at : GoodIn wsX1_readPair wsX3_at := goodIn_r _ [7, 8, 9, 30, 31] (by decide +kernel) (by decide +kernel)
set_option maxRecDepth 20000 in
theorem gX1_readPair_X3_at : GoodIn wsX1_readPair (wsV RX1 42 RX3 yX3_at wsX3_at) := goodIn_app (goodIn_of _ (by decide +kernel)) ggX1_readPair_X3_at
set_option maxRecDepth 20000 in
theorem ggX1_readPair_X1_isBegin : GoodIn wsX1_readPair wsX1_isBegin := goodIn_r _ [14, 15, 16, 17, 13, 18, 19, 20, 21, 22, 23, 24, 25, 26, 27, 28, 29, 32, 33, 34, 35, 36, 37, 38, 39, 40, 41, 42, 43, 44] (by decide +kernel) (by decide +kernel)
set_option maxRecDepth 20000 in
theorem gX1_readPair_X1_isBegin : GoodIn wsX1_readPair (wsV RX1 78 RX1 yX1_isBegin wsX1_isBegin) := goodIn_app (goodIn_of _ (by decide +kernel)) ggX1_readPair_X1_isBegin
set_option maxRecDepth 20000 in
theorem ggX1_readPair_X1_isAllowed : GoodIn wsX1_readPair wsX1_isAllowed := goodIn_r _ [18, 19, 20, 21, 22, 23, 24, 25, 26, 27, 28, 29, 32, 33, 34, 35, 36, 37, 38, 39, 40, 41, 42, 43, 44] (by decide +kernel) (by decide +kernel)
set_option maxRecDepth 20000 in
theorem gX1_readPair_X1_isAllowed : GoodIn wsX1_readPair (wsV RX1 82 RX1 yX1_isAllowed wsX1_isAllowed) := goodIn_app (goodIn_of _ (by decide +kernel)) ggX1_readPair_X1_isAllowed
theorem dX1_readPair_0 : decode cX1_readPair 0 = .ok (.aload_n 0, 1) := by decide +kernel
theorem dX1_readPair_1 : decode cX1_readPair 1 = .ok (.getfield 12, 3) := by decide +kernel
theorem dX1_readPair_4 : decode cX1_readPair 4 = .ok (.aload_n 0, 1) := by decide +kernel
theorem dX1_readPair_5 : decode cX1_readPair 5 = .ok (.getfield 25, 3) := by decide +kernel
theorem dX1_readPair_8 : decode cX1_readPair 8 = .ok (.invokevirtual 42, 3) := by decide +kernel
theorem dX1_readPair_11 : decode cX1_readPair 11 = .ok (.bipush 48, 2) := by decide +kernel
theorem dX1_readPair_13 : decode cX1_readPair 13 = .ok (.isub, 1) := by decide +kernel
theorem dX1_readPair_14 : decode cX1_readPair 14 = .ok (.istore 4, 2) := by decide +kernel
theorem dX1_readPair_16 : decode cX1_readPair 16 = .ok (.aload_n 0, 1) := by decide +kernel
theorem dX1_readPair_17 : decode cX1_readPair 17 = .ok (.iload 4, 2) := by decide +kernel
theorem dX1_readPair_19 : decode cX1_readPair 19 = .ok (.iload_n 1, 1) := by decide +kernel
theorem dX1_readPair_20 : decode cX1_readPair 20 = .ok (.iload_n 2, 1) := by decide +kernel
theorem dX1_readPair_21 : decode cX1_readPair 21 = .ok (.iload_n 3, 1) := by decide +kernel
theorem dX1_readPair_22 : decode cX1_readPair 22 = .ok (.invokevirtual 78, 3) := by decide +kernel
theorem dX1_readPair_25 : decode cX1_readPair 25 = .ok (.ifCond .ne 5, 3) := by decide +kernel
theorem dX1_readPair_28 : decode cX1_readPair 28 = .ok (.iconst (-1), 1) := by decide +kernel
theorem dX1_readPair_29 : decode cX1_readPair 29 = .ok (.ireturn, 1) := by decide +kernel
theorem dX1_readPair_30 : decode cX1_readPair 30 = .ok (.aload_n 0, 1) := by decide +kernel
theorem dX1_readPair_31 : decode cX1_readPair 31 = .ok (.dup, 1) := by decide +kernel
theorem dX1_readPair_32 : decode cX1_readPair 32 = .ok (.getfield 25, 3) := by decide +kernel
theorem dX1_readPair_35 : decode cX1_readPair 35 = .ok (.iconst 1, 1) := by decide +kernel
theorem dX1_readPair_36 : decode cX1_readPair 36 = .ok (.iadd, 1) := by decide +kernel
theorem dX1_readPair_37 : decode cX1_readPair 37 = .ok (.putfield 25, 3) := by decide +kernel
theorem dX1_readPair_40 : decode cX1_readPair 40 = .ok (.aload_n 0, 1) := by decide +kernel
theorem dX1_readPair_41 : decode cX1_readPair 41 = .ok (.getfield 12, 3) := by decide +kernel
theorem dX1_readPair_44 : decode cX1_readPair 44 = .ok (.aload_n 0, 1) := by decide +kernel
theorem dX1_readPair_45 : decode cX1_readPair 45 = .ok (.getfield 25, 3) := by decide +kernel
theorem dX1_readPair_48 : decode cX1_readPair 48 = .ok (.invokevirtual 42, 3) := by decide +kernel
theorem dX1_readPair_51 : decode cX1_readPair 51 = .ok (.bipush 48, 2) := by decide +kernel
theorem dX1_readPair_53 : decode cX1_readPair 53 = .ok (.isub, 1) := by decide +kernel
theorem dX1_readPair_54 : decode cX1_readPair 54 = .ok (.istore 5, 2) := by decide +kernel
theorem dX1_readPair_56 : decode cX1_readPair 56 = .ok (.iload 5, 2) := by decide +kernel
theorem dX1_readPair_58 : decode cX1_readPair 58 = .ok (.ifCond .lt 28, 3) := by decide +kernel
theorem dX1_readPair_61 : decode cX1_readPair 61 = .ok (.iload 5, 2) := by decide +kernel
theorem dX1_readPair_63 : decode cX1_readPair 63 = .ok (.bipush 9, 2) := by decide +kernel
theorem dX1_readPair_65 : decode cX1_readPair 65 = .ok (.if_icmp .gt 21, 3) := by decide +kernel
theorem dX1_readPair_68 : decode cX1_readPair 68 = .ok (.aload_n 0, 1) := by decide +kernel
theorem dX1_readPair_69 : decode cX1_readPair 69 = .ok (.iload 4, 2) := by decide +kernel
theorem dX1_readPair_71 : decode cX1_readPair 71 = .ok (.bipush 10, 2) := by decide +kernel
theorem dX1_readPair_73 : decode cX1_readPair 73 = .ok (.imul, 1) := by decide +kernel
theorem dX1_readPair_74 : decode cX1_readPair 74 = .ok (.iload 5, 2) := by decide +kernel
theorem dX1_readPair_76 : decode cX1_readPair 76 = .ok (.iadd, 1) := by decide +kernel
theorem dX1_readPair_77 : decode cX1_readPair 77 = .ok (.iload_n 1, 1) := by decide +kernel
theorem dX1_readPair_78 : decode cX1_readPair 78 = .ok (.iload_n 2, 1) := by decide +kernel
theorem dX1_readPair_79 : decode cX1_readPair 79 = .ok (.iload_n 3, 1) := by decide +kernel
theorem dX1_readPair_80 : decode cX1_readPair 80 = .ok (.invokevirtual 82, 3) := by decide +kernel
theorem dX1_readPair_83 : decode cX1_readPair 83 = .ok (.ifCond .ne 5, 3) := by decide +kernel
theorem dX1_readPair_86 : decode cX1_readPair 86 = .ok (.iconst (-1), 1) := by decide +kernel
theorem dX1_readPair_87 : decode cX1_readPair 87 = .ok (.ireturn, 1) := by decide +kernel
theorem dX1_readPair_88 : decode cX1_readPair 88 = .ok (.aload_n 0, 1) := by decide +kernel
theorem dX1_readPair_89 : decode cX1_readPair 89 = .ok (.dup, 1) := by decide +kernel
theorem dX1_readPair_90 : decode cX1_readPair 90 = .ok (.getfield 25, 3) := by decide +kernel
theorem dX1_readPair_93 : decode cX1_readPair 93 = .ok (.iconst 1, 1) := by decide +kernel
theorem dX1_readPair_94 : decode cX1_readPair 94 = .ok (.iadd, 1) := by decide +kernel
theorem dX1_readPair_95 : decode cX1_readPair 95 = .ok (.putfield 25, 3) := by decide +kernel
theorem dX1_readPair_98 : decode cX1_readPair 98 = .ok (.iload 4, 2) := by decide +kernel
theorem dX1_readPair_100 : decode cX1_readPair 100 = .ok (.bipush 10, 2) := by decide +kernel
theorem dX1_readPair_102 : decode cX1_readPair 102 = .ok (.imul, 1) := by decide +kernel
theorem dX1_readPair_103 : decode cX1_readPair 103 = .ok (.iload 5, 2) := by decide +kernel
theorem dX1_readPair_105 : decode cX1_readPair 105 = .ok (.iadd, 1) := by decide +kernel
theorem dX1_readPair_106 : decode cX1_readPair 106 = .ok (.ireturn, 1) := by decide +kernel
set_option maxRecDepth 20000 in
theorem ggX1_isBegin_X1_isAllowed : GoodIn wsX1_isBegin wsX1_isAllowed := goodIn_r _ [5, 6, 7, 8, 9, 10, 11, 12, 13, 14, 15, 16, 17, 18, 19, 20, 21, 22, 23, 24, 25, 26, 27, 28, 29] (by decide +kernel) (by decide +kernel)
set_option maxRecDepth 20000 in
theorem gX1_isBegin_X1_isAllowed : GoodIn wsX1_isBegin (wsV RX1 82 RX1 yX1_isAllowed wsX1_isAllowed) := goodIn_app (goodIn_of _ (by decide +kernel)) ggX1_isBegin_X1_isAllowed
theorem dX1_isBegin_0 : decode cX1_isBegin 0 = .ok (.iconst 0, 1) := by decide +kernel
theorem dX1_isBegin_1 : decode cX1_isBegin 1 = .ok (.istore 5, 2) := by decide +kernel
theorem dX1_isBegin_3 : decode cX1_isBegin 3 = .ok (.iload 5, 2) := by decide +kernel
theorem dX1_isBegin_5 : decode cX1_isBegin 5 = .ok (.bipush 9, 2) := by decide +kernel
theorem dX1_isBegin_7 : decode cX1_isBegin 7 = .ok (.if_icmp .gt 29, 3) := by decide +kernel
theorem dX1_isBegin_10 : decode cX1_isBegin 10 = .ok (.aload_n 0, 1) := by decide +kernel
theorem dX1_isBegin_11 : decode cX1_isBegin 11 = .ok (.iload_n 1, 1) := by decide +kernel
theorem dX1_isBegin_12 : decode cX1_isBegin 12 = .ok (.bipush 10, 2) := by decide +kernel
theorem dX1_isBegin_14 : decode cX1_isBegin 14 = .ok (.imul, 1) := by decide +kernel
theorem dX1_isBegin_15 : decode cX1_isBegin 15 = .ok (.iload 5, 2) := by decide +kernel
theorem dX1_isBegin_17 : decode cX1_isBegin 17 = .ok (.iadd, 1) := by decide +kernel
theorem dX1_isBegin_18 : decode cX1_isBegin 18 = .ok (.iload_n 2, 1) := by decide +kernel
theorem dX1_isBegin_19 : decode cX1_isBegin 19 = .ok (.iload_n 3, 1) := by decide +kernel
theorem dX1_isBegin_20 : decode cX1_isBegin 20 = .ok (.iload 4, 2) := by decide +kernel
theorem dX1_isBegin_22 : decode cX1_isBegin 22 = .ok (.invokevirtual 82, 3) := by decide +kernel
theorem dX1_isBegin_25 : decode cX1_isBegin 25 = .ok (.ifCond .eq 5, 3) := by decide +kernel
theorem dX1_isBegin_28 : decode cX1_isBegin 28 = .ok (.iconst 1, 1) := by decide +kernel
theorem dX1_isBegin_29 : decode cX1_isBegin 29 = .ok (.ireturn, 1) := by decide +kernel
theorem dX1_isBegin_30 : decode cX1_isBegin 30 = .ok (.iinc 5 1, 3) := by decide +kernel
theorem dX1_isBegin_33 : decode cX1_isBegin 33 = .ok (.goto (-30), 3) := by decide +kernel
theorem dX1_isBegin_36 : decode cX1_isBegin 36 = .ok (.iconst 0, 1) := by decide +kernel
theorem dX1_isBegin_37 : decode cX1_isBegin 37 = .ok (.ireturn, 1) := by decide +kernel
set_option maxRecDepth 20000 in
theorem ggX1_isAllowed_X0_gripAt : GoodIn wsX1_isAllowed wsX0_gripAt := goodIn_r _ [6, 7, 8, 12, 13, 14, 15, 16, 17, 18, 19, 20, 21, 22, 23, 24] (by decide +kernel) (by decide +kernel)
set_option maxRecDepth 20000 in
theorem gX1_isAllowed_X0_gripAt : GoodIn wsX1_isAllowed (wsV RX1 85 RX0 yX0_gripAt wsX0_gripAt) := goodIn_app (goodIn_of _ (by decide +kernel)) ggX1_isAllowed_X0_gripAt
theorem dX1_isAllowed_0 : decode cX1_isAllowed 0 = .ok (.iload_n 1, 1) := by decide +kernel
theorem dX1_isAllowed_1 : decode cX1_isAllowed 1 = .ok (.iload_n 2, 1) := by decide +kernel
theorem dX1_isAllowed_2 : decode cX1_isAllowed 2 = .ok (.if_icmp .lt 30, 3) := by decide +kernel
theorem dX1_isAllowed_5 : decode cX1_isAllowed 5 = .ok (.iload_n 1, 1) := by decide +kernel
theorem dX1_isAllowed_6 : decode cX1_isAllowed 6 = .ok (.iload_n 3, 1) := by decide +kernel
theorem dX1_isAllowed_7 : decode cX1_isAllowed 7 = .ok (.if_icmp .gt 25, 3) := by decide +kernel
theorem dX1_isAllowed_10 : decode cX1_isAllowed 10 = .ok (.iload 4, 2) := by decide +kernel
theorem dX1_isAllowed_12 : decode cX1_isAllowed 12 = .ok (.ifCond .eq 16, 3) := by decide +kernel
theorem dX1_isAllowed_15 : decode cX1_isAllowed 15 = .ok (.aload_n 0, 1) := by decide +kernel
theorem dX1_isAllowed_16 : decode cX1_isAllowed 16 = .ok (.getfield 21, 3) := by decide +kernel
theorem dX1_isAllowed_19 : decode cX1_isAllowed 19 = .ok (.iload_n 1, 1) := by decide +kernel
theorem dX1_isAllowed_20 : decode cX1_isAllowed 20 = .ok (.invokevirtual 85, 3) := by decide +kernel
theorem dX1_isAllowed_23 : decode cX1_isAllowed 23 = .ok (.bipush (-9), 2) := by decide +kernel
theorem dX1_isAllowed_25 : decode cX1_isAllowed 25 = .ok (.if_icmp .ne 7, 3) := by decide +kernel
theorem dX1_isAllowed_28 : decode cX1_isAllowed 28 = .ok (.iconst 1, 1) := by decide +kernel
theorem dX1_isAllowed_29 : decode cX1_isAllowed 29 = .ok (.goto 4, 3) := by decide +kernel
theorem dX1_isAllowed_32 : decode cX1_isAllowed 32 = .ok (.iconst 0, 1) := by decide +kernel
theorem dX1_isAllowed_33 : decode cX1_isAllowed 33 = .ok (.ireturn, 1) := by decide +kernel
set_option maxRecDepth 20000 in
theorem ggX2_init_X0_init : GoodIn wsX2_init wsX0_init := goodIn_r _ [10, 11, 2, 3, 12, 13, 14, 15, 16, 17, 18, 19, 20, 21, 22, 23, 24, 25, 7, 26, 27, 28, 29, 31, 32, 33, 34, 35, 36, 37, 38, 39, 40, 41, 42, 43] (by decide +kernel) (by decide +kernel)
set_option maxRecDepth 20000 in
theorem gX2_init_X0_init : GoodIn wsX2_init (wsX0_init) := ggX2_init_X0_init
theorem dX2_init_0 : decode cX2_init 0 = .ok (.aload_n 0, 1) := by decide +kernel
theorem dX2_init_1 : decode cX2_init 1 = .ok (.invokespecial 1, 3) := by decide +kernel
theorem dX2_init_4 : decode cX2_init 4 = .ok (.aload_n 0, 1) := by decide +kernel
theorem dX2_init_5 : decode cX2_init 5 = .ok (.iload_n 1, 1) := by decide +kernel
theorem dX2_init_6 : decode cX2_init 6 = .ok (.ifCond .le 7, 3) := by decide +kernel
theorem dX2_init_9 : decode cX2_init 9 = .ok (.iload_n 1, 1) := by decide +kernel
theorem dX2_init_10 : decode cX2_init 10 = .ok (.goto 4, 3) := by decide +kernel
theorem dX2_init_13 : decode cX2_init 13 = .ok (.iconst 0, 1) := by decide +kernel
theorem dX2_init_14 : decode cX2_init 14 = .ok (.anewarray 7, 3) := by decide +kernel
theorem dX2_init_17 : decode cX2_init 17 = .ok (.putfield 9, 3) := by decide +kernel
theorem dX2_init_20 : decode cX2_init 20 = .ok (.iconst 0, 1) := by decide +kernel
theorem dX2_init_21 : decode cX2_init 21 = .ok (.istore_n 2, 1) := by decide +kernel
theorem dX2_init_22 : decode cX2_init 22 = .ok (.iload_n 2, 1) := by decide +kernel
theorem dX2_init_23 : decode cX2_init 23 = .ok (.aload_n 0, 1) := by decide +kernel
theorem dX2_init_24 : decode cX2_init 24 = .ok (.getfield 9, 3) := by decide +kernel
theorem dX2_init_27 : decode cX2_init 27 = .ok (.arraylength, 1) := by decide +kernel
theorem dX2_init_28 : decode cX2_init 28 = .ok (.if_icmp .ge 22, 3) := by decide +kernel
theorem dX2_init_31 : decode cX2_init 31 = .ok (.aload_n 0, 1) := by decide +kernel
theorem dX2_init_32 : decode cX2_init 32 = .ok (.getfield 9, 3) := by decide +kernel
theorem dX2_init_35 : decode cX2_init 35 = .ok (.iload_n 2, 1) := by decide +kernel
theorem dX2_init_36 : decode cX2_init 36 = .ok (.new 7, 3) := by decide +kernel
theorem dX2_init_39 : decode cX2_init 39 = .ok (.dup, 1) := by decide +kernel
theorem dX2_init_40 : decode cX2_init 40 = .ok (.invokespecial 15, 3) := by decide +kernel
theorem dX2_init_43 : decode cX2_init 43 = .ok (.aastore, 1) := by decide +kernel
theorem dX2_init_44 : decode cX2_init 44 = .ok (.iinc 2 1, 3) := by decide +kernel
theorem dX2_init_47 : decode cX2_init 47 = .ok (.goto (-25), 3) := by decide +kernel
theorem dX2_init_50 : decode cX2_init 50 = .ok (.return_, 1) := by decide +kernel
set_option maxRecDepth 20000 in
theorem ggX2_keep_X2_rowAt : GoodIn wsX2_keep wsX2_rowAt := goodIn_r _ [5, 6, 29] (by decide +kernel) (by decide +kernel)
set_option maxRecDepth 20000 in
theorem gX2_keep_X2_rowAt : GoodIn wsX2_keep (wsV RX2 16 RX2 yX2_rowAt wsX2_rowAt) := goodIn_app (goodIn_of _ (by decide +kernel)) ggX2_keep_X2_rowAt
set_option maxRecDepth 20000 in
theorem ggX2_keep_X0_become : GoodIn wsX2_keep wsX0_become := goodIn_r _ [11, 12, 13, 14, 15, 16, 17, 18, 19, 20, 21, 22, 23, 24, 25, 26, 27, 28, 30, 31, 32, 33, 34, 35, 36, 37, 38, 39, 40, 41, 42] (by decide +kernel) (by decide +kernel)
set_option maxRecDepth 20000 in
theorem gX2_keep_X0_become : GoodIn wsX2_keep (wsV RX2 20 RX0 yX0_become wsX0_become) := goodIn_app (goodIn_of _ (by decide +kernel)) ggX2_keep_X0_become
theorem dX2_keep_0 : decode cX2_keep 0 = .ok (.aload_n 0, 1) := by decide +kernel
theorem dX2_keep_1 : decode cX2_keep 1 = .ok (.iload_n 1, 1) := by decide +kernel
theorem dX2_keep_2 : decode cX2_keep 2 = .ok (.invokevirtual 16, 3) := by decide +kernel
theorem dX2_keep_5 : decode cX2_keep 5 = .ok (.astore_n 3, 1) := by decide +kernel
theorem dX2_keep_6 : decode cX2_keep 6 = .ok (.aload_n 3, 1) := by decide +kernel
theorem dX2_keep_7 : decode cX2_keep 7 = .ok (.ifnull 8, 3) := by decide +kernel
theorem dX2_keep_10 : decode cX2_keep 10 = .ok (.aload_n 3, 1) := by decide +kernel
theorem dX2_keep_11 : decode cX2_keep 11 = .ok (.aload_n 2, 1) := by decide +kernel
theorem dX2_keep_12 : decode cX2_keep 12 = .ok (.invokevirtual 20, 3) := by decide +kernel
theorem dX2_keep_15 : decode cX2_keep 15 = .ok (.return_, 1) := by decide +kernel
set_option maxRecDepth 20000 in
theorem ggX2_recall_X2_rowAt : GoodIn wsX2_recall wsX2_rowAt := goodIn_r _ [5, 6, 29] (by decide +kernel) (by decide +kernel)
set_option maxRecDepth 20000 in
theorem gX2_recall_X2_rowAt : GoodIn wsX2_recall (wsV RX2 16 RX2 yX2_rowAt wsX2_rowAt) := goodIn_app (goodIn_of _ (by decide +kernel)) ggX2_recall_X2_rowAt
set_option maxRecDepth 20000 in
theorem ggX2_recall_X0_become : GoodIn wsX2_recall wsX0_become := goodIn_r _ [11, 12, 13, 14, 15, 16, 17, 18, 19, 20, 21, 22, 23, 24, 25, 26, 27, 28, 30, 31, 32, 33, 34, 35, 36, 37, 38, 39, 40, 41, 42] (by decide +kernel) (by decide +kernel)
set_option maxRecDepth 20000 in
theorem gX2_recall_X0_become : GoodIn wsX2_recall (wsV RX2 20 RX0 yX0_become wsX0_become) := goodIn_app (goodIn_of _ (by decide +kernel)) ggX2_recall_X0_become
theorem dX2_recall_0 : decode cX2_recall 0 = .ok (.aload_n 0, 1) := by decide +kernel
theorem dX2_recall_1 : decode cX2_recall 1 = .ok (.iload_n 1, 1) := by decide +kernel
theorem dX2_recall_2 : decode cX2_recall 2 = .ok (.invokevirtual 16, 3) := by decide +kernel
theorem dX2_recall_5 : decode cX2_recall 5 = .ok (.astore_n 3, 1) := by decide +kernel
theorem dX2_recall_6 : decode cX2_recall 6 = .ok (.aload_n 3, 1) := by decide +kernel
theorem dX2_recall_7 : decode cX2_recall 7 = .ok (.ifnull 8, 3) := by decide +kernel
theorem dX2_recall_10 : decode cX2_recall 10 = .ok (.aload_n 2, 1) := by decide +kernel
theorem dX2_recall_11 : decode cX2_recall 11 = .ok (.aload_n 3, 1) := by decide +kernel
theorem dX2_recall_12 : decode cX2_recall 12 = .ok (.invokevirtual 20, 3) := by decide +kernel
theorem dX2_recall_15 : decode cX2_recall 15 = .ok (.return_, 1) := by decide +kernel
theorem dX2_rowAt_0 : decode cX2_rowAt 0 = .ok (.iload_n 1, 1) := by decide +kernel
theorem dX2_rowAt_1 : decode cX2_rowAt 1 = .ok (.ifCond .lt 21, 3) := by decide +kernel
theorem dX2_rowAt_4 : decode cX2_rowAt 4 = .ok (.iload_n 1, 1) := by decide +kernel
theorem dX2_rowAt_5 : decode cX2_rowAt 5 = .ok (.aload_n 0, 1) := by decide +kernel
theorem dX2_rowAt_6 : decode cX2_rowAt 6 = .ok (.getfield 9, 3) := by decide +kernel
theorem dX2_rowAt_9 : decode cX2_rowAt 9 = .ok (.arraylength, 1) := by decide +kernel
theorem dX2_rowAt_10 : decode cX2_rowAt 10 = .ok (.if_icmp .ge 12, 3) := by decide +kernel
theorem dX2_rowAt_13 : decode cX2_rowAt 13 = .ok (.aload_n 0, 1) := by decide +kernel
theorem dX2_rowAt_14 : decode cX2_rowAt 14 = .ok (.getfield 9, 3) := by decide +kernel
theorem dX2_rowAt_17 : decode cX2_rowAt 17 = .ok (.iload_n 1, 1) := by decide +kernel
theorem dX2_rowAt_18 : decode cX2_rowAt 18 = .ok (.aaload, 1) := by decide +kernel
theorem dX2_rowAt_19 : decode cX2_rowAt 19 = .ok (.goto 4, 3) := by decide +kernel
theorem dX2_rowAt_22 : decode cX2_rowAt 22 = .ok (.aconst_null, 1) := by decide +kernel
theorem dX2_rowAt_23 : decode cX2_rowAt 23 = .ok (.areturn, 1) := by decide +kernel
theorem dX3_init_0 : decode cX3_init 0 = .ok (.aload_n 0, 1) := by decide +kernel
theorem dX3_init_1 : decode cX3_init 1 = .ok (.invokespecial 3, 3) := by decide +kernel
theorem dX3_init_4 : decode cX3_init 4 = .ok (.aload_n 0, 1) := by decide +kernel
theorem dX3_init_5 : decode cX3_init 5 = .ok (.bipush 60, 2) := by decide +kernel
theorem dX3_init_7 : decode cX3_init 7 = .ok (.newarray .char, 2) := by decide +kernel
theorem dX3_init_9 : decode cX3_init 9 = .ok (.putfield 9, 3) := by decide +kernel
theorem dX3_init_12 : decode cX3_init 12 = .ok (.aload_n 0, 1) := by decide +kernel
theorem dX3_init_13 : decode cX3_init 13 = .ok (.iconst 0, 1) := by decide +kernel
theorem dX3_init_14 : decode cX3_init 14 = .ok (.putfield 15, 3) := by decide +kernel
theorem dX3_init_17 : decode cX3_init 17 = .ok (.return_, 1) := by decide +kernel
theorem dX3_isFull_0 : decode cX3_isFull 0 = .ok (.aload_n 0, 1) := by decide +kernel
theorem dX3_isFull_1 : decode cX3_isFull 1 = .ok (.getfield 15, 3) := by decide +kernel
theorem dX3_isFull_4 : decode cX3_isFull 4 = .ok (.bipush 60, 2) := by decide +kernel
theorem dX3_isFull_6 : decode cX3_isFull 6 = .ok (.if_icmp .lt 7, 3) := by decide +kernel
theorem dX3_isFull_9 : decode cX3_isFull 9 = .ok (.iconst 1, 1) := by decide +kernel
theorem dX3_isFull_10 : decode cX3_isFull 10 = .ok (.goto 4, 3) := by decide +kernel
theorem dX3_isFull_13 : decode cX3_isFull 13 = .ok (.iconst 0, 1) := by decide +kernel
theorem dX3_isFull_14 : decode cX3_isFull 14 = .ok (.ireturn, 1) := by decide +kernel
theorem dX3_put_0 : decode cX3_put 0 = .ok (.aload_n 0, 1) := by decide +kernel
theorem dX3_put_1 : decode cX3_put 1 = .ok (.getfield 15, 3) := by decide +kernel
theorem dX3_put_4 : decode cX3_put 4 = .ok (.ifCond .lt 12, 3) := by decide +kernel
theorem dX3_put_7 : decode cX3_put 7 = .ok (.aload_n 0, 1) := by decide +kernel
theorem dX3_put_8 : decode cX3_put 8 = .ok (.getfield 15, 3) := by decide +kernel
theorem dX3_put_11 : decode cX3_put 11 = .ok (.bipush 60, 2) := by decide +kernel
theorem dX3_put_13 : decode cX3_put 13 = .ok (.if_icmp .lt 4, 3) := by decide +kernel
theorem dX3_put_16 : decode cX3_put 16 = .ok (.return_, 1) := by decide +kernel
theorem dX3_put_17 : decode cX3_put 17 = .ok (.aload_n 0, 1) := by decide +kernel
theorem dX3_put_18 : decode cX3_put 18 = .ok (.getfield 9, 3) := by decide +kernel
theorem dX3_put_21 : decode cX3_put 21 = .ok (.aload_n 0, 1) := by decide +kernel
theorem dX3_put_22 : decode cX3_put 22 = .ok (.getfield 15, 3) := by decide +kernel
theorem dX3_put_25 : decode cX3_put 25 = .ok (.iload_n 1, 1) := by decide +kernel
theorem dX3_put_26 : decode cX3_put 26 = .ok (.castore, 1) := by decide +kernel
theorem dX3_put_27 : decode cX3_put 27 = .ok (.aload_n 0, 1) := by decide +kernel
theorem dX3_put_28 : decode cX3_put 28 = .ok (.dup, 1) := by decide +kernel
theorem dX3_put_29 : decode cX3_put 29 = .ok (.getfield 15, 3) := by decide +kernel
theorem dX3_put_32 : decode cX3_put 32 = .ok (.iconst 1, 1) := by decide +kernel
theorem dX3_put_33 : decode cX3_put 33 = .ok (.iadd, 1) := by decide +kernel
theorem dX3_put_34 : decode cX3_put 34 = .ok (.putfield 15, 3) := by decide +kernel
theorem dX3_put_37 : decode cX3_put 37 = .ok (.return_, 1) := by decide +kernel
set_option maxRecDepth 20000 in
theorem ggX3_putNumber_X3_put : GoodIn wsX3_putNumber wsX3_put := goodIn_r _ [5, 6, 7, 8, 9] (by decide +kernel) (by decide +kernel)
set_option maxRecDepth 20000 in
theorem gX3_putNumber_X3_put : GoodIn wsX3_putNumber (wsV RX3 19 RX3 yX3_put wsX3_put) := goodIn_app (goodIn_of _ (by decide +kernel)) ggX3_putNumber_X3_put
theorem dX3_putNumber_0 : decode cX3_putNumber 0 = .ok (.iload_n 1, 1) := by decide +kernel
theorem dX3_putNumber_1 : decode cX3_putNumber 1 = .ok (.bipush 9, 2) := by decide +kernel
theorem dX3_putNumber_3 : decode cX3_putNumber 3 = .ok (.if_icmp .le 15, 3) := by decide +kernel
theorem dX3_putNumber_6 : decode cX3_putNumber 6 = .ok (.aload_n 0, 1) := by decide +kernel
theorem dX3_putNumber_7 : decode cX3_putNumber 7 = .ok (.bipush 48, 2) := by decide +kernel
theorem dX3_putNumber_9 : decode cX3_putNumber 9 = .ok (.iload_n 1, 1) := by decide +kernel
theorem dX3_putNumber_10 : decode cX3_putNumber 10 = .ok (.bipush 10, 2) := by decide +kernel
theorem dX3_putNumber_12 : decode cX3_putNumber 12 = .ok (.idiv, 1) := by decide +kernel
theorem dX3_putNumber_13 : decode cX3_putNumber 13 = .ok (.iadd, 1) := by decide +kernel
theorem dX3_putNumber_14 : decode cX3_putNumber 14 = .ok (.i2c, 1) := by decide +kernel
theorem dX3_putNumber_15 : decode cX3_putNumber 15 = .ok (.invokevirtual 19, 3) := by decide +kernel
theorem dX3_putNumber_18 : decode cX3_putNumber 18 = .ok (.aload_n 0, 1) := by decide +kernel
theorem dX3_putNumber_19 : decode cX3_putNumber 19 = .ok (.bipush 48, 2) := by decide +kernel
theorem dX3_putNumber_21 : decode cX3_putNumber 21 = .ok (.iload_n 1, 1) := by decide +kernel
theorem dX3_putNumber_22 : decode cX3_putNumber 22 = .ok (.bipush 10, 2) := by decide +kernel
theorem dX3_putNumber_24 : decode cX3_putNumber 24 = .ok (.irem, 1) := by decide +kernel
theorem dX3_putNumber_25 : decode cX3_putNumber 25 = .ok (.iadd, 1) := by decide +kernel
theorem dX3_putNumber_26 : decode cX3_putNumber 26 = .ok (.i2c, 1) := by decide +kernel
theorem dX3_putNumber_27 : decode cX3_putNumber 27 = .ok (.invokevirtual 19, 3) := by decide +kernel
theorem dX3_putNumber_30 : decode cX3_putNumber 30 = .ok (.return_, 1) := by decide +kernel
theorem dX3_at_0 : decode cX3_at 0 = .ok (.iload_n 1, 1) := by decide +kernel
theorem dX3_at_1 : decode cX3_at 1 = .ok (.ifCond .lt 17, 3) := by decide +kernel
theorem dX3_at_4 : decode cX3_at 4 = .ok (.iload_n 1, 1) := by decide +kernel
theorem dX3_at_5 : decode cX3_at 5 = .ok (.aload_n 0, 1) := by decide +kernel
theorem dX3_at_6 : decode cX3_at 6 = .ok (.getfield 15, 3) := by decide +kernel
theorem dX3_at_9 : decode cX3_at 9 = .ok (.if_icmp .ge 9, 3) := by decide +kernel
theorem dX3_at_12 : decode cX3_at 12 = .ok (.iload_n 1, 1) := by decide +kernel
theorem dX3_at_13 : decode cX3_at 13 = .ok (.bipush 60, 2) := by decide +kernel
theorem dX3_at_15 : decode cX3_at 15 = .ok (.if_icmp .lt 6, 3) := by decide +kernel
theorem dX3_at_18 : decode cX3_at 18 = .ok (.bipush (-9), 2) := by decide +kernel
theorem dX3_at_20 : decode cX3_at 20 = .ok (.ireturn, 1) := by decide +kernel
theorem dX3_at_21 : decode cX3_at 21 = .ok (.aload_n 0, 1) := by decide +kernel
theorem dX3_at_22 : decode cX3_at 22 = .ok (.getfield 9, 3) := by decide +kernel
theorem dX3_at_25 : decode cX3_at 25 = .ok (.iload_n 1, 1) := by decide +kernel
theorem dX3_at_26 : decode cX3_at 26 = .ok (.caload, 1) := by decide +kernel
theorem dX3_at_27 : decode cX3_at 27 = .ok (.ireturn, 1) := by decide +kernel
theorem dX3_clear_0 : decode cX3_clear 0 = .ok (.aload_n 0, 1) := by decide +kernel
theorem dX3_clear_1 : decode cX3_clear 1 = .ok (.iconst 0, 1) := by decide +kernel
theorem dX3_clear_2 : decode cX3_clear 2 = .ok (.putfield 15, 3) := by decide +kernel
theorem dX3_clear_5 : decode cX3_clear 5 = .ok (.return_, 1) := by decide +kernel
