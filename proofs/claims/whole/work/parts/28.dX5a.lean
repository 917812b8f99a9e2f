theorem dX5_init_0 : decode cX5_init 0 = .ok (.aload_n 0, 1) := by decide +kernel
theorem dX5_init_1 : decode cX5_init 1 = .ok (.invokespecial 1, 3) := by decide +kernel
theorem dX5_init_4 : decode cX5_init 4 = .ok (.aload_n 0, 1) := by decide +kernel
theorem dX5_init_5 : decode cX5_init 5 = .ok (.bipush 60, 2) := by decide +kernel
theorem dX5_init_7 : decode cX5_init 7 = .ok (.newarray .int, 2) := by decide +kernel
theorem dX5_init_9 : decode cX5_init 9 = .ok (.putfield 7, 3) := by decide +kernel
theorem dX5_init_12 : decode cX5_init 12 = .ok (.aload_n 0, 1) := by decide +kernel
theorem dX5_init_13 : decode cX5_init 13 = .ok (.bipush 106, 2) := by decide +kernel
theorem dX5_init_15 : decode cX5_init 15 = .ok (.newarray .int, 2) := by decide +kernel
theorem dX5_init_17 : decode cX5_init 17 = .ok (.putfield 13, 3) := by decide +kernel
theorem dX5_init_20 : decode cX5_init 20 = .ok (.aload_n 0, 1) := by decide +kernel
theorem dX5_init_21 : decode cX5_init 21 = .ok (.bipush 106, 2) := by decide +kernel
theorem dX5_init_23 : decode cX5_init 23 = .ok (.newarray .int, 2) := by decide +kernel
theorem dX5_init_25 : decode cX5_init 25 = .ok (.putfield 16, 3) := by decide +kernel
theorem dX5_init_28 : decode cX5_init 28 = .ok (.aload_n 0, 1) := by decide +kernel
theorem dX5_init_29 : decode cX5_init 29 = .ok (.bipush 106, 2) := by decide +kernel
theorem dX5_init_31 : decode cX5_init 31 = .ok (.newarray .int, 2) := by decide +kernel
theorem dX5_init_33 : decode cX5_init 33 = .ok (.putfield 19, 3) := by decide +kernel
theorem dX5_init_36 : decode cX5_init 36 = .ok (.aload_n 0, 1) := by decide +kernel
theorem dX5_init_37 : decode cX5_init 37 = .ok (.sipush 1484, 3) := by decide +kernel
theorem dX5_init_40 : decode cX5_init 40 = .ok (.newarray .int, 2) := by decide +kernel
theorem dX5_init_42 : decode cX5_init 42 = .ok (.putfield 22, 3) := by decide +kernel
theorem dX5_init_45 : decode cX5_init 45 = .ok (.aload_n 0, 1) := by decide +kernel
theorem dX5_init_46 : decode cX5_init 46 = .ok (.sipush 212, 3) := by decide +kernel
theorem dX5_init_49 : decode cX5_init 49 = .ok (.newarray .int, 2) := by decide +kernel
theorem dX5_init_51 : decode cX5_init 51 = .ok (.putfield 25, 3) := by decide +kernel
theorem dX5_init_54 : decode cX5_init 54 = .ok (.aload_n 0, 1) := by decide +kernel
theorem dX5_init_55 : decode cX5_init 55 = .ok (.iconst 2, 1) := by decide +kernel
theorem dX5_init_56 : decode cX5_init 56 = .ok (.newarray .boolean, 2) := by decide +kernel
theorem dX5_init_58 : decode cX5_init 58 = .ok (.putfield 28, 3) := by decide +kernel
theorem dX5_init_61 : decode cX5_init 61 = .ok (.aload_n 0, 1) := by decide +kernel
theorem dX5_init_62 : decode cX5_init 62 = .ok (.iconst 4, 1) := by decide +kernel
theorem dX5_init_63 : decode cX5_init 63 = .ok (.newarray .int, 2) := by decide +kernel
theorem dX5_init_65 : decode cX5_init 65 = .ok (.putfield 32, 3) := by decide +kernel
theorem dX5_init_68 : decode cX5_init 68 = .ok (.aload_n 0, 1) := by decide +kernel
theorem dX5_init_69 : decode cX5_init 69 = .ok (.bipush 80, 2) := by decide +kernel
theorem dX5_init_71 : decode cX5_init 71 = .ok (.newarray .int, 2) := by decide +kernel
theorem dX5_init_73 : decode cX5_init 73 = .ok (.putfield 35, 3) := by decide +kernel
theorem dX5_init_76 : decode cX5_init 76 = .ok (.aload_n 0, 1) := by decide +kernel
theorem dX5_init_77 : decode cX5_init 77 = .ok (.bipush 8, 2) := by decide +kernel
theorem dX5_init_79 : decode cX5_init 79 = .ok (.putfield 38, 3) := by decide +kernel
theorem dX5_init_82 : decode cX5_init 82 = .ok (.aload_n 0, 1) := by decide +kernel
theorem dX5_init_83 : decode cX5_init 83 = .ok (.getfield 16, 3) := by decide +kernel
theorem dX5_init_86 : decode cX5_init 86 = .ok (.bipush 99, 2) := by decide +kernel
theorem dX5_init_88 : decode cX5_init 88 = .ok (.bipush 10, 2) := by decide +kernel
theorem dX5_init_90 : decode cX5_init 90 = .ok (.iastore, 1) := by decide +kernel
theorem dX5_init_91 : decode cX5_init 91 = .ok (.aload_n 0, 1) := by decide +kernel
theorem dX5_init_92 : decode cX5_init 92 = .ok (.getfield 16, 3) := by decide +kernel
theorem dX5_init_95 : decode cX5_init 95 = .ok (.bipush 100, 2) := by decide +kernel
theorem dX5_init_97 : decode cX5_init 97 = .ok (.bipush 20, 2) := by decide +kernel
theorem dX5_init_99 : decode cX5_init 99 = .ok (.iastore, 1) := by decide +kernel
theorem dX5_init_100 : decode cX5_init 100 = .ok (.aload_n 0, 1) := by decide +kernel
theorem dX5_init_101 : decode cX5_init 101 = .ok (.getfield 16, 3) := by decide +kernel
theorem dX5_init_104 : decode cX5_init 104 = .ok (.bipush 101, 2) := by decide +kernel
theorem dX5_init_106 : decode cX5_init 106 = .ok (.iconst 4, 1) := by decide +kernel
theorem dX5_init_107 : decode cX5_init 107 = .ok (.iastore, 1) := by decide +kernel
theorem dX5_init_108 : decode cX5_init 108 = .ok (.aload_n 0, 1) := by decide +kernel
theorem dX5_init_109 : decode cX5_init 109 = .ok (.getfield 16, 3) := by decide +kernel
theorem dX5_init_112 : decode cX5_init 112 = .ok (.bipush 102, 2) := by decide +kernel
theorem dX5_init_114 : decode cX5_init 114 = .ok (.iconst 2, 1) := by decide +kernel
theorem dX5_init_115 : decode cX5_init 115 = .ok (.iastore, 1) := by decide +kernel
theorem dX5_init_116 : decode cX5_init 116 = .ok (.aload_n 0, 1) := by decide +kernel
theorem dX5_init_117 : decode cX5_init 117 = .ok (.getfield 16, 3) := by decide +kernel
theorem dX5_init_120 : decode cX5_init 120 = .ok (.bipush 103, 2) := by decide +kernel
theorem dX5_init_122 : decode cX5_init 122 = .ok (.iconst 3, 1) := by decide +kernel
theorem dX5_init_123 : decode cX5_init 123 = .ok (.iastore, 1) := by decide +kernel
theorem dX5_init_124 : decode cX5_init 124 = .ok (.return_, 1) := by decide +kernel
theorem dX5_thrown_0 : decode cX5_thrown 0 = .ok (.aload_n 0, 1) := by decide +kernel
theorem dX5_thrown_1 : decode cX5_thrown 1 = .ok (.getfield 42, 3) := by decide +kernel
theorem dX5_thrown_4 : decode cX5_thrown 4 = .ok (.ireturn, 1) := by decide +kernel
theorem dX5_refused_0 : decode cX5_refused 0 = .ok (.aload_n 0, 1) := by decide +kernel
theorem dX5_refused_1 : decode cX5_refused 1 = .ok (.iload_n 1, 1) := by decide +kernel
theorem dX5_refused_2 : decode cX5_refused 2 = .ok (.putfield 42, 3) := by decide +kernel
theorem dX5_refused_5 : decode cX5_refused 5 = .ok (.iload_n 1, 1) := by decide +kernel
theorem dX5_refused_6 : decode cX5_refused 6 = .ok (.ifCond .le 7, 3) := by decide +kernel
theorem dX5_refused_9 : decode cX5_refused 9 = .ok (.iconst 1, 1) := by decide +kernel
theorem dX5_refused_10 : decode cX5_refused 10 = .ok (.goto 4, 3) := by decide +kernel
theorem dX5_refused_13 : decode cX5_refused 13 = .ok (.iconst 0, 1) := by decide +kernel
theorem dX5_refused_14 : decode cX5_refused 14 = .ok (.ireturn, 1) := by decide +kernel
theorem dX5_in_0 : decode cX5_in 0 = .ok (.lload_n 0, 1) := by decide +kernel
theorem dX5_in_1 : decode cX5_in 1 = .ok (.lload_n 2, 1) := by decide +kernel
theorem dX5_in_2 : decode cX5_in 2 = .ok (.lcmp, 1) := by decide +kernel
theorem dX5_in_3 : decode cX5_in 3 = .ok (.ifCond .lt 14, 3) := by decide +kernel
theorem dX5_in_6 : decode cX5_in 6 = .ok (.lload_n 0, 1) := by decide +kernel
theorem dX5_in_7 : decode cX5_in 7 = .ok (.lload 4, 2) := by decide +kernel
theorem dX5_in_9 : decode cX5_in 9 = .ok (.lcmp, 1) := by decide +kernel
theorem dX5_in_10 : decode cX5_in 10 = .ok (.ifCond .gt 7, 3) := by decide +kernel
theorem dX5_in_13 : decode cX5_in 13 = .ok (.iconst 1, 1) := by decide +kernel
theorem dX5_in_14 : decode cX5_in 14 = .ok (.goto 4, 3) := by decide +kernel
theorem dX5_in_17 : decode cX5_in 17 = .ok (.iconst 0, 1) := by decide +kernel
theorem dX5_in_18 : decode cX5_in 18 = .ok (.ireturn, 1) := by decide +kernel
theorem dX5_copy_0 : decode cX5_copy 0 = .ok (.iconst 0, 1) := by decide +kernel
theorem dX5_copy_1 : decode cX5_copy 1 = .ok (.istore 5, 2) := by decide +kernel
theorem dX5_copy_3 : decode cX5_copy 3 = .ok (.iload 5, 2) := by decide +kernel
theorem dX5_copy_5 : decode cX5_copy 5 = .ok (.iload 4, 2) := by decide +kernel
theorem dX5_copy_7 : decode cX5_copy 7 = .ok (.if_icmp .ge 21, 3) := by decide +kernel
theorem dX5_copy_10 : decode cX5_copy 10 = .ok (.aload_n 2, 1) := by decide +kernel
theorem dX5_copy_11 : decode cX5_copy 11 = .ok (.iload_n 3, 1) := by decide +kernel
theorem dX5_copy_12 : decode cX5_copy 12 = .ok (.iload 5, 2) := by decide +kernel
theorem dX5_copy_14 : decode cX5_copy 14 = .ok (.iadd, 1) := by decide +kernel
theorem dX5_copy_15 : decode cX5_copy 15 = .ok (.aload_n 0, 1) := by decide +kernel
theorem dX5_copy_16 : decode cX5_copy 16 = .ok (.iload_n 1, 1) := by decide +kernel
theorem dX5_copy_17 : decode cX5_copy 17 = .ok (.iload 5, 2) := by decide +kernel
theorem dX5_copy_19 : decode cX5_copy 19 = .ok (.iadd, 1) := by decide +kernel
theorem dX5_copy_20 : decode cX5_copy 20 = .ok (.iaload, 1) := by decide +kernel
theorem dX5_copy_21 : decode cX5_copy 21 = .ok (.iastore, 1) := by decide +kernel
theorem dX5_copy_22 : decode cX5_copy 22 = .ok (.iinc 5 1, 3) := by decide +kernel
theorem dX5_copy_25 : decode cX5_copy 25 = .ok (.goto (-22), 3) := by decide +kernel
theorem dX5_copy_28 : decode cX5_copy 28 = .ok (.return_, 1) := by decide +kernel
theorem dX5_tenTo_0 : decode cX5_tenTo 0 = .ok (.lconst 1, 1) := by decide +kernel
theorem dX5_tenTo_1 : decode cX5_tenTo 1 = .ok (.lstore_n 1, 1) := by decide +kernel
theorem dX5_tenTo_2 : decode cX5_tenTo 2 = .ok (.iconst 0, 1) := by decide +kernel
theorem dX5_tenTo_3 : decode cX5_tenTo 3 = .ok (.istore_n 3, 1) := by decide +kernel
theorem dX5_tenTo_4 : decode cX5_tenTo 4 = .ok (.iload_n 3, 1) := by decide +kernel
theorem dX5_tenTo_5 : decode cX5_tenTo 5 = .ok (.iload_n 0, 1) := by decide +kernel
theorem dX5_tenTo_6 : decode cX5_tenTo 6 = .ok (.if_icmp .ge 15, 3) := by decide +kernel
theorem dX5_tenTo_9 : decode cX5_tenTo 9 = .ok (.lload_n 1, 1) := by decide +kernel
theorem dX5_tenTo_10 : decode cX5_tenTo 10 = .ok (.ldc2_w 45, 3) := by decide +kernel
theorem dX5_tenTo_13 : decode cX5_tenTo 13 = .ok (.lmul, 1) := by decide +kernel
theorem dX5_tenTo_14 : decode cX5_tenTo 14 = .ok (.lstore_n 1, 1) := by decide +kernel
theorem dX5_tenTo_15 : decode cX5_tenTo 15 = .ok (.iinc 3 1, 3) := by decide +kernel
theorem dX5_tenTo_18 : decode cX5_tenTo 18 = .ok (.goto (-14), 3) := by decide +kernel
theorem dX5_tenTo_21 : decode cX5_tenTo 21 = .ok (.lload_n 1, 1) := by decide +kernel
theorem dX5_tenTo_22 : decode cX5_tenTo 22 = .ok (.lreturn, 1) := by decide +kernel
set_option maxRecDepth 20000 in
theorem ggX5_note_X5_copy : GoodIn wsX5_note wsX5_copy := goodIn_r _ [7] (by decide +kernel) (by decide +kernel)
set_option maxRecDepth 20000 in
theorem gX5_note_X5_copy : GoodIn wsX5_note (va_wsS RX5 50 yX5_copy wsX5_copy) := goodIn_app (goodIn_of _ (by decide +kernel)) ggX5_note_X5_copy
theorem dX5_note_0 : decode cX5_note 0 = .ok (.aload_n 0, 1) := by decide +kernel
theorem dX5_note_1 : decode cX5_note 1 = .ok (.getfield 47, 3) := by decide +kernel
theorem dX5_note_4 : decode cX5_note 4 = .ok (.bipush 14, 2) := by decide +kernel
theorem dX5_note_6 : decode cX5_note 6 = .ok (.if_icmp .ne 30, 3) := by decide +kernel
theorem dX5_note_9 : decode cX5_note 9 = .ok (.aload_n 0, 1) := by decide +kernel
theorem dX5_note_10 : decode cX5_note 10 = .ok (.getfield 22, 3) := by decide +kernel
theorem dX5_note_13 : decode cX5_note 13 = .ok (.bipush 106, 2) := by decide +kernel
theorem dX5_note_15 : decode cX5_note 15 = .ok (.aload_n 0, 1) := by decide +kernel
theorem dX5_note_16 : decode cX5_note 16 = .ok (.getfield 22, 3) := by decide +kernel
theorem dX5_note_19 : decode cX5_note 19 = .ok (.iconst 0, 1) := by decide +kernel
theorem dX5_note_20 : decode cX5_note 20 = .ok (.sipush 1378, 3) := by decide +kernel
theorem dX5_note_23 : decode cX5_note 23 = .ok (.invokestatic 50, 3) := by decide +kernel
theorem dX5_note_26 : decode cX5_note 26 = .ok (.aload_n 0, 1) := by decide +kernel
theorem dX5_note_27 : decode cX5_note 27 = .ok (.dup, 1) := by decide +kernel
theorem dX5_note_28 : decode cX5_note 28 = .ok (.getfield 47, 3) := by decide +kernel
theorem dX5_note_31 : decode cX5_note 31 = .ok (.iconst 1, 1) := by decide +kernel
theorem dX5_note_32 : decode cX5_note 32 = .ok (.isub, 1) := by decide +kernel
theorem dX5_note_33 : decode cX5_note 33 = .ok (.putfield 47, 3) := by decide +kernel
theorem dX5_note_36 : decode cX5_note 36 = .ok (.aload_n 0, 1) := by decide +kernel
theorem dX5_note_37 : decode cX5_note 37 = .ok (.getfield 16, 3) := by decide +kernel
theorem dX5_note_40 : decode cX5_note 40 = .ok (.iconst 0, 1) := by decide +kernel
theorem dX5_note_41 : decode cX5_note 41 = .ok (.aload_n 0, 1) := by decide +kernel
theorem dX5_note_42 : decode cX5_note 42 = .ok (.getfield 22, 3) := by decide +kernel
theorem dX5_note_45 : decode cX5_note 45 = .ok (.bipush 106, 2) := by decide +kernel
theorem dX5_note_47 : decode cX5_note 47 = .ok (.aload_n 0, 1) := by decide +kernel
theorem dX5_note_48 : decode cX5_note 48 = .ok (.getfield 47, 3) := by decide +kernel
theorem dX5_note_51 : decode cX5_note 51 = .ok (.imul, 1) := by decide +kernel
theorem dX5_note_52 : decode cX5_note 52 = .ok (.bipush 106, 2) := by decide +kernel
theorem dX5_note_54 : decode cX5_note 54 = .ok (.invokestatic 50, 3) := by decide +kernel
theorem dX5_note_57 : decode cX5_note 57 = .ok (.aload_n 0, 1) := by decide +kernel
theorem dX5_note_58 : decode cX5_note 58 = .ok (.dup, 1) := by decide +kernel
theorem dX5_note_59 : decode cX5_note 59 = .ok (.getfield 47, 3) := by decide +kernel
theorem dX5_note_62 : decode cX5_note 62 = .ok (.iconst 1, 1) := by decide +kernel
theorem dX5_note_63 : decode cX5_note 63 = .ok (.iadd, 1) := by decide +kernel
theorem dX5_note_64 : decode cX5_note 64 = .ok (.putfield 47, 3) := by decide +kernel
theorem dX5_note_67 : decode cX5_note 67 = .ok (.return_, 1) := by decide +kernel
set_option maxRecDepth 20000 in
theorem ggX5_isGrip_X5_in : GoodIn wsX5_isGrip wsX5_in := goodIn_r _ [5] (by decide +kernel) (by decide +kernel)
set_option maxRecDepth 20000 in
theorem gX5_isGrip_X5_in : GoodIn wsX5_isGrip (va_wsS RX5 54 yX5_in wsX5_in) := goodIn_app (goodIn_of _ (by decide +kernel)) ggX5_isGrip_X5_in
theorem dX5_isGrip_0 : decode cX5_isGrip 0 = .ok (.iload_n 1, 1) := by decide +kernel
theorem dX5_isGrip_1 : decode cX5_isGrip 1 = .ok (.i2l, 1) := by decide +kernel
theorem dX5_isGrip_2 : decode cX5_isGrip 2 = .ok (.lconst 0, 1) := by decide +kernel
theorem dX5_isGrip_3 : decode cX5_isGrip 3 = .ok (.aload_n 0, 1) := by decide +kernel
theorem dX5_isGrip_4 : decode cX5_isGrip 4 = .ok (.getfield 16, 3) := by decide +kernel
theorem dX5_isGrip_7 : decode cX5_isGrip 7 = .ok (.bipush 96, 2) := by decide +kernel
theorem dX5_isGrip_9 : decode cX5_isGrip 9 = .ok (.iaload, 1) := by decide +kernel
theorem dX5_isGrip_10 : decode cX5_isGrip 10 = .ok (.iconst 1, 1) := by decide +kernel
theorem dX5_isGrip_11 : decode cX5_isGrip 11 = .ok (.isub, 1) := by decide +kernel
theorem dX5_isGrip_12 : decode cX5_isGrip 12 = .ok (.i2l, 1) := by decide +kernel
theorem dX5_isGrip_13 : decode cX5_isGrip 13 = .ok (.invokestatic 54, 3) := by decide +kernel
theorem dX5_isGrip_16 : decode cX5_isGrip 16 = .ok (.ireturn, 1) := by decide +kernel
set_option maxRecDepth 20000 in
theorem ggX5_isSlot_X5_in : GoodIn wsX5_isSlot wsX5_in := goodIn_r _ [5] (by decide +kernel) (by decide +kernel)
set_option maxRecDepth 20000 in
theorem gX5_isSlot_X5_in : GoodIn wsX5_isSlot (va_wsS RX5 54 yX5_in wsX5_in) := goodIn_app (goodIn_of _ (by decide +kernel)) ggX5_isSlot_X5_in
theorem dX5_isSlot_0 : decode cX5_isSlot 0 = .ok (.iload_n 1, 1) := by decide +kernel
theorem dX5_isSlot_1 : decode cX5_isSlot 1 = .ok (.i2l, 1) := by decide +kernel
theorem dX5_isSlot_2 : decode cX5_isSlot 2 = .ok (.lconst 0, 1) := by decide +kernel
theorem dX5_isSlot_3 : decode cX5_isSlot 3 = .ok (.aload_n 0, 1) := by decide +kernel
theorem dX5_isSlot_4 : decode cX5_isSlot 4 = .ok (.getfield 38, 3) := by decide +kernel
theorem dX5_isSlot_7 : decode cX5_isSlot 7 = .ok (.iconst 1, 1) := by decide +kernel
theorem dX5_isSlot_8 : decode cX5_isSlot 8 = .ok (.isub, 1) := by decide +kernel
theorem dX5_isSlot_9 : decode cX5_isSlot 9 = .ok (.i2l, 1) := by decide +kernel
theorem dX5_isSlot_10 : decode cX5_isSlot 10 = .ok (.invokestatic 54, 3) := by decide +kernel
theorem dX5_isSlot_13 : decode cX5_isSlot 13 = .ok (.ireturn, 1) := by decide +kernel
theorem dX5_randomOf_0 : decode cX5_randomOf 0 = .ok (.aload_n 0, 1) := by decide +kernel
theorem dX5_randomOf_1 : decode cX5_randomOf 1 = .ok (.bipush 104, 2) := by decide +kernel
theorem dX5_randomOf_3 : decode cX5_randomOf 3 = .ok (.iaload, 1) := by decide +kernel
theorem dX5_randomOf_4 : decode cX5_randomOf 4 = .ok (.i2l, 1) := by decide +kernel
theorem dX5_randomOf_5 : decode cX5_randomOf 5 = .ok (.bipush 32, 2) := by decide +kernel
theorem dX5_randomOf_7 : decode cX5_randomOf 7 = .ok (.lshl, 1) := by decide +kernel
theorem dX5_randomOf_8 : decode cX5_randomOf 8 = .ok (.aload_n 0, 1) := by decide +kernel
theorem dX5_randomOf_9 : decode cX5_randomOf 9 = .ok (.bipush 105, 2) := by decide +kernel
theorem dX5_randomOf_11 : decode cX5_randomOf 11 = .ok (.iaload, 1) := by decide +kernel
theorem dX5_randomOf_12 : decode cX5_randomOf 12 = .ok (.i2l, 1) := by decide +kernel
theorem dX5_randomOf_13 : decode cX5_randomOf 13 = .ok (.ldc2_w 58, 3) := by decide +kernel
theorem dX5_randomOf_16 : decode cX5_randomOf 16 = .ok (.land, 1) := by decide +kernel
theorem dX5_randomOf_17 : decode cX5_randomOf 17 = .ok (.lor, 1) := by decide +kernel
theorem dX5_randomOf_18 : decode cX5_randomOf 18 = .ok (.lreturn, 1) := by decide +kernel
theorem dX5_setRandomOn_0 : decode cX5_setRandomOn 0 = .ok (.aload_n 0, 1) := by decide +kernel
theorem dX5_setRandomOn_1 : decode cX5_setRandomOn 1 = .ok (.bipush 104, 2) := by decide +kernel
theorem dX5_setRandomOn_3 : decode cX5_setRandomOn 3 = .ok (.lload_n 1, 1) := by decide +kernel
theorem dX5_setRandomOn_4 : decode cX5_setRandomOn 4 = .ok (.bipush 32, 2) := by decide +kernel
theorem dX5_setRandomOn_6 : decode cX5_setRandomOn 6 = .ok (.lshr, 1) := by decide +kernel
theorem dX5_setRandomOn_7 : decode cX5_setRandomOn 7 = .ok (.l2i, 1) := by decide +kernel
theorem dX5_setRandomOn_8 : decode cX5_setRandomOn 8 = .ok (.iastore, 1) := by decide +kernel
theorem dX5_setRandomOn_9 : decode cX5_setRandomOn 9 = .ok (.aload_n 0, 1) := by decide +kernel
theorem dX5_setRandomOn_10 : decode cX5_setRandomOn 10 = .ok (.bipush 105, 2) := by decide +kernel
theorem dX5_setRandomOn_12 : decode cX5_setRandomOn 12 = .ok (.lload_n 1, 1) := by decide +kernel
theorem dX5_setRandomOn_13 : decode cX5_setRandomOn 13 = .ok (.l2i, 1) := by decide +kernel
theorem dX5_setRandomOn_14 : decode cX5_setRandomOn 14 = .ok (.iastore, 1) := by decide +kernel
theorem dX5_setRandomOn_15 : decode cX5_setRandomOn 15 = .ok (.return_, 1) := by decide +kernel
theorem dX5_gripAt_0 : decode cX5_gripAt 0 = .ok (.iconst 0, 1) := by decide +kernel
theorem dX5_gripAt_1 : decode cX5_gripAt 1 = .ok (.istore_n 2, 1) := by decide +kernel
theorem dX5_gripAt_2 : decode cX5_gripAt 2 = .ok (.iload_n 2, 1) := by decide +kernel
theorem dX5_gripAt_3 : decode cX5_gripAt 3 = .ok (.aload_n 0, 1) := by decide +kernel
theorem dX5_gripAt_4 : decode cX5_gripAt 4 = .ok (.bipush 96, 2) := by decide +kernel
theorem dX5_gripAt_6 : decode cX5_gripAt 6 = .ok (.iaload, 1) := by decide +kernel
theorem dX5_gripAt_7 : decode cX5_gripAt 7 = .ok (.if_icmp .ge 30, 3) := by decide +kernel
theorem dX5_gripAt_10 : decode cX5_gripAt 10 = .ok (.aload_n 0, 1) := by decide +kernel
theorem dX5_gripAt_11 : decode cX5_gripAt 11 = .ok (.bipush 60, 2) := by decide +kernel
theorem dX5_gripAt_13 : decode cX5_gripAt 13 = .ok (.iload_n 2, 1) := by decide +kernel
theorem dX5_gripAt_14 : decode cX5_gripAt 14 = .ok (.iadd, 1) := by decide +kernel
theorem dX5_gripAt_15 : decode cX5_gripAt 15 = .ok (.iaload, 1) := by decide +kernel
theorem dX5_gripAt_16 : decode cX5_gripAt 16 = .ok (.ifCond .ne 15, 3) := by decide +kernel
theorem dX5_gripAt_19 : decode cX5_gripAt 19 = .ok (.aload_n 0, 1) := by decide +kernel
theorem dX5_gripAt_20 : decode cX5_gripAt 20 = .ok (.bipush 72, 2) := by decide +kernel
theorem dX5_gripAt_22 : decode cX5_gripAt 22 = .ok (.iload_n 2, 1) := by decide +kernel
theorem dX5_gripAt_23 : decode cX5_gripAt 23 = .ok (.iadd, 1) := by decide +kernel
theorem dX5_gripAt_24 : decode cX5_gripAt 24 = .ok (.iaload, 1) := by decide +kernel
theorem dX5_gripAt_25 : decode cX5_gripAt 25 = .ok (.iload_n 1, 1) := by decide +kernel
theorem dX5_gripAt_26 : decode cX5_gripAt 26 = .ok (.if_icmp .ne 5, 3) := by decide +kernel
theorem dX5_gripAt_29 : decode cX5_gripAt 29 = .ok (.iload_n 2, 1) := by decide +kernel
theorem dX5_gripAt_30 : decode cX5_gripAt 30 = .ok (.ireturn, 1) := by decide +kernel
theorem dX5_gripAt_31 : decode cX5_gripAt 31 = .ok (.iinc 2 1, 3) := by decide +kernel
theorem dX5_gripAt_34 : decode cX5_gripAt 34 = .ok (.goto (-32), 3) := by decide +kernel
theorem dX5_gripAt_37 : decode cX5_gripAt 37 = .ok (.bipush (-9), 2) := by decide +kernel
theorem dX5_gripAt_39 : decode cX5_gripAt 39 = .ok (.ireturn, 1) := by decide +kernel
theorem dX5_apart_0 : decode cX5_apart 0 = .ok (.iload_n 1, 1) := by decide +kernel
theorem dX5_apart_1 : decode cX5_apart 1 = .ok (.iload_n 2, 1) := by decide +kernel
theorem dX5_apart_2 : decode cX5_apart 2 = .ok (.if_icmp .ge 9, 3) := by decide +kernel
theorem dX5_apart_5 : decode cX5_apart 5 = .ok (.iload_n 2, 1) := by decide +kernel
theorem dX5_apart_6 : decode cX5_apart 6 = .ok (.iload_n 1, 1) := by decide +kernel
theorem dX5_apart_7 : decode cX5_apart 7 = .ok (.isub, 1) := by decide +kernel
theorem dX5_apart_8 : decode cX5_apart 8 = .ok (.goto 6, 3) := by decide +kernel
theorem dX5_apart_11 : decode cX5_apart 11 = .ok (.iload_n 1, 1) := by decide +kernel
theorem dX5_apart_12 : decode cX5_apart 12 = .ok (.iload_n 2, 1) := by decide +kernel
theorem dX5_apart_13 : decode cX5_apart 13 = .ok (.isub, 1) := by decide +kernel
theorem dX5_apart_14 : decode cX5_apart 14 = .ok (.istore_n 3, 1) := by decide +kernel
theorem dX5_apart_15 : decode cX5_apart 15 = .ok (.iload_n 3, 1) := by decide +kernel
theorem dX5_apart_16 : decode cX5_apart 16 = .ok (.aload_n 0, 1) := by decide +kernel
theorem dX5_apart_17 : decode cX5_apart 17 = .ok (.getfield 38, 3) := by decide +kernel
theorem dX5_apart_20 : decode cX5_apart 20 = .ok (.iload_n 3, 1) := by decide +kernel
theorem dX5_apart_21 : decode cX5_apart 21 = .ok (.isub, 1) := by decide +kernel
theorem dX5_apart_22 : decode cX5_apart 22 = .ok (.if_icmp .ge 7, 3) := by decide +kernel
theorem dX5_apart_25 : decode cX5_apart 25 = .ok (.iload_n 3, 1) := by decide +kernel
theorem dX5_apart_26 : decode cX5_apart 26 = .ok (.goto 9, 3) := by decide +kernel
theorem dX5_apart_29 : decode cX5_apart 29 = .ok (.aload_n 0, 1) := by decide +kernel
theorem dX5_apart_30 : decode cX5_apart 30 = .ok (.getfield 38, 3) := by decide +kernel
theorem dX5_apart_33 : decode cX5_apart 33 = .ok (.iload_n 3, 1) := by decide +kernel
theorem dX5_apart_34 : decode cX5_apart 34 = .ok (.isub, 1) := by decide +kernel
theorem dX5_apart_35 : decode cX5_apart 35 = .ok (.ireturn, 1) := by decide +kernel
set_option maxRecDepth 20000 in
theorem ggX5_isFree_X5_gripAt : GoodIn wsX5_isFree wsX5_gripAt := goodIn_r _ [4] (by decide +kernel) (by decide +kernel)
set_option maxRecDepth 20000 in
theorem gX5_isFree_X5_gripAt : GoodIn wsX5_isFree (va_wsS RX5 60 yX5_gripAt wsX5_gripAt) := goodIn_app (goodIn_of _ (by decide +kernel)) ggX5_isFree_X5_gripAt
set_option maxRecDepth 20000 in
theorem ggX5_isFree_X5_apart : GoodIn wsX5_isFree wsX5_apart := goodIn_r _ [8, 9, 10, 11, 12, 13, 14, 15, 16, 17, 18, 19, 20, 21, 22, 23, 24] (by decide +kernel) (by decide +kernel)
set_option maxRecDepth 20000 in
theorem gX5_isFree_X5_apart : GoodIn wsX5_isFree (wsV RX5 64 RX5 yX5_apart wsX5_apart) := goodIn_app (goodIn_of _ (by decide +kernel)) ggX5_isFree_X5_apart
theorem dX5_isFree_0 : decode cX5_isFree 0 = .ok (.aload_n 1, 1) := by decide +kernel
theorem dX5_isFree_1 : decode cX5_isFree 1 = .ok (.iload_n 2, 1) := by decide +kernel
theorem dX5_isFree_2 : decode cX5_isFree 2 = .ok (.invokestatic 60, 3) := by decide +kernel
theorem dX5_isFree_5 : decode cX5_isFree 5 = .ok (.bipush (-9), 2) := by decide +kernel
theorem dX5_isFree_7 : decode cX5_isFree 7 = .ok (.if_icmp .ne 7, 3) := by decide +kernel
theorem dX5_isFree_10 : decode cX5_isFree 10 = .ok (.iconst 1, 1) := by decide +kernel
theorem dX5_isFree_11 : decode cX5_isFree 11 = .ok (.goto 4, 3) := by decide +kernel
theorem dX5_isFree_14 : decode cX5_isFree 14 = .ok (.iconst 0, 1) := by decide +kernel
theorem dX5_isFree_15 : decode cX5_isFree 15 = .ok (.istore_n 3, 1) := by decide +kernel
theorem dX5_isFree_16 : decode cX5_isFree 16 = .ok (.iconst 0, 1) := by decide +kernel
theorem dX5_isFree_17 : decode cX5_isFree 17 = .ok (.istore 4, 2) := by decide +kernel
theorem dX5_isFree_19 : decode cX5_isFree 19 = .ok (.iload 4, 2) := by decide +kernel
theorem dX5_isFree_21 : decode cX5_isFree 21 = .ok (.aload_n 1, 1) := by decide +kernel
theorem dX5_isFree_22 : decode cX5_isFree 22 = .ok (.bipush 96, 2) := by decide +kernel
theorem dX5_isFree_24 : decode cX5_isFree 24 = .ok (.iaload, 1) := by decide +kernel
theorem dX5_isFree_25 : decode cX5_isFree 25 = .ok (.if_icmp .ge 48, 3) := by decide +kernel
theorem dX5_isFree_28 : decode cX5_isFree 28 = .ok (.iload_n 3, 1) := by decide +kernel
theorem dX5_isFree_29 : decode cX5_isFree 29 = .ok (.ifCond .eq 36, 3) := by decide +kernel
theorem dX5_isFree_32 : decode cX5_isFree 32 = .ok (.aload_n 1, 1) := by decide +kernel
theorem dX5_isFree_33 : decode cX5_isFree 33 = .ok (.bipush 60, 2) := by decide +kernel
theorem dX5_isFree_35 : decode cX5_isFree 35 = .ok (.iload 4, 2) := by decide +kernel
theorem dX5_isFree_37 : decode cX5_isFree 37 = .ok (.iadd, 1) := by decide +kernel
theorem dX5_isFree_38 : decode cX5_isFree 38 = .ok (.iaload, 1) := by decide +kernel
theorem dX5_isFree_39 : decode cX5_isFree 39 = .ok (.ifCond .ne 22, 3) := by decide +kernel
theorem dX5_isFree_42 : decode cX5_isFree 42 = .ok (.aload_n 0, 1) := by decide +kernel
theorem dX5_isFree_43 : decode cX5_isFree 43 = .ok (.iload_n 2, 1) := by decide +kernel
theorem dX5_isFree_44 : decode cX5_isFree 44 = .ok (.aload_n 1, 1) := by decide +kernel
theorem dX5_isFree_45 : decode cX5_isFree 45 = .ok (.bipush 72, 2) := by decide +kernel
theorem dX5_isFree_47 : decode cX5_isFree 47 = .ok (.iload 4, 2) := by decide +kernel
theorem dX5_isFree_49 : decode cX5_isFree 49 = .ok (.iadd, 1) := by decide +kernel
theorem dX5_isFree_50 : decode cX5_isFree 50 = .ok (.iaload, 1) := by decide +kernel
theorem dX5_isFree_51 : decode cX5_isFree 51 = .ok (.invokevirtual 64, 3) := by decide +kernel
theorem dX5_isFree_54 : decode cX5_isFree 54 = .ok (.aload_n 1, 1) := by decide +kernel
theorem dX5_isFree_55 : decode cX5_isFree 55 = .ok (.bipush 102, 2) := by decide +kernel
theorem dX5_isFree_57 : decode cX5_isFree 57 = .ok (.iaload, 1) := by decide +kernel
theorem dX5_isFree_58 : decode cX5_isFree 58 = .ok (.if_icmp .lt 7, 3) := by decide +kernel
theorem dX5_isFree_61 : decode cX5_isFree 61 = .ok (.iconst 1, 1) := by decide +kernel
theorem dX5_isFree_62 : decode cX5_isFree 62 = .ok (.goto 4, 3) := by decide +kernel
theorem dX5_isFree_65 : decode cX5_isFree 65 = .ok (.iconst 0, 1) := by decide +kernel
theorem dX5_isFree_66 : decode cX5_isFree 66 = .ok (.istore_n 3, 1) := by decide +kernel
theorem dX5_isFree_67 : decode cX5_isFree 67 = .ok (.iinc 4 1, 3) := by decide +kernel
theorem dX5_isFree_70 : decode cX5_isFree 70 = .ok (.goto (-51), 3) := by decide +kernel
theorem dX5_isFree_73 : decode cX5_isFree 73 = .ok (.iload_n 3, 1) := by decide +kernel
theorem dX5_isFree_74 : decode cX5_isFree 74 = .ok (.ireturn, 1) := by decide +kernel
theorem dX5_count_0 : decode cX5_count 0 = .ok (.iconst 0, 1) := by decide +kernel
theorem dX5_count_1 : decode cX5_count 1 = .ok (.istore_n 2, 1) := by decide +kernel
theorem dX5_count_2 : decode cX5_count 2 = .ok (.iconst 0, 1) := by decide +kernel
theorem dX5_count_3 : decode cX5_count 3 = .ok (.istore_n 3, 1) := by decide +kernel
theorem dX5_count_4 : decode cX5_count 4 = .ok (.iload_n 3, 1) := by decide +kernel
theorem dX5_count_5 : decode cX5_count 5 = .ok (.aload_n 0, 1) := by decide +kernel
theorem dX5_count_6 : decode cX5_count 6 = .ok (.bipush 96, 2) := by decide +kernel
theorem dX5_count_8 : decode cX5_count 8 = .ok (.iaload, 1) := by decide +kernel
theorem dX5_count_9 : decode cX5_count 9 = .ok (.if_icmp .ge 27, 3) := by decide +kernel
theorem dX5_count_12 : decode cX5_count 12 = .ok (.iload_n 2, 1) := by decide +kernel
theorem dX5_count_13 : decode cX5_count 13 = .ok (.aload_n 0, 1) := by decide +kernel
theorem dX5_count_14 : decode cX5_count 14 = .ok (.bipush 60, 2) := by decide +kernel
theorem dX5_count_16 : decode cX5_count 16 = .ok (.iload_n 3, 1) := by decide +kernel
theorem dX5_count_17 : decode cX5_count 17 = .ok (.iadd, 1) := by decide +kernel
theorem dX5_count_18 : decode cX5_count 18 = .ok (.iaload, 1) := by decide +kernel
theorem dX5_count_19 : decode cX5_count 19 = .ok (.iload_n 1, 1) := by decide +kernel
theorem dX5_count_20 : decode cX5_count 20 = .ok (.if_icmp .ne 7, 3) := by decide +kernel
theorem dX5_count_23 : decode cX5_count 23 = .ok (.iconst 1, 1) := by decide +kernel
theorem dX5_count_24 : decode cX5_count 24 = .ok (.goto 4, 3) := by decide +kernel
theorem dX5_count_27 : decode cX5_count 27 = .ok (.iconst 0, 1) := by decide +kernel
theorem dX5_count_28 : decode cX5_count 28 = .ok (.iadd, 1) := by decide +kernel
theorem dX5_count_29 : decode cX5_count 29 = .ok (.istore_n 2, 1) := by decide +kernel
theorem dX5_count_30 : decode cX5_count 30 = .ok (.iinc 3 1, 3) := by decide +kernel
theorem dX5_count_33 : decode cX5_count 33 = .ok (.goto (-29), 3) := by decide +kernel
theorem dX5_count_36 : decode cX5_count 36 = .ok (.iload_n 2, 1) := by decide +kernel
theorem dX5_count_37 : decode cX5_count 37 = .ok (.ireturn, 1) := by decide +kernel
set_option maxRecDepth 20000 in
theorem ggX5_stepOn_X5_randomOf : GoodIn wsX5_stepOn wsX5_randomOf := goodIn_r _ [8, 9] (by decide +kernel) (by decide +kernel)
set_option maxRecDepth 20000 in
theorem gX5_stepOn_X5_randomOf : GoodIn wsX5_stepOn (va_wsS RX5 68 yX5_randomOf wsX5_randomOf) := goodIn_app (goodIn_of _ (by decide +kernel)) ggX5_stepOn_X5_randomOf
set_option maxRecDepth 20000 in
theorem ggX5_stepOn_X5_setRandomOn : GoodIn wsX5_stepOn wsX5_setRandomOn := goodIn_r _ [12] (by decide +kernel) (by decide +kernel)
set_option maxRecDepth 20000 in
theorem gX5_stepOn_X5_setRandomOn : GoodIn wsX5_stepOn (va_wsS RX5 76 yX5_setRandomOn wsX5_setRandomOn) := goodIn_app (goodIn_of _ (by decide +kernel)) ggX5_stepOn_X5_setRandomOn
set_option maxRecDepth 20000 in
theorem ggX5_stepOn_X5_gripAt : GoodIn wsX5_stepOn wsX5_gripAt := goodIn_r _ [15] (by decide +kernel) (by decide +kernel)
set_option maxRecDepth 20000 in
theorem gX5_stepOn_X5_gripAt : GoodIn wsX5_stepOn (va_wsS RX5 60 yX5_gripAt wsX5_gripAt) := goodIn_app (goodIn_of _ (by decide +kernel)) ggX5_stepOn_X5_gripAt
set_option maxRecDepth 20000 in
theorem ggX5_stepOn_X5_pass : GoodIn wsX5_stepOn wsX5_pass := goodIn_r _ [19, 4, 28, 29, 30, 31, 32, 33, 34, 35, 36, 37, 38, 39, 40, 41, 42] (by decide +kernel) (by decide +kernel)
set_option maxRecDepth 20000 in
theorem gX5_stepOn_X5_pass : GoodIn wsX5_stepOn (wsV RX5 80 RX5 yX5_pass wsX5_pass) := goodIn_app (goodIn_of _ (by decide +kernel)) ggX5_stepOn_X5_pass
set_option maxRecDepth 20000 in
theorem ggX5_stepOn_X5_isFree : GoodIn wsX5_stepOn wsX5_isFree := goodIn_r _ [23, 13, 14, 7, 15, 24, 25, 26, 27, 1, 28, 29, 30, 31, 32, 33, 34, 35, 36, 37, 38, 39, 40, 41, 42] (by decide +kernel) (by decide +kernel)
set_option maxRecDepth 20000 in
theorem gX5_stepOn_X5_isFree : GoodIn wsX5_stepOn (wsV RX5 84 RX5 yX5_isFree wsX5_isFree) := goodIn_app (goodIn_of _ (by decide +kernel)) ggX5_stepOn_X5_isFree
theorem dX5_stepOn_0 : decode cX5_stepOn 0 = .ok (.aload_n 1, 1) := by decide +kernel
theorem dX5_stepOn_1 : decode cX5_stepOn 1 = .ok (.bipush 97, 2) := by decide +kernel
theorem dX5_stepOn_3 : decode cX5_stepOn 3 = .ok (.aload_n 1, 1) := by decide +kernel
theorem dX5_stepOn_4 : decode cX5_stepOn 4 = .ok (.bipush 97, 2) := by decide +kernel
theorem dX5_stepOn_6 : decode cX5_stepOn 6 = .ok (.iaload, 1) := by decide +kernel
theorem dX5_stepOn_7 : decode cX5_stepOn 7 = .ok (.iconst 1, 1) := by decide +kernel
theorem dX5_stepOn_8 : decode cX5_stepOn 8 = .ok (.iadd, 1) := by decide +kernel
theorem dX5_stepOn_9 : decode cX5_stepOn 9 = .ok (.aload_n 0, 1) := by decide +kernel
theorem dX5_stepOn_10 : decode cX5_stepOn 10 = .ok (.getfield 38, 3) := by decide +kernel
theorem dX5_stepOn_13 : decode cX5_stepOn 13 = .ok (.if_icmp .ne 7, 3) := by decide +kernel
theorem dX5_stepOn_16 : decode cX5_stepOn 16 = .ok (.iconst 0, 1) := by decide +kernel
theorem dX5_stepOn_17 : decode cX5_stepOn 17 = .ok (.goto 9, 3) := by decide +kernel
theorem dX5_stepOn_20 : decode cX5_stepOn 20 = .ok (.aload_n 1, 1) := by decide +kernel
theorem dX5_stepOn_21 : decode cX5_stepOn 21 = .ok (.bipush 97, 2) := by decide +kernel
theorem dX5_stepOn_23 : decode cX5_stepOn 23 = .ok (.iaload, 1) := by decide +kernel
theorem dX5_stepOn_24 : decode cX5_stepOn 24 = .ok (.iconst 1, 1) := by decide +kernel
theorem dX5_stepOn_25 : decode cX5_stepOn 25 = .ok (.iadd, 1) := by decide +kernel
theorem dX5_stepOn_26 : decode cX5_stepOn 26 = .ok (.iastore, 1) := by decide +kernel
theorem dX5_stepOn_27 : decode cX5_stepOn 27 = .ok (.aload_n 1, 1) := by decide +kernel
theorem dX5_stepOn_28 : decode cX5_stepOn 28 = .ok (.invokestatic 68, 3) := by decide +kernel
theorem dX5_stepOn_31 : decode cX5_stepOn 31 = .ok (.ldc2_w 72, 3) := by decide +kernel
theorem dX5_stepOn_34 : decode cX5_stepOn 34 = .ok (.lmul, 1) := by decide +kernel
theorem dX5_stepOn_35 : decode cX5_stepOn 35 = .ok (.ldc2_w 74, 3) := by decide +kernel
theorem dX5_stepOn_38 : decode cX5_stepOn 38 = .ok (.ladd, 1) := by decide +kernel
theorem dX5_stepOn_39 : decode cX5_stepOn 39 = .ok (.lstore_n 2, 1) := by decide +kernel
theorem dX5_stepOn_40 : decode cX5_stepOn 40 = .ok (.aload_n 1, 1) := by decide +kernel
theorem dX5_stepOn_41 : decode cX5_stepOn 41 = .ok (.lload_n 2, 1) := by decide +kernel
theorem dX5_stepOn_42 : decode cX5_stepOn 42 = .ok (.invokestatic 76, 3) := by decide +kernel
theorem dX5_stepOn_45 : decode cX5_stepOn 45 = .ok (.lload_n 2, 1) := by decide +kernel
theorem dX5_stepOn_46 : decode cX5_stepOn 46 = .ok (.bipush 33, 2) := by decide +kernel
theorem dX5_stepOn_48 : decode cX5_stepOn 48 = .ok (.lushr, 1) := by decide +kernel
theorem dX5_stepOn_49 : decode cX5_stepOn 49 = .ok (.l2i, 1) := by decide +kernel
theorem dX5_stepOn_50 : decode cX5_stepOn 50 = .ok (.istore 4, 2) := by decide +kernel
theorem dX5_stepOn_52 : decode cX5_stepOn 52 = .ok (.aload_n 1, 1) := by decide +kernel
theorem dX5_stepOn_53 : decode cX5_stepOn 53 = .ok (.aload_n 1, 1) := by decide +kernel
theorem dX5_stepOn_54 : decode cX5_stepOn 54 = .ok (.bipush 97, 2) := by decide +kernel
theorem dX5_stepOn_56 : decode cX5_stepOn 56 = .ok (.iaload, 1) := by decide +kernel
theorem dX5_stepOn_57 : decode cX5_stepOn 57 = .ok (.invokestatic 60, 3) := by decide +kernel
theorem dX5_stepOn_60 : decode cX5_stepOn 60 = .ok (.istore 5, 2) := by decide +kernel
theorem dX5_stepOn_62 : decode cX5_stepOn 62 = .ok (.iload 5, 2) := by decide +kernel
theorem dX5_stepOn_64 : decode cX5_stepOn 64 = .ok (.bipush (-9), 2) := by decide +kernel
theorem dX5_stepOn_66 : decode cX5_stepOn 66 = .ok (.if_icmp .ne 8, 3) := by decide +kernel
theorem dX5_stepOn_69 : decode cX5_stepOn 69 = .ok (.bipush (-9), 2) := by decide +kernel
theorem dX5_stepOn_71 : decode cX5_stepOn 71 = .ok (.goto 12, 3) := by decide +kernel
theorem dX5_stepOn_74 : decode cX5_stepOn 74 = .ok (.aload_n 0, 1) := by decide +kernel
theorem dX5_stepOn_75 : decode cX5_stepOn 75 = .ok (.aload_n 1, 1) := by decide +kernel
theorem dX5_stepOn_76 : decode cX5_stepOn 76 = .ok (.iload 5, 2) := by decide +kernel
theorem dX5_stepOn_78 : decode cX5_stepOn 78 = .ok (.iload 4, 2) := by decide +kernel
theorem dX5_stepOn_80 : decode cX5_stepOn 80 = .ok (.invokevirtual 80, 3) := by decide +kernel
theorem dX5_stepOn_83 : decode cX5_stepOn 83 = .ok (.istore 6, 2) := by decide +kernel
theorem dX5_stepOn_85 : decode cX5_stepOn 85 = .ok (.iconst 0, 1) := by decide +kernel
theorem dX5_stepOn_86 : decode cX5_stepOn 86 = .ok (.istore 7, 2) := by decide +kernel
theorem dX5_stepOn_88 : decode cX5_stepOn 88 = .ok (.iload 7, 2) := by decide +kernel
theorem dX5_stepOn_90 : decode cX5_stepOn 90 = .ok (.aload_n 1, 1) := by decide +kernel
theorem dX5_stepOn_91 : decode cX5_stepOn 91 = .ok (.bipush 96, 2) := by decide +kernel
theorem dX5_stepOn_93 : decode cX5_stepOn 93 = .ok (.iaload, 1) := by decide +kernel
theorem dX5_stepOn_94 : decode cX5_stepOn 94 = .ok (.if_icmp .ge 72, 3) := by decide +kernel
theorem dX5_stepOn_97 : decode cX5_stepOn 97 = .ok (.aload_n 1, 1) := by decide +kernel
theorem dX5_stepOn_98 : decode cX5_stepOn 98 = .ok (.bipush 60, 2) := by decide +kernel
theorem dX5_stepOn_100 : decode cX5_stepOn 100 = .ok (.iload 7, 2) := by decide +kernel
theorem dX5_stepOn_102 : decode cX5_stepOn 102 = .ok (.iadd, 1) := by decide +kernel
theorem dX5_stepOn_103 : decode cX5_stepOn 103 = .ok (.iaload, 1) := by decide +kernel
theorem dX5_stepOn_104 : decode cX5_stepOn 104 = .ok (.iconst 2, 1) := by decide +kernel
theorem dX5_stepOn_105 : decode cX5_stepOn 105 = .ok (.if_icmp .ne 55, 3) := by decide +kernel
theorem dX5_stepOn_108 : decode cX5_stepOn 108 = .ok (.iload 7, 2) := by decide +kernel
theorem dX5_stepOn_110 : decode cX5_stepOn 110 = .ok (.iload 6, 2) := by decide +kernel
theorem dX5_stepOn_112 : decode cX5_stepOn 112 = .ok (.if_icmp .eq 48, 3) := by decide +kernel
theorem dX5_stepOn_115 : decode cX5_stepOn 115 = .ok (.aload_n 1, 1) := by decide +kernel
theorem dX5_stepOn_116 : decode cX5_stepOn 116 = .ok (.bipush 84, 2) := by decide +kernel
theorem dX5_stepOn_118 : decode cX5_stepOn 118 = .ok (.iload 7, 2) := by decide +kernel
theorem dX5_stepOn_120 : decode cX5_stepOn 120 = .ok (.iadd, 1) := by decide +kernel
theorem dX5_stepOn_121 : decode cX5_stepOn 121 = .ok (.dup2, 1) := by decide +kernel
theorem dX5_stepOn_122 : decode cX5_stepOn 122 = .ok (.iaload, 1) := by decide +kernel
theorem dX5_stepOn_123 : decode cX5_stepOn 123 = .ok (.iconst 1, 1) := by decide +kernel
theorem dX5_stepOn_124 : decode cX5_stepOn 124 = .ok (.isub, 1) := by decide +kernel
theorem dX5_stepOn_125 : decode cX5_stepOn 125 = .ok (.iastore, 1) := by decide +kernel
theorem dX5_stepOn_126 : decode cX5_stepOn 126 = .ok (.aload_n 1, 1) := by decide +kernel
theorem dX5_stepOn_127 : decode cX5_stepOn 127 = .ok (.bipush 84, 2) := by decide +kernel
theorem dX5_stepOn_129 : decode cX5_stepOn 129 = .ok (.iload 7, 2) := by decide +kernel
theorem dX5_stepOn_131 : decode cX5_stepOn 131 = .ok (.iadd, 1) := by decide +kernel
theorem dX5_stepOn_132 : decode cX5_stepOn 132 = .ok (.iaload, 1) := by decide +kernel
theorem dX5_stepOn_133 : decode cX5_stepOn 133 = .ok (.ifCond .ne 27, 3) := by decide +kernel
theorem dX5_stepOn_136 : decode cX5_stepOn 136 = .ok (.aload_n 1, 1) := by decide +kernel
theorem dX5_stepOn_137 : decode cX5_stepOn 137 = .ok (.bipush 12, 2) := by decide +kernel
theorem dX5_stepOn_139 : decode cX5_stepOn 139 = .ok (.iload 7, 2) := by decide +kernel
theorem dX5_stepOn_141 : decode cX5_stepOn 141 = .ok (.iadd, 1) := by decide +kernel
theorem dX5_stepOn_142 : decode cX5_stepOn 142 = .ok (.iconst 0, 1) := by decide +kernel
theorem dX5_stepOn_143 : decode cX5_stepOn 143 = .ok (.iastore, 1) := by decide +kernel
theorem dX5_stepOn_144 : decode cX5_stepOn 144 = .ok (.aload_n 1, 1) := by decide +kernel
theorem dX5_stepOn_145 : decode cX5_stepOn 145 = .ok (.bipush 24, 2) := by decide +kernel
theorem dX5_stepOn_147 : decode cX5_stepOn 147 = .ok (.iload 7, 2) := by decide +kernel
theorem dX5_stepOn_149 : decode cX5_stepOn 149 = .ok (.iadd, 1) := by decide +kernel
theorem dX5_stepOn_150 : decode cX5_stepOn 150 = .ok (.iconst 0, 1) := by decide +kernel
theorem dX5_stepOn_151 : decode cX5_stepOn 151 = .ok (.iastore, 1) := by decide +kernel
theorem dX5_stepOn_152 : decode cX5_stepOn 152 = .ok (.aload_n 1, 1) := by decide +kernel
theorem dX5_stepOn_153 : decode cX5_stepOn 153 = .ok (.bipush 60, 2) := by decide +kernel
theorem dX5_stepOn_155 : decode cX5_stepOn 155 = .ok (.iload 7, 2) := by decide +kernel
theorem dX5_stepOn_157 : decode cX5_stepOn 157 = .ok (.iadd, 1) := by decide +kernel
theorem dX5_stepOn_158 : decode cX5_stepOn 158 = .ok (.iconst 1, 1) := by decide +kernel
theorem dX5_stepOn_159 : decode cX5_stepOn 159 = .ok (.iastore, 1) := by decide +kernel
theorem dX5_stepOn_160 : decode cX5_stepOn 160 = .ok (.iinc 7 1, 3) := by decide +kernel
theorem dX5_stepOn_163 : decode cX5_stepOn 163 = .ok (.goto (-75), 3) := by decide +kernel
theorem dX5_stepOn_166 : decode cX5_stepOn 166 = .ok (.aload_n 0, 1) := by decide +kernel
theorem dX5_stepOn_167 : decode cX5_stepOn 167 = .ok (.aload_n 1, 1) := by decide +kernel
theorem dX5_stepOn_168 : decode cX5_stepOn 168 = .ok (.aload_n 1, 1) := by decide +kernel
theorem dX5_stepOn_169 : decode cX5_stepOn 169 = .ok (.bipush 97, 2) := by decide +kernel
theorem dX5_stepOn_171 : decode cX5_stepOn 171 = .ok (.iaload, 1) := by decide +kernel
theorem dX5_stepOn_172 : decode cX5_stepOn 172 = .ok (.invokevirtual 84, 3) := by decide +kernel
theorem dX5_stepOn_175 : decode cX5_stepOn 175 = .ok (.ifCond .eq 105, 3) := by decide +kernel
theorem dX5_stepOn_178 : decode cX5_stepOn 178 = .ok (.bipush (-9), 2) := by decide +kernel
theorem dX5_stepOn_180 : decode cX5_stepOn 180 = .ok (.istore 7, 2) := by decide +kernel
theorem dX5_stepOn_182 : decode cX5_stepOn 182 = .ok (.iconst 0, 1) := by decide +kernel
theorem dX5_stepOn_183 : decode cX5_stepOn 183 = .ok (.istore 8, 2) := by decide +kernel
theorem dX5_stepOn_185 : decode cX5_stepOn 185 = .ok (.iload 8, 2) := by decide +kernel
theorem dX5_stepOn_187 : decode cX5_stepOn 187 = .ok (.aload_n 1, 1) := by decide +kernel
theorem dX5_stepOn_188 : decode cX5_stepOn 188 = .ok (.bipush 96, 2) := by decide +kernel
theorem dX5_stepOn_190 : decode cX5_stepOn 190 = .ok (.iaload, 1) := by decide +kernel
theorem dX5_stepOn_191 : decode cX5_stepOn 191 = .ok (.if_icmp .ge 53, 3) := by decide +kernel
theorem dX5_stepOn_194 : decode cX5_stepOn 194 = .ok (.aload_n 1, 1) := by decide +kernel
theorem dX5_stepOn_195 : decode cX5_stepOn 195 = .ok (.bipush 60, 2) := by decide +kernel
theorem dX5_stepOn_197 : decode cX5_stepOn 197 = .ok (.iload 8, 2) := by decide +kernel
theorem dX5_stepOn_199 : decode cX5_stepOn 199 = .ok (.iadd, 1) := by decide +kernel
theorem dX5_stepOn_200 : decode cX5_stepOn 200 = .ok (.iaload, 1) := by decide +kernel
theorem dX5_stepOn_201 : decode cX5_stepOn 201 = .ok (.iconst 1, 1) := by decide +kernel
theorem dX5_stepOn_202 : decode cX5_stepOn 202 = .ok (.if_icmp .ne 32, 3) := by decide +kernel
theorem dX5_stepOn_205 : decode cX5_stepOn 205 = .ok (.iload 7, 2) := by decide +kernel
theorem dX5_stepOn_207 : decode cX5_stepOn 207 = .ok (.bipush (-9), 2) := by decide +kernel
theorem dX5_stepOn_209 : decode cX5_stepOn 209 = .ok (.if_icmp .eq 20, 3) := by decide +kernel
theorem dX5_stepOn_212 : decode cX5_stepOn 212 = .ok (.aload_n 1, 1) := by decide +kernel
theorem dX5_stepOn_213 : decode cX5_stepOn 213 = .ok (.bipush 12, 2) := by decide +kernel
theorem dX5_stepOn_215 : decode cX5_stepOn 215 = .ok (.iload 8, 2) := by decide +kernel
theorem dX5_stepOn_217 : decode cX5_stepOn 217 = .ok (.iadd, 1) := by decide +kernel
theorem dX5_stepOn_218 : decode cX5_stepOn 218 = .ok (.iaload, 1) := by decide +kernel
theorem dX5_stepOn_219 : decode cX5_stepOn 219 = .ok (.aload_n 1, 1) := by decide +kernel
theorem dX5_stepOn_220 : decode cX5_stepOn 220 = .ok (.bipush 12, 2) := by decide +kernel
theorem dX5_stepOn_222 : decode cX5_stepOn 222 = .ok (.iload 7, 2) := by decide +kernel
theorem dX5_stepOn_224 : decode cX5_stepOn 224 = .ok (.iadd, 1) := by decide +kernel
theorem dX5_stepOn_225 : decode cX5_stepOn 225 = .ok (.iaload, 1) := by decide +kernel
theorem dX5_stepOn_226 : decode cX5_stepOn 226 = .ok (.if_icmp .ge 8, 3) := by decide +kernel
theorem dX5_stepOn_229 : decode cX5_stepOn 229 = .ok (.iload 8, 2) := by decide +kernel
theorem dX5_stepOn_231 : decode cX5_stepOn 231 = .ok (.goto 5, 3) := by decide +kernel
theorem dX5_stepOn_234 : decode cX5_stepOn 234 = .ok (.iload 7, 2) := by decide +kernel
theorem dX5_stepOn_236 : decode cX5_stepOn 236 = .ok (.istore 7, 2) := by decide +kernel
theorem dX5_stepOn_238 : decode cX5_stepOn 238 = .ok (.iinc 8 1, 3) := by decide +kernel
theorem dX5_stepOn_241 : decode cX5_stepOn 241 = .ok (.goto (-56), 3) := by decide +kernel
theorem dX5_stepOn_244 : decode cX5_stepOn 244 = .ok (.iload 7, 2) := by decide +kernel
theorem dX5_stepOn_246 : decode cX5_stepOn 246 = .ok (.bipush (-9), 2) := by decide +kernel
theorem dX5_stepOn_248 : decode cX5_stepOn 248 = .ok (.if_icmp .eq 32, 3) := by decide +kernel
theorem dX5_stepOn_251 : decode cX5_stepOn 251 = .ok (.aload_n 1, 1) := by decide +kernel
theorem dX5_stepOn_252 : decode cX5_stepOn 252 = .ok (.bipush 60, 2) := by decide +kernel
theorem dX5_stepOn_254 : decode cX5_stepOn 254 = .ok (.iload 7, 2) := by decide +kernel
theorem dX5_stepOn_256 : decode cX5_stepOn 256 = .ok (.iadd, 1) := by decide +kernel
theorem dX5_stepOn_257 : decode cX5_stepOn 257 = .ok (.iconst 0, 1) := by decide +kernel
theorem dX5_stepOn_258 : decode cX5_stepOn 258 = .ok (.iastore, 1) := by decide +kernel
theorem dX5_stepOn_259 : decode cX5_stepOn 259 = .ok (.aload_n 1, 1) := by decide +kernel
theorem dX5_stepOn_260 : decode cX5_stepOn 260 = .ok (.bipush 72, 2) := by decide +kernel
theorem dX5_stepOn_262 : decode cX5_stepOn 262 = .ok (.iload 7, 2) := by decide +kernel
theorem dX5_stepOn_264 : decode cX5_stepOn 264 = .ok (.iadd, 1) := by decide +kernel
theorem dX5_stepOn_265 : decode cX5_stepOn 265 = .ok (.aload_n 1, 1) := by decide +kernel
theorem dX5_stepOn_266 : decode cX5_stepOn 266 = .ok (.bipush 97, 2) := by decide +kernel
theorem dX5_stepOn_268 : decode cX5_stepOn 268 = .ok (.iaload, 1) := by decide +kernel
theorem dX5_stepOn_269 : decode cX5_stepOn 269 = .ok (.iastore, 1) := by decide +kernel
theorem dX5_stepOn_270 : decode cX5_stepOn 270 = .ok (.aload_n 0, 1) := by decide +kernel
theorem dX5_stepOn_271 : decode cX5_stepOn 271 = .ok (.getfield 32, 3) := by decide +kernel
theorem dX5_stepOn_274 : decode cX5_stepOn 274 = .ok (.iconst 3, 1) := by decide +kernel
theorem dX5_stepOn_275 : decode cX5_stepOn 275 = .ok (.dup2, 1) := by decide +kernel
theorem dX5_stepOn_276 : decode cX5_stepOn 276 = .ok (.iaload, 1) := by decide +kernel
theorem dX5_stepOn_277 : decode cX5_stepOn 277 = .ok (.iconst 1, 1) := by decide +kernel
theorem dX5_stepOn_278 : decode cX5_stepOn 278 = .ok (.iadd, 1) := by decide +kernel
theorem dX5_stepOn_279 : decode cX5_stepOn 279 = .ok (.iastore, 1) := by decide +kernel
theorem dX5_stepOn_280 : decode cX5_stepOn 280 = .ok (.aload_n 1, 1) := by decide +kernel
theorem dX5_stepOn_281 : decode cX5_stepOn 281 = .ok (.bipush 98, 2) := by decide +kernel
theorem dX5_stepOn_283 : decode cX5_stepOn 283 = .ok (.dup2, 1) := by decide +kernel
theorem dX5_stepOn_284 : decode cX5_stepOn 284 = .ok (.iaload, 1) := by decide +kernel
theorem dX5_stepOn_285 : decode cX5_stepOn 285 = .ok (.iconst 1, 1) := by decide +kernel
theorem dX5_stepOn_286 : decode cX5_stepOn 286 = .ok (.iadd, 1) := by decide +kernel
theorem dX5_stepOn_287 : decode cX5_stepOn 287 = .ok (.iastore, 1) := by decide +kernel
theorem dX5_stepOn_288 : decode cX5_stepOn 288 = .ok (.return_, 1) := by decide +kernel
theorem dX5_pass_0 : decode cX5_pass 0 = .ok (.aload_n 1, 1) := by decide +kernel
theorem dX5_pass_1 : decode cX5_pass 1 = .ok (.bipush 12, 2) := by decide +kernel
theorem dX5_pass_3 : decode cX5_pass 3 = .ok (.iload_n 2, 1) := by decide +kernel
theorem dX5_pass_4 : decode cX5_pass 4 = .ok (.iadd, 1) := by decide +kernel
theorem dX5_pass_5 : decode cX5_pass 5 = .ok (.dup2, 1) := by decide +kernel
theorem dX5_pass_6 : decode cX5_pass 6 = .ok (.iaload, 1) := by decide +kernel
theorem dX5_pass_7 : decode cX5_pass 7 = .ok (.iconst 1, 1) := by decide +kernel
theorem dX5_pass_8 : decode cX5_pass 8 = .ok (.iadd, 1) := by decide +kernel
theorem dX5_pass_9 : decode cX5_pass 9 = .ok (.iastore, 1) := by decide +kernel
theorem dX5_pass_10 : decode cX5_pass 10 = .ok (.aload_n 1, 1) := by decide +kernel
theorem dX5_pass_11 : decode cX5_pass 11 = .ok (.bipush 24, 2) := by decide +kernel
theorem dX5_pass_13 : decode cX5_pass 13 = .ok (.iload_n 2, 1) := by decide +kernel
theorem dX5_pass_14 : decode cX5_pass 14 = .ok (.iadd, 1) := by decide +kernel
theorem dX5_pass_15 : decode cX5_pass 15 = .ok (.dup2, 1) := by decide +kernel
theorem dX5_pass_16 : decode cX5_pass 16 = .ok (.iaload, 1) := by decide +kernel
theorem dX5_pass_17 : decode cX5_pass 17 = .ok (.iconst 1, 1) := by decide +kernel
theorem dX5_pass_18 : decode cX5_pass 18 = .ok (.aload_n 1, 1) := by decide +kernel
theorem dX5_pass_19 : decode cX5_pass 19 = .ok (.iconst 0, 1) := by decide +kernel
theorem dX5_pass_20 : decode cX5_pass 20 = .ok (.iload_n 2, 1) := by decide +kernel
theorem dX5_pass_21 : decode cX5_pass 21 = .ok (.iadd, 1) := by decide +kernel
theorem dX5_pass_22 : decode cX5_pass 22 = .ok (.iaload, 1) := by decide +kernel
theorem dX5_pass_23 : decode cX5_pass 23 = .ok (.iadd, 1) := by decide +kernel
theorem dX5_pass_24 : decode cX5_pass 24 = .ok (.iadd, 1) := by decide +kernel
theorem dX5_pass_25 : decode cX5_pass 25 = .ok (.iastore, 1) := by decide +kernel
theorem dX5_pass_26 : decode cX5_pass 26 = .ok (.aload_n 1, 1) := by decide +kernel
theorem dX5_pass_27 : decode cX5_pass 27 = .ok (.bipush 12, 2) := by decide +kernel
theorem dX5_pass_29 : decode cX5_pass 29 = .ok (.iload_n 2, 1) := by decide +kernel
theorem dX5_pass_30 : decode cX5_pass 30 = .ok (.iadd, 1) := by decide +kernel
theorem dX5_pass_31 : decode cX5_pass 31 = .ok (.iaload, 1) := by decide +kernel
theorem dX5_pass_32 : decode cX5_pass 32 = .ok (.aload_n 1, 1) := by decide +kernel
theorem dX5_pass_33 : decode cX5_pass 33 = .ok (.bipush 99, 2) := by decide +kernel
theorem dX5_pass_35 : decode cX5_pass 35 = .ok (.iaload, 1) := by decide +kernel
theorem dX5_pass_36 : decode cX5_pass 36 = .ok (.if_icmp .lt 7, 3) := by decide +kernel
theorem dX5_pass_39 : decode cX5_pass 39 = .ok (.iconst 1, 1) := by decide +kernel
theorem dX5_pass_40 : decode cX5_pass 40 = .ok (.goto 4, 3) := by decide +kernel
theorem dX5_pass_43 : decode cX5_pass 43 = .ok (.iconst 0, 1) := by decide +kernel
theorem dX5_pass_44 : decode cX5_pass 44 = .ok (.istore 4, 2) := by decide +kernel
theorem dX5_pass_46 : decode cX5_pass 46 = .ok (.iload 4, 2) := by decide +kernel
theorem dX5_pass_48 : decode cX5_pass 48 = .ok (.ifCond .ne 15, 3) := by decide +kernel
theorem dX5_pass_51 : decode cX5_pass 51 = .ok (.iload_n 3, 1) := by decide +kernel
theorem dX5_pass_52 : decode cX5_pass 52 = .ok (.aload_n 1, 1) := by decide +kernel
theorem dX5_pass_53 : decode cX5_pass 53 = .ok (.bipush 101, 2) := by decide +kernel
theorem dX5_pass_55 : decode cX5_pass 55 = .ok (.iaload, 1) := by decide +kernel
theorem dX5_pass_56 : decode cX5_pass 56 = .ok (.irem, 1) := by decide +kernel
theorem dX5_pass_57 : decode cX5_pass 57 = .ok (.ifCond .eq 6, 3) := by decide +kernel
theorem dX5_pass_60 : decode cX5_pass 60 = .ok (.bipush (-9), 2) := by decide +kernel
theorem dX5_pass_62 : decode cX5_pass 62 = .ok (.ireturn, 1) := by decide +kernel
theorem dX5_pass_63 : decode cX5_pass 63 = .ok (.aload_n 1, 1) := by decide +kernel
theorem dX5_pass_64 : decode cX5_pass 64 = .ok (.bipush 36, 2) := by decide +kernel
theorem dX5_pass_66 : decode cX5_pass 66 = .ok (.iload_n 2, 1) := by decide +kernel
theorem dX5_pass_67 : decode cX5_pass 67 = .ok (.iadd, 1) := by decide +kernel
theorem dX5_pass_68 : decode cX5_pass 68 = .ok (.dup2, 1) := by decide +kernel
theorem dX5_pass_69 : decode cX5_pass 69 = .ok (.iaload, 1) := by decide +kernel
theorem dX5_pass_70 : decode cX5_pass 70 = .ok (.iconst 1, 1) := by decide +kernel
theorem dX5_pass_71 : decode cX5_pass 71 = .ok (.iadd, 1) := by decide +kernel
theorem dX5_pass_72 : decode cX5_pass 72 = .ok (.iastore, 1) := by decide +kernel
theorem dX5_pass_73 : decode cX5_pass 73 = .ok (.aload_n 1, 1) := by decide +kernel
theorem dX5_pass_74 : decode cX5_pass 74 = .ok (.bipush 48, 2) := by decide +kernel
theorem dX5_pass_76 : decode cX5_pass 76 = .ok (.iload_n 2, 1) := by decide +kernel
theorem dX5_pass_77 : decode cX5_pass 77 = .ok (.iadd, 1) := by decide +kernel
theorem dX5_pass_78 : decode cX5_pass 78 = .ok (.aload_n 1, 1) := by decide +kernel
theorem dX5_pass_79 : decode cX5_pass 79 = .ok (.bipush 24, 2) := by decide +kernel
theorem dX5_pass_81 : decode cX5_pass 81 = .ok (.iload_n 2, 1) := by decide +kernel
theorem dX5_pass_82 : decode cX5_pass 82 = .ok (.iadd, 1) := by decide +kernel
theorem dX5_pass_83 : decode cX5_pass 83 = .ok (.iaload, 1) := by decide +kernel
theorem dX5_pass_84 : decode cX5_pass 84 = .ok (.iconst 4, 1) := by decide +kernel
theorem dX5_pass_85 : decode cX5_pass 85 = .ok (.idiv, 1) := by decide +kernel
theorem dX5_pass_86 : decode cX5_pass 86 = .ok (.iload_n 3, 1) := by decide +kernel
theorem dX5_pass_87 : decode cX5_pass 87 = .ok (.bipush 16, 2) := by decide +kernel
theorem dX5_pass_89 : decode cX5_pass 89 = .ok (.idiv, 1) := by decide +kernel
theorem dX5_pass_90 : decode cX5_pass 90 = .ok (.iconst 5, 1) := by decide +kernel
theorem dX5_pass_91 : decode cX5_pass 91 = .ok (.irem, 1) := by decide +kernel
theorem dX5_pass_92 : decode cX5_pass 92 = .ok (.iadd, 1) := by decide +kernel
theorem dX5_pass_93 : decode cX5_pass 93 = .ok (.iastore, 1) := by decide +kernel
theorem dX5_pass_94 : decode cX5_pass 94 = .ok (.aload_n 0, 1) := by decide +kernel
theorem dX5_pass_95 : decode cX5_pass 95 = .ok (.getfield 32, 3) := by decide +kernel
theorem dX5_pass_98 : decode cX5_pass 98 = .ok (.iconst 0, 1) := by decide +kernel
theorem dX5_pass_99 : decode cX5_pass 99 = .ok (.dup2, 1) := by decide +kernel
theorem dX5_pass_100 : decode cX5_pass 100 = .ok (.iaload, 1) := by decide +kernel
theorem dX5_pass_101 : decode cX5_pass 101 = .ok (.iconst 1, 1) := by decide +kernel
theorem dX5_pass_102 : decode cX5_pass 102 = .ok (.iadd, 1) := by decide +kernel
theorem dX5_pass_103 : decode cX5_pass 103 = .ok (.iastore, 1) := by decide +kernel
theorem dX5_pass_104 : decode cX5_pass 104 = .ok (.iload 4, 2) := by decide +kernel
theorem dX5_pass_106 : decode cX5_pass 106 = .ok (.ifCond .ne 19, 3) := by decide +kernel
theorem dX5_pass_109 : decode cX5_pass 109 = .ok (.aload_n 1, 1) := by decide +kernel
theorem dX5_pass_110 : decode cX5_pass 110 = .ok (.bipush 48, 2) := by decide +kernel
theorem dX5_pass_112 : decode cX5_pass 112 = .ok (.iload_n 2, 1) := by decide +kernel
theorem dX5_pass_113 : decode cX5_pass 113 = .ok (.iadd, 1) := by decide +kernel
theorem dX5_pass_114 : decode cX5_pass 114 = .ok (.iaload, 1) := by decide +kernel
theorem dX5_pass_115 : decode cX5_pass 115 = .ok (.aload_n 1, 1) := by decide +kernel
theorem dX5_pass_116 : decode cX5_pass 116 = .ok (.bipush 100, 2) := by decide +kernel
theorem dX5_pass_118 : decode cX5_pass 118 = .ok (.iaload, 1) := by decide +kernel
theorem dX5_pass_119 : decode cX5_pass 119 = .ok (.if_icmp .gt 6, 3) := by decide +kernel
theorem dX5_pass_122 : decode cX5_pass 122 = .ok (.bipush (-9), 2) := by decide +kernel
theorem dX5_pass_124 : decode cX5_pass 124 = .ok (.ireturn, 1) := by decide +kernel
theorem dX5_pass_125 : decode cX5_pass 125 = .ok (.aload_n 0, 1) := by decide +kernel
theorem dX5_pass_126 : decode cX5_pass 126 = .ok (.getfield 32, 3) := by decide +kernel
theorem dX5_pass_129 : decode cX5_pass 129 = .ok (.iload 4, 2) := by decide +kernel
theorem dX5_pass_131 : decode cX5_pass 131 = .ok (.ifCond .eq 7, 3) := by decide +kernel
theorem dX5_pass_134 : decode cX5_pass 134 = .ok (.iconst 1, 1) := by decide +kernel
theorem dX5_pass_135 : decode cX5_pass 135 = .ok (.goto 4, 3) := by decide +kernel
theorem dX5_pass_138 : decode cX5_pass 138 = .ok (.iconst 2, 1) := by decide +kernel
theorem dX5_pass_139 : decode cX5_pass 139 = .ok (.dup2, 1) := by decide +kernel
theorem dX5_pass_140 : decode cX5_pass 140 = .ok (.iaload, 1) := by decide +kernel
theorem dX5_pass_141 : decode cX5_pass 141 = .ok (.iconst 1, 1) := by decide +kernel
theorem dX5_pass_142 : decode cX5_pass 142 = .ok (.iadd, 1) := by decide +kernel
theorem dX5_pass_143 : decode cX5_pass 143 = .ok (.iastore, 1) := by decide +kernel
theorem dX5_pass_144 : decode cX5_pass 144 = .ok (.aload_n 1, 1) := by decide +kernel
theorem dX5_pass_145 : decode cX5_pass 145 = .ok (.bipush 60, 2) := by decide +kernel
theorem dX5_pass_147 : decode cX5_pass 147 = .ok (.iload_n 2, 1) := by decide +kernel
theorem dX5_pass_148 : decode cX5_pass 148 = .ok (.iadd, 1) := by decide +kernel
theorem dX5_pass_149 : decode cX5_pass 149 = .ok (.iconst 2, 1) := by decide +kernel
theorem dX5_pass_150 : decode cX5_pass 150 = .ok (.iastore, 1) := by decide +kernel
theorem dX5_pass_151 : decode cX5_pass 151 = .ok (.aload_n 1, 1) := by decide +kernel
theorem dX5_pass_152 : decode cX5_pass 152 = .ok (.bipush 84, 2) := by decide +kernel
theorem dX5_pass_154 : decode cX5_pass 154 = .ok (.iload_n 2, 1) := by decide +kernel
theorem dX5_pass_155 : decode cX5_pass 155 = .ok (.iadd, 1) := by decide +kernel
theorem dX5_pass_156 : decode cX5_pass 156 = .ok (.aload_n 1, 1) := by decide +kernel
theorem dX5_pass_157 : decode cX5_pass 157 = .ok (.bipush 103, 2) := by decide +kernel
theorem dX5_pass_159 : decode cX5_pass 159 = .ok (.iaload, 1) := by decide +kernel
theorem dX5_pass_160 : decode cX5_pass 160 = .ok (.iastore, 1) := by decide +kernel
theorem dX5_pass_161 : decode cX5_pass 161 = .ok (.iload_n 2, 1) := by decide +kernel
theorem dX5_pass_162 : decode cX5_pass 162 = .ok (.ireturn, 1) := by decide +kernel
set_option maxRecDepth 20000 in
theorem ggX5_stepsOn_X5_stepOn : GoodIn wsX5_stepsOn wsX5_stepOn := goodIn_r _ [6, 7, 8, 9, 1, 10, 11, 5, 12, 13, 14, 15, 16, 17, 18, 19, 20, 21, 22, 23, 24, 25, 26, 27, 28, 29, 30, 31, 32, 33, 34, 35, 36, 37, 38, 39, 40, 41, 42, 43, 44, 45, 46] (by decide +kernel) (by decide +kernel)
set_option maxRecDepth 20000 in
theorem gX5_stepsOn_X5_stepOn : GoodIn wsX5_stepsOn (wsV RX5 88 RX5 yX5_stepOn wsX5_stepOn) := goodIn_app (goodIn_of _ (by decide +kernel)) ggX5_stepsOn_X5_stepOn
theorem dX5_stepsOn_0 : decode cX5_stepsOn 0 = .ok (.iconst 0, 1) := by decide +kernel
theorem dX5_stepsOn_1 : decode cX5_stepsOn 1 = .ok (.istore_n 3, 1) := by decide +kernel
theorem dX5_stepsOn_2 : decode cX5_stepsOn 2 = .ok (.iload_n 3, 1) := by decide +kernel
theorem dX5_stepsOn_3 : decode cX5_stepsOn 3 = .ok (.iconst 4, 1) := by decide +kernel
theorem dX5_stepsOn_4 : decode cX5_stepsOn 4 = .ok (.if_icmp .ge 16, 3) := by decide +kernel
theorem dX5_stepsOn_7 : decode cX5_stepsOn 7 = .ok (.aload_n 0, 1) := by decide +kernel
theorem dX5_stepsOn_8 : decode cX5_stepsOn 8 = .ok (.getfield 32, 3) := by decide +kernel
theorem dX5_stepsOn_11 : decode cX5_stepsOn 11 = .ok (.iload_n 3, 1) := by decide +kernel
theorem dX5_stepsOn_12 : decode cX5_stepsOn 12 = .ok (.iconst 0, 1) := by decide +kernel
theorem dX5_stepsOn_13 : decode cX5_stepsOn 13 = .ok (.iastore, 1) := by decide +kernel
theorem dX5_stepsOn_14 : decode cX5_stepsOn 14 = .ok (.iinc 3 1, 3) := by decide +kernel
theorem dX5_stepsOn_17 : decode cX5_stepsOn 17 = .ok (.goto (-15), 3) := by decide +kernel
theorem dX5_stepsOn_20 : decode cX5_stepsOn 20 = .ok (.iconst 0, 1) := by decide +kernel
theorem dX5_stepsOn_21 : decode cX5_stepsOn 21 = .ok (.istore_n 3, 1) := by decide +kernel
theorem dX5_stepsOn_22 : decode cX5_stepsOn 22 = .ok (.iload_n 3, 1) := by decide +kernel
theorem dX5_stepsOn_23 : decode cX5_stepsOn 23 = .ok (.iload_n 2, 1) := by decide +kernel
theorem dX5_stepsOn_24 : decode cX5_stepsOn 24 = .ok (.if_icmp .ge 14, 3) := by decide +kernel
theorem dX5_stepsOn_27 : decode cX5_stepsOn 27 = .ok (.aload_n 0, 1) := by decide +kernel
theorem dX5_stepsOn_28 : decode cX5_stepsOn 28 = .ok (.aload_n 1, 1) := by decide +kernel
theorem dX5_stepsOn_29 : decode cX5_stepsOn 29 = .ok (.invokevirtual 88, 3) := by decide +kernel
theorem dX5_stepsOn_32 : decode cX5_stepsOn 32 = .ok (.iinc 3 1, 3) := by decide +kernel
theorem dX5_stepsOn_35 : decode cX5_stepsOn 35 = .ok (.goto (-13), 3) := by decide +kernel
theorem dX5_stepsOn_38 : decode cX5_stepsOn 38 = .ok (.return_, 1) := by decide +kernel
theorem dX5_addOn_0 : decode cX5_addOn 0 = .ok (.aload_n 0, 1) := by decide +kernel
theorem dX5_addOn_1 : decode cX5_addOn 1 = .ok (.bipush 96, 2) := by decide +kernel
theorem dX5_addOn_3 : decode cX5_addOn 3 = .ok (.iaload, 1) := by decide +kernel
theorem dX5_addOn_4 : decode cX5_addOn 4 = .ok (.istore 4, 2) := by decide +kernel
theorem dX5_addOn_6 : decode cX5_addOn 6 = .ok (.aload_n 0, 1) := by decide +kernel
theorem dX5_addOn_7 : decode cX5_addOn 7 = .ok (.iconst 0, 1) := by decide +kernel
theorem dX5_addOn_8 : decode cX5_addOn 8 = .ok (.iload 4, 2) := by decide +kernel
theorem dX5_addOn_10 : decode cX5_addOn 10 = .ok (.iadd, 1) := by decide +kernel
theorem dX5_addOn_11 : decode cX5_addOn 11 = .ok (.iload_n 1, 1) := by decide +kernel
theorem dX5_addOn_12 : decode cX5_addOn 12 = .ok (.iastore, 1) := by decide +kernel
theorem dX5_addOn_13 : decode cX5_addOn 13 = .ok (.aload_n 0, 1) := by decide +kernel
theorem dX5_addOn_14 : decode cX5_addOn 14 = .ok (.bipush 12, 2) := by decide +kernel
theorem dX5_addOn_16 : decode cX5_addOn 16 = .ok (.iload 4, 2) := by decide +kernel
theorem dX5_addOn_18 : decode cX5_addOn 18 = .ok (.iadd, 1) := by decide +kernel
theorem dX5_addOn_19 : decode cX5_addOn 19 = .ok (.iconst 0, 1) := by decide +kernel
theorem dX5_addOn_20 : decode cX5_addOn 20 = .ok (.iastore, 1) := by decide +kernel
theorem dX5_addOn_21 : decode cX5_addOn 21 = .ok (.aload_n 0, 1) := by decide +kernel
theorem dX5_addOn_22 : decode cX5_addOn 22 = .ok (.bipush 24, 2) := by decide +kernel
theorem dX5_addOn_24 : decode cX5_addOn 24 = .ok (.iload 4, 2) := by decide +kernel
theorem dX5_addOn_26 : decode cX5_addOn 26 = .ok (.iadd, 1) := by decide +kernel
theorem dX5_addOn_27 : decode cX5_addOn 27 = .ok (.iconst 0, 1) := by decide +kernel
theorem dX5_addOn_28 : decode cX5_addOn 28 = .ok (.iastore, 1) := by decide +kernel
theorem dX5_addOn_29 : decode cX5_addOn 29 = .ok (.aload_n 0, 1) := by decide +kernel
theorem dX5_addOn_30 : decode cX5_addOn 30 = .ok (.bipush 36, 2) := by decide +kernel
theorem dX5_addOn_32 : decode cX5_addOn 32 = .ok (.iload 4, 2) := by decide +kernel
theorem dX5_addOn_34 : decode cX5_addOn 34 = .ok (.iadd, 1) := by decide +kernel
theorem dX5_addOn_35 : decode cX5_addOn 35 = .ok (.iconst 0, 1) := by decide +kernel
theorem dX5_addOn_36 : decode cX5_addOn 36 = .ok (.iastore, 1) := by decide +kernel
theorem dX5_addOn_37 : decode cX5_addOn 37 = .ok (.aload_n 0, 1) := by decide +kernel
theorem dX5_addOn_38 : decode cX5_addOn 38 = .ok (.bipush 48, 2) := by decide +kernel
theorem dX5_addOn_40 : decode cX5_addOn 40 = .ok (.iload 4, 2) := by decide +kernel
theorem dX5_addOn_42 : decode cX5_addOn 42 = .ok (.iadd, 1) := by decide +kernel
theorem dX5_addOn_43 : decode cX5_addOn 43 = .ok (.bipush (-9), 2) := by decide +kernel
theorem dX5_addOn_45 : decode cX5_addOn 45 = .ok (.iastore, 1) := by decide +kernel
theorem dX5_addOn_46 : decode cX5_addOn 46 = .ok (.aload_n 0, 1) := by decide +kernel
theorem dX5_addOn_47 : decode cX5_addOn 47 = .ok (.bipush 60, 2) := by decide +kernel
theorem dX5_addOn_49 : decode cX5_addOn 49 = .ok (.iload 4, 2) := by decide +kernel
theorem dX5_addOn_51 : decode cX5_addOn 51 = .ok (.iadd, 1) := by decide +kernel
theorem dX5_addOn_52 : decode cX5_addOn 52 = .ok (.iload_n 2, 1) := by decide +kernel
theorem dX5_addOn_53 : decode cX5_addOn 53 = .ok (.iastore, 1) := by decide +kernel
theorem dX5_addOn_54 : decode cX5_addOn 54 = .ok (.aload_n 0, 1) := by decide +kernel
theorem dX5_addOn_55 : decode cX5_addOn 55 = .ok (.bipush 72, 2) := by decide +kernel
theorem dX5_addOn_57 : decode cX5_addOn 57 = .ok (.iload 4, 2) := by decide +kernel
theorem dX5_addOn_59 : decode cX5_addOn 59 = .ok (.iadd, 1) := by decide +kernel
theorem dX5_addOn_60 : decode cX5_addOn 60 = .ok (.iload_n 3, 1) := by decide +kernel
theorem dX5_addOn_61 : decode cX5_addOn 61 = .ok (.iastore, 1) := by decide +kernel
theorem dX5_addOn_62 : decode cX5_addOn 62 = .ok (.aload_n 0, 1) := by decide +kernel
theorem dX5_addOn_63 : decode cX5_addOn 63 = .ok (.bipush 84, 2) := by decide +kernel
theorem dX5_addOn_65 : decode cX5_addOn 65 = .ok (.iload 4, 2) := by decide +kernel
theorem dX5_addOn_67 : decode cX5_addOn 67 = .ok (.iadd, 1) := by decide +kernel
theorem dX5_addOn_68 : decode cX5_addOn 68 = .ok (.iconst 0, 1) := by decide +kernel
theorem dX5_addOn_69 : decode cX5_addOn 69 = .ok (.iastore, 1) := by decide +kernel
theorem dX5_addOn_70 : decode cX5_addOn 70 = .ok (.aload_n 0, 1) := by decide +kernel
theorem dX5_addOn_71 : decode cX5_addOn 71 = .ok (.bipush 96, 2) := by decide +kernel
theorem dX5_addOn_73 : decode cX5_addOn 73 = .ok (.dup2, 1) := by decide +kernel
theorem dX5_addOn_74 : decode cX5_addOn 74 = .ok (.iaload, 1) := by decide +kernel
theorem dX5_addOn_75 : decode cX5_addOn 75 = .ok (.iconst 1, 1) := by decide +kernel
theorem dX5_addOn_76 : decode cX5_addOn 76 = .ok (.iadd, 1) := by decide +kernel
theorem dX5_addOn_77 : decode cX5_addOn 77 = .ok (.iastore, 1) := by decide +kernel
theorem dX5_addOn_78 : decode cX5_addOn 78 = .ok (.return_, 1) := by decide +kernel
set_option maxRecDepth 20000 in
theorem ggX5_append_X5_in : GoodIn wsX5_append wsX5_in := goodIn_r _ [7] (by decide +kernel) (by decide +kernel)
set_option maxRecDepth 20000 in
theorem gX5_append_X5_in : GoodIn wsX5_append (va_wsS RX5 54 yX5_in wsX5_in) := goodIn_app (goodIn_of _ (by decide +kernel)) ggX5_append_X5_in
set_option maxRecDepth 20000 in
theorem ggX5_append_X5_refused : GoodIn wsX5_append wsX5_refused := goodIn_r _ [11, 12, 13, 14, 15, 16, 17, 18, 19, 20, 21, 22, 23, 24, 25, 26, 27] (by decide +kernel) (by decide +kernel)
set_option maxRecDepth 20000 in
theorem gX5_append_X5_refused : GoodIn wsX5_append (wsV RX5 97 RX5 yX5_refused wsX5_refused) := goodIn_app (goodIn_of _ (by decide +kernel)) ggX5_append_X5_refused
theorem dX5_append_0 : decode cX5_append 0 = .ok (.aload_n 0, 1) := by decide +kernel
theorem dX5_append_1 : decode cX5_append 1 = .ok (.iload_n 1, 1) := by decide +kernel
theorem dX5_append_2 : decode cX5_append 2 = .ok (.i2l, 1) := by decide +kernel
theorem dX5_append_3 : decode cX5_append 3 = .ok (.lconst 0, 1) := by decide +kernel
theorem dX5_append_4 : decode cX5_append 4 = .ok (.ldc2_w 92, 3) := by decide +kernel
theorem dX5_append_7 : decode cX5_append 7 = .ok (.invokestatic 54, 3) := by decide +kernel
theorem dX5_append_10 : decode cX5_append 10 = .ok (.ifCond .ne 7, 3) := by decide +kernel
theorem dX5_append_13 : decode cX5_append 13 = .ok (.iconst 1, 1) := by decide +kernel
theorem dX5_append_14 : decode cX5_append 14 = .ok (.goto 17, 3) := by decide +kernel
theorem dX5_append_17 : decode cX5_append 17 = .ok (.aload_n 0, 1) := by decide +kernel
theorem dX5_append_18 : decode cX5_append 18 = .ok (.getfield 94, 3) := by decide +kernel
theorem dX5_append_21 : decode cX5_append 21 = .ok (.bipush 60, 2) := by decide +kernel
theorem dX5_append_23 : decode cX5_append 23 = .ok (.if_icmp .ne 7, 3) := by decide +kernel
theorem dX5_append_26 : decode cX5_append 26 = .ok (.iconst 2, 1) := by decide +kernel
theorem dX5_append_27 : decode cX5_append 27 = .ok (.goto 4, 3) := by decide +kernel
theorem dX5_append_30 : decode cX5_append 30 = .ok (.iconst 0, 1) := by decide +kernel
theorem dX5_append_31 : decode cX5_append 31 = .ok (.invokevirtual 97, 3) := by decide +kernel
theorem dX5_append_34 : decode cX5_append 34 = .ok (.ifCond .eq 5, 3) := by decide +kernel
theorem dX5_append_37 : decode cX5_append 37 = .ok (.iconst 0, 1) := by decide +kernel
theorem dX5_append_38 : decode cX5_append 38 = .ok (.ireturn, 1) := by decide +kernel
theorem dX5_append_39 : decode cX5_append 39 = .ok (.aload_n 0, 1) := by decide +kernel
theorem dX5_append_40 : decode cX5_append 40 = .ok (.getfield 7, 3) := by decide +kernel
theorem dX5_append_43 : decode cX5_append 43 = .ok (.aload_n 0, 1) := by decide +kernel
theorem dX5_append_44 : decode cX5_append 44 = .ok (.getfield 94, 3) := by decide +kernel
theorem dX5_append_47 : decode cX5_append 47 = .ok (.iload_n 1, 1) := by decide +kernel
theorem dX5_append_48 : decode cX5_append 48 = .ok (.iastore, 1) := by decide +kernel
theorem dX5_append_49 : decode cX5_append 49 = .ok (.aload_n 0, 1) := by decide +kernel
theorem dX5_append_50 : decode cX5_append 50 = .ok (.dup, 1) := by decide +kernel
theorem dX5_append_51 : decode cX5_append 51 = .ok (.getfield 94, 3) := by decide +kernel
theorem dX5_append_54 : decode cX5_append 54 = .ok (.iconst 1, 1) := by decide +kernel
theorem dX5_append_55 : decode cX5_append 55 = .ok (.iadd, 1) := by decide +kernel
theorem dX5_append_56 : decode cX5_append 56 = .ok (.putfield 94, 3) := by decide +kernel
theorem dX5_append_59 : decode cX5_append 59 = .ok (.aload_n 0, 1) := by decide +kernel
theorem dX5_append_60 : decode cX5_append 60 = .ok (.getfield 94, 3) := by decide +kernel
theorem dX5_append_63 : decode cX5_append 63 = .ok (.ireturn, 1) := by decide +kernel
theorem dX5_clearText_0 : decode cX5_clearText 0 = .ok (.aload_n 0, 1) := by decide +kernel
theorem dX5_clearText_1 : decode cX5_clearText 1 = .ok (.iconst 0, 1) := by decide +kernel
theorem dX5_clearText_2 : decode cX5_clearText 2 = .ok (.putfield 42, 3) := by decide +kernel
theorem dX5_clearText_5 : decode cX5_clearText 5 = .ok (.aload_n 0, 1) := by decide +kernel
theorem dX5_clearText_6 : decode cX5_clearText 6 = .ok (.getfield 94, 3) := by decide +kernel
theorem dX5_clearText_9 : decode cX5_clearText 9 = .ok (.istore_n 1, 1) := by decide +kernel
theorem dX5_clearText_10 : decode cX5_clearText 10 = .ok (.aload_n 0, 1) := by decide +kernel
theorem dX5_clearText_11 : decode cX5_clearText 11 = .ok (.iconst 0, 1) := by decide +kernel
theorem dX5_clearText_12 : decode cX5_clearText 12 = .ok (.putfield 94, 3) := by decide +kernel
theorem dX5_clearText_15 : decode cX5_clearText 15 = .ok (.iload_n 1, 1) := by decide +kernel
theorem dX5_clearText_16 : decode cX5_clearText 16 = .ok (.ireturn, 1) := by decide +kernel
set_option maxRecDepth 20000 in
theorem ggX5_digit_X5_in : GoodIn wsX5_digit wsX5_in := goodIn_r _ [7] (by decide +kernel) (by decide +kernel)
set_option maxRecDepth 20000 in
theorem gX5_digit_X5_in : GoodIn wsX5_digit (va_wsS RX5 54 yX5_in wsX5_in) := goodIn_app (goodIn_of _ (by decide +kernel)) ggX5_digit_X5_in
theorem dX5_digit_0 : decode cX5_digit 0 = .ok (.aload_n 0, 1) := by decide +kernel
theorem dX5_digit_1 : decode cX5_digit 1 = .ok (.getfield 101, 3) := by decide +kernel
theorem dX5_digit_4 : decode cX5_digit 4 = .ok (.aload_n 0, 1) := by decide +kernel
theorem dX5_digit_5 : decode cX5_digit 5 = .ok (.getfield 94, 3) := by decide +kernel
theorem dX5_digit_8 : decode cX5_digit 8 = .ok (.if_icmp .ge 18, 3) := by decide +kernel
theorem dX5_digit_11 : decode cX5_digit 11 = .ok (.aload_n 0, 1) := by decide +kernel
theorem dX5_digit_12 : decode cX5_digit 12 = .ok (.getfield 7, 3) := by decide +kernel
theorem dX5_digit_15 : decode cX5_digit 15 = .ok (.aload_n 0, 1) := by decide +kernel
theorem dX5_digit_16 : decode cX5_digit 16 = .ok (.getfield 101, 3) := by decide +kernel
theorem dX5_digit_19 : decode cX5_digit 19 = .ok (.iaload, 1) := by decide +kernel
theorem dX5_digit_20 : decode cX5_digit 20 = .ok (.bipush 48, 2) := by decide +kernel
theorem dX5_digit_22 : decode cX5_digit 22 = .ok (.isub, 1) := by decide +kernel
theorem dX5_digit_23 : decode cX5_digit 23 = .ok (.goto 5, 3) := by decide +kernel
theorem dX5_digit_26 : decode cX5_digit 26 = .ok (.bipush (-9), 2) := by decide +kernel
theorem dX5_digit_28 : decode cX5_digit 28 = .ok (.istore_n 3, 1) := by decide +kernel
theorem dX5_digit_29 : decode cX5_digit 29 = .ok (.iload_n 3, 1) := by decide +kernel
theorem dX5_digit_30 : decode cX5_digit 30 = .ok (.i2l, 1) := by decide +kernel
theorem dX5_digit_31 : decode cX5_digit 31 = .ok (.iload_n 1, 1) := by decide +kernel
theorem dX5_digit_32 : decode cX5_digit 32 = .ok (.i2l, 1) := by decide +kernel
theorem dX5_digit_33 : decode cX5_digit 33 = .ok (.iload_n 2, 1) := by decide +kernel
theorem dX5_digit_34 : decode cX5_digit 34 = .ok (.i2l, 1) := by decide +kernel
theorem dX5_digit_35 : decode cX5_digit 35 = .ok (.invokestatic 54, 3) := by decide +kernel
theorem dX5_digit_38 : decode cX5_digit 38 = .ok (.ifCond .ne 6, 3) := by decide +kernel
theorem dX5_digit_41 : decode cX5_digit 41 = .ok (.bipush (-9), 2) := by decide +kernel
theorem dX5_digit_43 : decode cX5_digit 43 = .ok (.ireturn, 1) := by decide +kernel
theorem dX5_digit_44 : decode cX5_digit 44 = .ok (.aload_n 0, 1) := by decide +kernel
theorem dX5_digit_45 : decode cX5_digit 45 = .ok (.dup, 1) := by decide +kernel
theorem dX5_digit_46 : decode cX5_digit 46 = .ok (.getfield 101, 3) := by decide +kernel
theorem dX5_digit_49 : decode cX5_digit 49 = .ok (.iconst 1, 1) := by decide +kernel
theorem dX5_digit_50 : decode cX5_digit 50 = .ok (.iadd, 1) := by decide +kernel
theorem dX5_digit_51 : decode cX5_digit 51 = .ok (.putfield 101, 3) := by decide +kernel
theorem dX5_digit_54 : decode cX5_digit 54 = .ok (.iload_n 3, 1) := by decide +kernel
theorem dX5_digit_55 : decode cX5_digit 55 = .ok (.ireturn, 1) := by decide +kernel
set_option maxRecDepth 20000 in
theorem ggX5_two_X5_digit : GoodIn wsX5_two wsX5_digit := goodIn_r _ [5, 6, 7, 8, 9, 10, 4, 11, 12, 13, 14, 15, 16, 17, 18, 19, 20, 21, 22, 23, 24, 25, 26] (by decide +kernel) (by decide +kernel)
set_option maxRecDepth 20000 in
theorem gX5_two_X5_digit : GoodIn wsX5_two (wsV RX5 104 RX5 yX5_digit wsX5_digit) := goodIn_app (goodIn_of _ (by decide +kernel)) ggX5_two_X5_digit
theorem dX5_two_0 : decode cX5_two 0 = .ok (.aload_n 0, 1) := by decide +kernel
theorem dX5_two_1 : decode cX5_two 1 = .ok (.iload_n 1, 1) := by decide +kernel
theorem dX5_two_2 : decode cX5_two 2 = .ok (.bipush 10, 2) := by decide +kernel
theorem dX5_two_4 : decode cX5_two 4 = .ok (.idiv, 1) := by decide +kernel
theorem dX5_two_5 : decode cX5_two 5 = .ok (.iload_n 2, 1) := by decide +kernel
theorem dX5_two_6 : decode cX5_two 6 = .ok (.bipush 10, 2) := by decide +kernel
theorem dX5_two_8 : decode cX5_two 8 = .ok (.idiv, 1) := by decide +kernel
theorem dX5_two_9 : decode cX5_two 9 = .ok (.invokevirtual 104, 3) := by decide +kernel
theorem dX5_two_12 : decode cX5_two 12 = .ok (.istore_n 3, 1) := by decide +kernel
theorem dX5_two_13 : decode cX5_two 13 = .ok (.iload_n 3, 1) := by decide +kernel
theorem dX5_two_14 : decode cX5_two 14 = .ok (.bipush (-9), 2) := by decide +kernel
theorem dX5_two_16 : decode cX5_two 16 = .ok (.if_icmp .ne 8, 3) := by decide +kernel
theorem dX5_two_19 : decode cX5_two 19 = .ok (.bipush (-9), 2) := by decide +kernel
theorem dX5_two_21 : decode cX5_two 21 = .ok (.goto 40, 3) := by decide +kernel
theorem dX5_two_24 : decode cX5_two 24 = .ok (.aload_n 0, 1) := by decide +kernel
theorem dX5_two_25 : decode cX5_two 25 = .ok (.iload_n 3, 1) := by decide +kernel
theorem dX5_two_26 : decode cX5_two 26 = .ok (.iload_n 1, 1) := by decide +kernel
theorem dX5_two_27 : decode cX5_two 27 = .ok (.bipush 10, 2) := by decide +kernel
theorem dX5_two_29 : decode cX5_two 29 = .ok (.idiv, 1) := by decide +kernel
theorem dX5_two_30 : decode cX5_two 30 = .ok (.if_icmp .ne 10, 3) := by decide +kernel
theorem dX5_two_33 : decode cX5_two 33 = .ok (.iload_n 1, 1) := by decide +kernel
theorem dX5_two_34 : decode cX5_two 34 = .ok (.bipush 10, 2) := by decide +kernel
theorem dX5_two_36 : decode cX5_two 36 = .ok (.irem, 1) := by decide +kernel
theorem dX5_two_37 : decode cX5_two 37 = .ok (.goto 4, 3) := by decide +kernel
theorem dX5_two_40 : decode cX5_two 40 = .ok (.iconst 0, 1) := by decide +kernel
theorem dX5_two_41 : decode cX5_two 41 = .ok (.iload_n 3, 1) := by decide +kernel
theorem dX5_two_42 : decode cX5_two 42 = .ok (.iload_n 2, 1) := by decide +kernel
theorem dX5_two_43 : decode cX5_two 43 = .ok (.bipush 10, 2) := by decide +kernel
theorem dX5_two_45 : decode cX5_two 45 = .ok (.idiv, 1) := by decide +kernel
theorem dX5_two_46 : decode cX5_two 46 = .ok (.if_icmp .ne 10, 3) := by decide +kernel
theorem dX5_two_49 : decode cX5_two 49 = .ok (.iload_n 2, 1) := by decide +kernel
theorem dX5_two_50 : decode cX5_two 50 = .ok (.bipush 10, 2) := by decide +kernel
theorem dX5_two_52 : decode cX5_two 52 = .ok (.irem, 1) := by decide +kernel
theorem dX5_two_53 : decode cX5_two 53 = .ok (.goto 5, 3) := by decide +kernel
theorem dX5_two_56 : decode cX5_two 56 = .ok (.bipush 9, 2) := by decide +kernel
theorem dX5_two_58 : decode cX5_two 58 = .ok (.invokevirtual 104, 3) := by decide +kernel
theorem dX5_two_61 : decode cX5_two 61 = .ok (.istore 4, 2) := by decide +kernel
theorem dX5_two_63 : decode cX5_two 63 = .ok (.iload 4, 2) := by decide +kernel
theorem dX5_two_65 : decode cX5_two 65 = .ok (.bipush (-9), 2) := by decide +kernel
theorem dX5_two_67 : decode cX5_two 67 = .ok (.if_icmp .ne 8, 3) := by decide +kernel
theorem dX5_two_70 : decode cX5_two 70 = .ok (.bipush (-9), 2) := by decide +kernel
theorem dX5_two_72 : decode cX5_two 72 = .ok (.goto 10, 3) := by decide +kernel
theorem dX5_two_75 : decode cX5_two 75 = .ok (.bipush 10, 2) := by decide +kernel
theorem dX5_two_77 : decode cX5_two 77 = .ok (.iload_n 3, 1) := by decide +kernel
theorem dX5_two_78 : decode cX5_two 78 = .ok (.imul, 1) := by decide +kernel
theorem dX5_two_79 : decode cX5_two 79 = .ok (.iload 4, 2) := by decide +kernel
theorem dX5_two_81 : decode cX5_two 81 = .ok (.iadd, 1) := by decide +kernel
theorem dX5_two_82 : decode cX5_two 82 = .ok (.ireturn, 1) := by decide +kernel
set_option maxRecDepth 20000 in
theorem ggX5_mayHang_X5_in : GoodIn wsX5_mayHang wsX5_in := goodIn_r _ [6] (by decide +kernel) (by decide +kernel)
set_option maxRecDepth 20000 in
theorem gX5_mayHang_X5_in : GoodIn wsX5_mayHang (va_wsS RX5 54 yX5_in wsX5_in) := goodIn_app (goodIn_of _ (by decide +kernel)) ggX5_mayHang_X5_in
set_option maxRecDepth 20000 in
theorem ggX5_mayHang_X5_gripAt : GoodIn wsX5_mayHang wsX5_gripAt := goodIn_r _ [9] (by decide +kernel) (by decide +kernel)
set_option maxRecDepth 20000 in
theorem gX5_mayHang_X5_gripAt : GoodIn wsX5_mayHang (va_wsS RX5 60 yX5_gripAt wsX5_gripAt) := goodIn_app (goodIn_of _ (by decide +kernel)) ggX5_mayHang_X5_gripAt
theorem dX5_mayHang_0 : decode cX5_mayHang 0 = .ok (.iload_n 1, 1) := by decide +kernel
theorem dX5_mayHang_1 : decode cX5_mayHang 1 = .ok (.i2l, 1) := by decide +kernel
theorem dX5_mayHang_2 : decode cX5_mayHang 2 = .ok (.lconst 0, 1) := by decide +kernel
theorem dX5_mayHang_3 : decode cX5_mayHang 3 = .ok (.aload_n 0, 1) := by decide +kernel
theorem dX5_mayHang_4 : decode cX5_mayHang 4 = .ok (.getfield 107, 3) := by decide +kernel
theorem dX5_mayHang_7 : decode cX5_mayHang 7 = .ok (.iconst 1, 1) := by decide +kernel
theorem dX5_mayHang_8 : decode cX5_mayHang 8 = .ok (.isub, 1) := by decide +kernel
theorem dX5_mayHang_9 : decode cX5_mayHang 9 = .ok (.i2l, 1) := by decide +kernel
theorem dX5_mayHang_10 : decode cX5_mayHang 10 = .ok (.invokestatic 54, 3) := by decide +kernel
theorem dX5_mayHang_13 : decode cX5_mayHang 13 = .ok (.ifCond .eq 20, 3) := by decide +kernel
theorem dX5_mayHang_16 : decode cX5_mayHang 16 = .ok (.aload_n 0, 1) := by decide +kernel
theorem dX5_mayHang_17 : decode cX5_mayHang 17 = .ok (.getfield 13, 3) := by decide +kernel
theorem dX5_mayHang_20 : decode cX5_mayHang 20 = .ok (.iload_n 1, 1) := by decide +kernel
theorem dX5_mayHang_21 : decode cX5_mayHang 21 = .ok (.invokestatic 60, 3) := by decide +kernel
theorem dX5_mayHang_24 : decode cX5_mayHang 24 = .ok (.bipush (-9), 2) := by decide +kernel
theorem dX5_mayHang_26 : decode cX5_mayHang 26 = .ok (.if_icmp .ne 7, 3) := by decide +kernel
theorem dX5_mayHang_29 : decode cX5_mayHang 29 = .ok (.iconst 1, 1) := by decide +kernel
theorem dX5_mayHang_30 : decode cX5_mayHang 30 = .ok (.goto 4, 3) := by decide +kernel
theorem dX5_mayHang_33 : decode cX5_mayHang 33 = .ok (.iconst 0, 1) := by decide +kernel
theorem dX5_mayHang_34 : decode cX5_mayHang 34 = .ok (.ireturn, 1) := by decide +kernel
set_option maxRecDepth 20000 in
theorem ggX5_readSlot_X5_in : GoodIn wsX5_readSlot wsX5_in := goodIn_r _ [8] (by decide +kernel) (by decide +kernel)
set_option maxRecDepth 20000 in
theorem gX5_readSlot_X5_in : GoodIn wsX5_readSlot (va_wsS RX5 54 yX5_in wsX5_in) := goodIn_app (goodIn_of _ (by decide +kernel)) ggX5_readSlot_X5_in
set_option maxRecDepth 20000 in
theorem ggX5_readSlot_X5_mayHang : GoodIn wsX5_readSlot wsX5_mayHang := goodIn_r _ [12, 13, 14, 5, 6, 7, 8, 15, 16, 17, 18, 19, 20, 21, 22, 23, 24, 25, 26, 27, 28, 29, 30, 31, 32] (by decide +kernel) (by decide +kernel)
set_option maxRecDepth 20000 in
theorem gX5_readSlot_X5_mayHang : GoodIn wsX5_readSlot (wsV RX5 112 RX5 yX5_mayHang wsX5_mayHang) := goodIn_app (goodIn_of _ (by decide +kernel)) ggX5_readSlot_X5_mayHang
theorem dX5_readSlot_0 : decode cX5_readSlot 0 = .ok (.aload_n 0, 1) := by decide +kernel
theorem dX5_readSlot_1 : decode cX5_readSlot 1 = .ok (.getfield 101, 3) := by decide +kernel
theorem dX5_readSlot_4 : decode cX5_readSlot 4 = .ok (.aload_n 0, 1) := by decide +kernel
theorem dX5_readSlot_5 : decode cX5_readSlot 5 = .ok (.getfield 94, 3) := by decide +kernel
theorem dX5_readSlot_8 : decode cX5_readSlot 8 = .ok (.if_icmp .ge 18, 3) := by decide +kernel
theorem dX5_readSlot_11 : decode cX5_readSlot 11 = .ok (.aload_n 0, 1) := by decide +kernel
theorem dX5_readSlot_12 : decode cX5_readSlot 12 = .ok (.getfield 7, 3) := by decide +kernel
theorem dX5_readSlot_15 : decode cX5_readSlot 15 = .ok (.aload_n 0, 1) := by decide +kernel
theorem dX5_readSlot_16 : decode cX5_readSlot 16 = .ok (.getfield 101, 3) := by decide +kernel
theorem dX5_readSlot_19 : decode cX5_readSlot 19 = .ok (.iaload, 1) := by decide +kernel
theorem dX5_readSlot_20 : decode cX5_readSlot 20 = .ok (.bipush 48, 2) := by decide +kernel
theorem dX5_readSlot_22 : decode cX5_readSlot 22 = .ok (.isub, 1) := by decide +kernel
theorem dX5_readSlot_23 : decode cX5_readSlot 23 = .ok (.goto 5, 3) := by decide +kernel
theorem dX5_readSlot_26 : decode cX5_readSlot 26 = .ok (.bipush (-9), 2) := by decide +kernel
theorem dX5_readSlot_28 : decode cX5_readSlot 28 = .ok (.istore_n 1, 1) := by decide +kernel
theorem dX5_readSlot_29 : decode cX5_readSlot 29 = .ok (.iconst 0, 1) := by decide +kernel
theorem dX5_readSlot_30 : decode cX5_readSlot 30 = .ok (.istore_n 2, 1) := by decide +kernel
theorem dX5_readSlot_31 : decode cX5_readSlot 31 = .ok (.iconst 0, 1) := by decide +kernel
theorem dX5_readSlot_32 : decode cX5_readSlot 32 = .ok (.istore_n 3, 1) := by decide +kernel
theorem dX5_readSlot_33 : decode cX5_readSlot 33 = .ok (.iload_n 3, 1) := by decide +kernel
theorem dX5_readSlot_34 : decode cX5_readSlot 34 = .ok (.bipush 10, 2) := by decide +kernel
theorem dX5_readSlot_36 : decode cX5_readSlot 36 = .ok (.if_icmp .ge 44, 3) := by decide +kernel
theorem dX5_readSlot_39 : decode cX5_readSlot 39 = .ok (.iload_n 1, 1) := by decide +kernel
theorem dX5_readSlot_40 : decode cX5_readSlot 40 = .ok (.i2l, 1) := by decide +kernel
theorem dX5_readSlot_41 : decode cX5_readSlot 41 = .ok (.lconst 0, 1) := by decide +kernel
theorem dX5_readSlot_42 : decode cX5_readSlot 42 = .ok (.ldc2_w 110, 3) := by decide +kernel
theorem dX5_readSlot_45 : decode cX5_readSlot 45 = .ok (.invokestatic 54, 3) := by decide +kernel
theorem dX5_readSlot_48 : decode cX5_readSlot 48 = .ok (.ifCond .eq 32, 3) := by decide +kernel
theorem dX5_readSlot_51 : decode cX5_readSlot 51 = .ok (.iload_n 2, 1) := by decide +kernel
theorem dX5_readSlot_52 : decode cX5_readSlot 52 = .ok (.ifCond .ne 16, 3) := by decide +kernel
theorem dX5_readSlot_55 : decode cX5_readSlot 55 = .ok (.aload_n 0, 1) := by decide +kernel
theorem dX5_readSlot_56 : decode cX5_readSlot 56 = .ok (.bipush 10, 2) := by decide +kernel
theorem dX5_readSlot_58 : decode cX5_readSlot 58 = .ok (.iload_n 1, 1) := by decide +kernel
theorem dX5_readSlot_59 : decode cX5_readSlot 59 = .ok (.imul, 1) := by decide +kernel
theorem dX5_readSlot_60 : decode cX5_readSlot 60 = .ok (.iload_n 3, 1) := by decide +kernel
theorem dX5_readSlot_61 : decode cX5_readSlot 61 = .ok (.iadd, 1) := by decide +kernel
theorem dX5_readSlot_62 : decode cX5_readSlot 62 = .ok (.invokevirtual 112, 3) := by decide +kernel
theorem dX5_readSlot_65 : decode cX5_readSlot 65 = .ok (.ifCond .eq 7, 3) := by decide +kernel
theorem dX5_readSlot_68 : decode cX5_readSlot 68 = .ok (.iconst 1, 1) := by decide +kernel
theorem dX5_readSlot_69 : decode cX5_readSlot 69 = .ok (.goto 4, 3) := by decide +kernel
theorem dX5_readSlot_72 : decode cX5_readSlot 72 = .ok (.iconst 0, 1) := by decide +kernel
theorem dX5_readSlot_73 : decode cX5_readSlot 73 = .ok (.istore_n 2, 1) := by decide +kernel
theorem dX5_readSlot_74 : decode cX5_readSlot 74 = .ok (.iinc 3 1, 3) := by decide +kernel
theorem dX5_readSlot_77 : decode cX5_readSlot 77 = .ok (.goto (-44), 3) := by decide +kernel
theorem dX5_readSlot_80 : decode cX5_readSlot 80 = .ok (.iload_n 2, 1) := by decide +kernel
theorem dX5_readSlot_81 : decode cX5_readSlot 81 = .ok (.ifCond .ne 6, 3) := by decide +kernel
theorem dX5_readSlot_84 : decode cX5_readSlot 84 = .ok (.bipush (-9), 2) := by decide +kernel
theorem dX5_readSlot_86 : decode cX5_readSlot 86 = .ok (.ireturn, 1) := by decide +kernel
theorem dX5_readSlot_87 : decode cX5_readSlot 87 = .ok (.aload_n 0, 1) := by decide +kernel
theorem dX5_readSlot_88 : decode cX5_readSlot 88 = .ok (.dup, 1) := by decide +kernel
theorem dX5_readSlot_89 : decode cX5_readSlot 89 = .ok (.getfield 101, 3) := by decide +kernel
theorem dX5_readSlot_92 : decode cX5_readSlot 92 = .ok (.iconst 1, 1) := by decide +kernel
theorem dX5_readSlot_93 : decode cX5_readSlot 93 = .ok (.iadd, 1) := by decide +kernel
theorem dX5_readSlot_94 : decode cX5_readSlot 94 = .ok (.putfield 101, 3) := by decide +kernel
theorem dX5_readSlot_97 : decode cX5_readSlot 97 = .ok (.aload_n 0, 1) := by decide +kernel
theorem dX5_readSlot_98 : decode cX5_readSlot 98 = .ok (.getfield 101, 3) := by decide +kernel
theorem dX5_readSlot_101 : decode cX5_readSlot 101 = .ok (.aload_n 0, 1) := by decide +kernel
theorem dX5_readSlot_102 : decode cX5_readSlot 102 = .ok (.getfield 94, 3) := by decide +kernel
theorem dX5_readSlot_105 : decode cX5_readSlot 105 = .ok (.if_icmp .ge 18, 3) := by decide +kernel
theorem dX5_readSlot_108 : decode cX5_readSlot 108 = .ok (.aload_n 0, 1) := by decide +kernel
theorem dX5_readSlot_109 : decode cX5_readSlot 109 = .ok (.getfield 7, 3) := by decide +kernel
theorem dX5_readSlot_112 : decode cX5_readSlot 112 = .ok (.aload_n 0, 1) := by decide +kernel
theorem dX5_readSlot_113 : decode cX5_readSlot 113 = .ok (.getfield 101, 3) := by decide +kernel
theorem dX5_readSlot_116 : decode cX5_readSlot 116 = .ok (.iaload, 1) := by decide +kernel
theorem dX5_readSlot_117 : decode cX5_readSlot 117 = .ok (.bipush 48, 2) := by decide +kernel
theorem dX5_readSlot_119 : decode cX5_readSlot 119 = .ok (.isub, 1) := by decide +kernel
theorem dX5_readSlot_120 : decode cX5_readSlot 120 = .ok (.goto 5, 3) := by decide +kernel
theorem dX5_readSlot_123 : decode cX5_readSlot 123 = .ok (.bipush (-9), 2) := by decide +kernel
theorem dX5_readSlot_125 : decode cX5_readSlot 125 = .ok (.istore_n 3, 1) := by decide +kernel
theorem dX5_readSlot_126 : decode cX5_readSlot 126 = .ok (.iload_n 3, 1) := by decide +kernel
theorem dX5_readSlot_127 : decode cX5_readSlot 127 = .ok (.i2l, 1) := by decide +kernel
theorem dX5_readSlot_128 : decode cX5_readSlot 128 = .ok (.lconst 0, 1) := by decide +kernel
theorem dX5_readSlot_129 : decode cX5_readSlot 129 = .ok (.ldc2_w 110, 3) := by decide +kernel
theorem dX5_readSlot_132 : decode cX5_readSlot 132 = .ok (.invokestatic 54, 3) := by decide +kernel
theorem dX5_readSlot_135 : decode cX5_readSlot 135 = .ok (.ifCond .eq 16, 3) := by decide +kernel
theorem dX5_readSlot_138 : decode cX5_readSlot 138 = .ok (.aload_n 0, 1) := by decide +kernel
theorem dX5_readSlot_139 : decode cX5_readSlot 139 = .ok (.bipush 10, 2) := by decide +kernel
theorem dX5_readSlot_141 : decode cX5_readSlot 141 = .ok (.iload_n 1, 1) := by decide +kernel
theorem dX5_readSlot_142 : decode cX5_readSlot 142 = .ok (.imul, 1) := by decide +kernel
theorem dX5_readSlot_143 : decode cX5_readSlot 143 = .ok (.iload_n 3, 1) := by decide +kernel
theorem dX5_readSlot_144 : decode cX5_readSlot 144 = .ok (.iadd, 1) := by decide +kernel
theorem dX5_readSlot_145 : decode cX5_readSlot 145 = .ok (.invokevirtual 112, 3) := by decide +kernel
theorem dX5_readSlot_148 : decode cX5_readSlot 148 = .ok (.ifCond .ne 6, 3) := by decide +kernel
theorem dX5_readSlot_151 : decode cX5_readSlot 151 = .ok (.bipush (-9), 2) := by decide +kernel
theorem dX5_readSlot_153 : decode cX5_readSlot 153 = .ok (.ireturn, 1) := by decide +kernel
theorem dX5_readSlot_154 : decode cX5_readSlot 154 = .ok (.aload_n 0, 1) := by decide +kernel
theorem dX5_readSlot_155 : decode cX5_readSlot 155 = .ok (.dup, 1) := by decide +kernel
theorem dX5_readSlot_156 : decode cX5_readSlot 156 = .ok (.getfield 101, 3) := by decide +kernel
theorem dX5_readSlot_159 : decode cX5_readSlot 159 = .ok (.iconst 1, 1) := by decide +kernel
theorem dX5_readSlot_160 : decode cX5_readSlot 160 = .ok (.iadd, 1) := by decide +kernel
theorem dX5_readSlot_161 : decode cX5_readSlot 161 = .ok (.putfield 101, 3) := by decide +kernel
theorem dX5_readSlot_164 : decode cX5_readSlot 164 = .ok (.bipush 10, 2) := by decide +kernel
theorem dX5_readSlot_166 : decode cX5_readSlot 166 = .ok (.iload_n 1, 1) := by decide +kernel
theorem dX5_readSlot_167 : decode cX5_readSlot 167 = .ok (.imul, 1) := by decide +kernel
theorem dX5_readSlot_168 : decode cX5_readSlot 168 = .ok (.iload_n 3, 1) := by decide +kernel
theorem dX5_readSlot_169 : decode cX5_readSlot 169 = .ok (.iadd, 1) := by decide +kernel
theorem dX5_readSlot_170 : decode cX5_readSlot 170 = .ok (.ireturn, 1) := by decide +kernel
set_option maxRecDepth 20000 in
theorem ggX5_readItem_X5_count : GoodIn wsX5_readItem wsX5_count := goodIn_r _ [8] (by decide +kernel) (by decide +kernel)
set_option maxRecDepth 20000 in
theorem gX5_readItem_X5_count : GoodIn wsX5_readItem (va_wsS RX5 115 yX5_count wsX5_count) := goodIn_app (goodIn_of _ (by decide +kernel)) ggX5_readItem_X5_count
set_option maxRecDepth 20000 in
theorem ggX5_readItem_X5_digit : GoodIn wsX5_readItem wsX5_digit := goodIn_r _ [12, 2, 13, 1, 14, 15, 7, 16, 32, 33, 34, 35, 36, 37, 38, 39, 40, 41, 42, 43, 44, 45, 46] (by decide +kernel) (by decide +kernel)
set_option maxRecDepth 20000 in
theorem gX5_readItem_X5_digit : GoodIn wsX5_readItem (wsV RX5 104 RX5 yX5_digit wsX5_digit) := goodIn_app (goodIn_of _ (by decide +kernel)) ggX5_readItem_X5_digit
set_option maxRecDepth 20000 in
theorem ggX5_readItem_X5_readSlot : GoodIn wsX5_readItem wsX5_readSlot := goodIn_r _ [20, 2, 13, 1, 21, 14, 15, 7, 16, 22, 23, 24, 25, 4, 3, 26, 27, 28, 32, 33, 34, 35, 36, 37, 38, 39, 40, 41, 42, 43, 44, 45, 46] (by decide +kernel) (by decide +kernel)
set_option maxRecDepth 20000 in
theorem gX5_readItem_X5_readSlot : GoodIn wsX5_readItem (wsV RX5 118 RX5 yX5_readSlot wsX5_readSlot) := goodIn_app (goodIn_of _ (by decide +kernel)) ggX5_readItem_X5_readSlot
set_option maxRecDepth 20000 in
theorem ggX5_readItem_X5_addOn : GoodIn wsX5_readItem wsX5_addOn := goodIn_r _ [31] (by decide +kernel) (by decide +kernel)
set_option maxRecDepth 20000 in
theorem gX5_readItem_X5_addOn : GoodIn wsX5_readItem (va_wsS RX5 122 yX5_addOn wsX5_addOn) := goodIn_app (goodIn_of _ (by decide +kernel)) ggX5_readItem_X5_addOn
theorem dX5_readItem_0 : decode cX5_readItem 0 = .ok (.aload_n 0, 1) := by decide +kernel
theorem dX5_readItem_1 : decode cX5_readItem 1 = .ok (.getfield 7, 3) := by decide +kernel
theorem dX5_readItem_4 : decode cX5_readItem 4 = .ok (.aload_n 0, 1) := by decide +kernel
theorem dX5_readItem_5 : decode cX5_readItem 5 = .ok (.getfield 101, 3) := by decide +kernel
theorem dX5_readItem_8 : decode cX5_readItem 8 = .ok (.iaload, 1) := by decide +kernel
theorem dX5_readItem_9 : decode cX5_readItem 9 = .ok (.istore_n 1, 1) := by decide +kernel
theorem dX5_readItem_10 : decode cX5_readItem 10 = .ok (.iload_n 1, 1) := by decide +kernel
theorem dX5_readItem_11 : decode cX5_readItem 11 = .ok (.bipush 103, 2) := by decide +kernel
theorem dX5_readItem_13 : decode cX5_readItem 13 = .ok (.if_icmp .ne 22, 3) := by decide +kernel
theorem dX5_readItem_16 : decode cX5_readItem 16 = .ok (.aload_n 0, 1) := by decide +kernel
theorem dX5_readItem_17 : decode cX5_readItem 17 = .ok (.getfield 13, 3) := by decide +kernel
theorem dX5_readItem_20 : decode cX5_readItem 20 = .ok (.iconst 0, 1) := by decide +kernel
theorem dX5_readItem_21 : decode cX5_readItem 21 = .ok (.invokestatic 115, 3) := by decide +kernel
theorem dX5_readItem_24 : decode cX5_readItem 24 = .ok (.aload_n 0, 1) := by decide +kernel
theorem dX5_readItem_25 : decode cX5_readItem 25 = .ok (.getfield 107, 3) := by decide +kernel
theorem dX5_readItem_28 : decode cX5_readItem 28 = .ok (.if_icmp .ge 7, 3) := by decide +kernel
theorem dX5_readItem_31 : decode cX5_readItem 31 = .ok (.iconst 1, 1) := by decide +kernel
theorem dX5_readItem_32 : decode cX5_readItem 32 = .ok (.goto 4, 3) := by decide +kernel
theorem dX5_readItem_35 : decode cX5_readItem 35 = .ok (.iconst 0, 1) := by decide +kernel
theorem dX5_readItem_36 : decode cX5_readItem 36 = .ok (.istore_n 2, 1) := by decide +kernel
theorem dX5_readItem_37 : decode cX5_readItem 37 = .ok (.aload_n 0, 1) := by decide +kernel
theorem dX5_readItem_38 : decode cX5_readItem 38 = .ok (.getfield 13, 3) := by decide +kernel
theorem dX5_readItem_41 : decode cX5_readItem 41 = .ok (.bipush 96, 2) := by decide +kernel
theorem dX5_readItem_43 : decode cX5_readItem 43 = .ok (.iaload, 1) := by decide +kernel
theorem dX5_readItem_44 : decode cX5_readItem 44 = .ok (.bipush 12, 2) := by decide +kernel
theorem dX5_readItem_46 : decode cX5_readItem 46 = .ok (.if_icmp .eq 13, 3) := by decide +kernel
theorem dX5_readItem_49 : decode cX5_readItem 49 = .ok (.iload_n 2, 1) := by decide +kernel
theorem dX5_readItem_50 : decode cX5_readItem 50 = .ok (.ifCond .ne 11, 3) := by decide +kernel
theorem dX5_readItem_53 : decode cX5_readItem 53 = .ok (.iload_n 1, 1) := by decide +kernel
theorem dX5_readItem_54 : decode cX5_readItem 54 = .ok (.bipush 104, 2) := by decide +kernel
theorem dX5_readItem_56 : decode cX5_readItem 56 = .ok (.if_icmp .eq 5, 3) := by decide +kernel
theorem dX5_readItem_59 : decode cX5_readItem 59 = .ok (.iconst 0, 1) := by decide +kernel
theorem dX5_readItem_60 : decode cX5_readItem 60 = .ok (.ireturn, 1) := by decide +kernel
theorem dX5_readItem_61 : decode cX5_readItem 61 = .ok (.aload_n 0, 1) := by decide +kernel
theorem dX5_readItem_62 : decode cX5_readItem 62 = .ok (.dup, 1) := by decide +kernel
theorem dX5_readItem_63 : decode cX5_readItem 63 = .ok (.getfield 101, 3) := by decide +kernel
theorem dX5_readItem_66 : decode cX5_readItem 66 = .ok (.iconst 1, 1) := by decide +kernel
theorem dX5_readItem_67 : decode cX5_readItem 67 = .ok (.iadd, 1) := by decide +kernel
theorem dX5_readItem_68 : decode cX5_readItem 68 = .ok (.putfield 101, 3) := by decide +kernel
theorem dX5_readItem_71 : decode cX5_readItem 71 = .ok (.aload_n 0, 1) := by decide +kernel
theorem dX5_readItem_72 : decode cX5_readItem 72 = .ok (.iconst 0, 1) := by decide +kernel
theorem dX5_readItem_73 : decode cX5_readItem 73 = .ok (.iconst 3, 1) := by decide +kernel
theorem dX5_readItem_74 : decode cX5_readItem 74 = .ok (.invokevirtual 104, 3) := by decide +kernel
theorem dX5_readItem_77 : decode cX5_readItem 77 = .ok (.istore_n 3, 1) := by decide +kernel
theorem dX5_readItem_78 : decode cX5_readItem 78 = .ok (.iload_n 3, 1) := by decide +kernel
theorem dX5_readItem_79 : decode cX5_readItem 79 = .ok (.bipush (-9), 2) := by decide +kernel
theorem dX5_readItem_81 : decode cX5_readItem 81 = .ok (.if_icmp .ne 5, 3) := by decide +kernel
theorem dX5_readItem_84 : decode cX5_readItem 84 = .ok (.iconst 0, 1) := by decide +kernel
theorem dX5_readItem_85 : decode cX5_readItem 85 = .ok (.ireturn, 1) := by decide +kernel
theorem dX5_readItem_86 : decode cX5_readItem 86 = .ok (.iload_n 2, 1) := by decide +kernel
theorem dX5_readItem_87 : decode cX5_readItem 87 = .ok (.ifCond .eq 10, 3) := by decide +kernel
theorem dX5_readItem_90 : decode cX5_readItem 90 = .ok (.aload_n 0, 1) := by decide +kernel
theorem dX5_readItem_91 : decode cX5_readItem 91 = .ok (.invokevirtual 118, 3) := by decide +kernel
theorem dX5_readItem_94 : decode cX5_readItem 94 = .ok (.goto 4, 3) := by decide +kernel
theorem dX5_readItem_97 : decode cX5_readItem 97 = .ok (.iconst 0, 1) := by decide +kernel
theorem dX5_readItem_98 : decode cX5_readItem 98 = .ok (.istore 4, 2) := by decide +kernel
theorem dX5_readItem_100 : decode cX5_readItem 100 = .ok (.iload 4, 2) := by decide +kernel
theorem dX5_readItem_102 : decode cX5_readItem 102 = .ok (.bipush (-9), 2) := by decide +kernel
theorem dX5_readItem_104 : decode cX5_readItem 104 = .ok (.if_icmp .ne 5, 3) := by decide +kernel
theorem dX5_readItem_107 : decode cX5_readItem 107 = .ok (.iconst 0, 1) := by decide +kernel
theorem dX5_readItem_108 : decode cX5_readItem 108 = .ok (.ireturn, 1) := by decide +kernel
theorem dX5_readItem_109 : decode cX5_readItem 109 = .ok (.aload_n 0, 1) := by decide +kernel
theorem dX5_readItem_110 : decode cX5_readItem 110 = .ok (.getfield 13, 3) := by decide +kernel
theorem dX5_readItem_113 : decode cX5_readItem 113 = .ok (.iload_n 3, 1) := by decide +kernel
theorem dX5_readItem_114 : decode cX5_readItem 114 = .ok (.iload_n 2, 1) := by decide +kernel
theorem dX5_readItem_115 : decode cX5_readItem 115 = .ok (.ifCond .eq 7, 3) := by decide +kernel
theorem dX5_readItem_118 : decode cX5_readItem 118 = .ok (.iconst 0, 1) := by decide +kernel
theorem dX5_readItem_119 : decode cX5_readItem 119 = .ok (.goto 4, 3) := by decide +kernel
theorem dX5_readItem_122 : decode cX5_readItem 122 = .ok (.iconst 1, 1) := by decide +kernel
theorem dX5_readItem_123 : decode cX5_readItem 123 = .ok (.iload 4, 2) := by decide +kernel
theorem dX5_readItem_125 : decode cX5_readItem 125 = .ok (.invokestatic 122, 3) := by decide +kernel
theorem dX5_readItem_128 : decode cX5_readItem 128 = .ok (.iconst 1, 1) := by decide +kernel
theorem dX5_readItem_129 : decode cX5_readItem 129 = .ok (.ireturn, 1) := by decide +kernel
set_option maxRecDepth 20000 in
theorem ggX5_readText_X5_two : GoodIn wsX5_readText wsX5_two := goodIn_r _ [10, 11, 12, 13, 9, 14, 2, 3, 4, 15, 16, 17, 40, 41, 42, 43, 44, 45, 46, 47, 48, 49, 50, 51, 52, 53, 54] (by decide +kernel) (by decide +kernel)
set_option maxRecDepth 20000 in
theorem gX5_readText_X5_two : GoodIn wsX5_readText (wsV RX5 126 RX5 yX5_two wsX5_two) := goodIn_app (goodIn_of _ (by decide +kernel)) ggX5_readText_X5_two
set_option maxRecDepth 20000 in
theorem ggX5_readText_X5_digit : GoodIn wsX5_readText wsX5_digit := goodIn_r _ [14, 2, 3, 4, 15, 16, 9, 17, 40, 41, 42, 43, 44, 45, 46, 47, 48, 49, 50, 51, 52, 53, 54] (by decide +kernel) (by decide +kernel)
set_option maxRecDepth 20000 in
theorem gX5_readText_X5_digit : GoodIn wsX5_readText (wsV RX5 104 RX5 yX5_digit wsX5_digit) := goodIn_app (goodIn_of _ (by decide +kernel)) ggX5_readText_X5_digit
set_option maxRecDepth 20000 in
theorem ggX5_readText_X5_readItem : GoodIn wsX5_readText wsX5_readItem := goodIn_r _ [21, 4, 2, 1, 5, 22, 23, 9, 24, 11, 12, 13, 14, 3, 15, 16, 17, 25, 26, 27, 28, 29, 30, 31, 32, 33, 34, 35, 36, 37, 38, 39, 40, 41, 42, 43, 44, 45, 46, 47, 48, 49, 50, 51, 52, 53, 54] (by decide +kernel) (by decide +kernel)
set_option maxRecDepth 20000 in
theorem gX5_readText_X5_readItem : GoodIn wsX5_readText (wsV RX5 129 RX5 yX5_readItem wsX5_readItem) := goodIn_app (goodIn_of _ (by decide +kernel)) ggX5_readText_X5_readItem
theorem dX5_readText_0 : decode cX5_readText 0 = .ok (.iconst 0, 1) := by decide +kernel
theorem dX5_readText_1 : decode cX5_readText 1 = .ok (.istore_n 1, 1) := by decide +kernel
theorem dX5_readText_2 : decode cX5_readText 2 = .ok (.iload_n 1, 1) := by decide +kernel
theorem dX5_readText_3 : decode cX5_readText 3 = .ok (.bipush 106, 2) := by decide +kernel
theorem dX5_readText_5 : decode cX5_readText 5 = .ok (.if_icmp .ge 16, 3) := by decide +kernel
theorem dX5_readText_8 : decode cX5_readText 8 = .ok (.aload_n 0, 1) := by decide +kernel
theorem dX5_readText_9 : decode cX5_readText 9 = .ok (.getfield 13, 3) := by decide +kernel
theorem dX5_readText_12 : decode cX5_readText 12 = .ok (.iload_n 1, 1) := by decide +kernel
theorem dX5_readText_13 : decode cX5_readText 13 = .ok (.iconst 0, 1) := by decide +kernel
theorem dX5_readText_14 : decode cX5_readText 14 = .ok (.iastore, 1) := by decide +kernel
theorem dX5_readText_15 : decode cX5_readText 15 = .ok (.iinc 1 1, 3) := by decide +kernel
theorem dX5_readText_18 : decode cX5_readText 18 = .ok (.goto (-16), 3) := by decide +kernel
theorem dX5_readText_21 : decode cX5_readText 21 = .ok (.aload_n 0, 1) := by decide +kernel
theorem dX5_readText_22 : decode cX5_readText 22 = .ok (.iconst 0, 1) := by decide +kernel
theorem dX5_readText_23 : decode cX5_readText 23 = .ok (.putfield 101, 3) := by decide +kernel
theorem dX5_readText_26 : decode cX5_readText 26 = .ok (.aload_n 0, 1) := by decide +kernel
theorem dX5_readText_27 : decode cX5_readText 27 = .ok (.getfield 94, 3) := by decide +kernel
theorem dX5_readText_30 : decode cX5_readText 30 = .ok (.ifCond .eq 14, 3) := by decide +kernel
theorem dX5_readText_33 : decode cX5_readText 33 = .ok (.aload_n 0, 1) := by decide +kernel
theorem dX5_readText_34 : decode cX5_readText 34 = .ok (.getfield 7, 3) := by decide +kernel
theorem dX5_readText_37 : decode cX5_readText 37 = .ok (.iconst 0, 1) := by decide +kernel
theorem dX5_readText_38 : decode cX5_readText 38 = .ok (.iaload, 1) := by decide +kernel
theorem dX5_readText_39 : decode cX5_readText 39 = .ok (.bipush 76, 2) := by decide +kernel
theorem dX5_readText_41 : decode cX5_readText 41 = .ok (.if_icmp .eq 5, 3) := by decide +kernel
theorem dX5_readText_44 : decode cX5_readText 44 = .ok (.iconst 0, 1) := by decide +kernel
theorem dX5_readText_45 : decode cX5_readText 45 = .ok (.ireturn, 1) := by decide +kernel
theorem dX5_readText_46 : decode cX5_readText 46 = .ok (.aload_n 0, 1) := by decide +kernel
theorem dX5_readText_47 : decode cX5_readText 47 = .ok (.iconst 1, 1) := by decide +kernel
theorem dX5_readText_48 : decode cX5_readText 48 = .ok (.putfield 101, 3) := by decide +kernel
theorem dX5_readText_51 : decode cX5_readText 51 = .ok (.aload_n 0, 1) := by decide +kernel
theorem dX5_readText_52 : decode cX5_readText 52 = .ok (.aload_n 0, 1) := by decide +kernel
theorem dX5_readText_53 : decode cX5_readText 53 = .ok (.iconst 4, 1) := by decide +kernel
theorem dX5_readText_54 : decode cX5_readText 54 = .ok (.bipush 20, 2) := by decide +kernel
theorem dX5_readText_56 : decode cX5_readText 56 = .ok (.invokevirtual 126, 3) := by decide +kernel
theorem dX5_readText_59 : decode cX5_readText 59 = .ok (.putfield 107, 3) := by decide +kernel
theorem dX5_readText_62 : decode cX5_readText 62 = .ok (.aload_n 0, 1) := by decide +kernel
theorem dX5_readText_63 : decode cX5_readText 63 = .ok (.getfield 107, 3) := by decide +kernel
theorem dX5_readText_66 : decode cX5_readText 66 = .ok (.istore_n 1, 1) := by decide +kernel
theorem dX5_readText_67 : decode cX5_readText 67 = .ok (.iconst 0, 1) := by decide +kernel
theorem dX5_readText_68 : decode cX5_readText 68 = .ok (.istore_n 2, 1) := by decide +kernel
theorem dX5_readText_69 : decode cX5_readText 69 = .ok (.iload_n 2, 1) := by decide +kernel
theorem dX5_readText_70 : decode cX5_readText 70 = .ok (.iconst 5, 1) := by decide +kernel
theorem dX5_readText_71 : decode cX5_readText 71 = .ok (.if_icmp .ge 71, 3) := by decide +kernel
theorem dX5_readText_74 : decode cX5_readText 74 = .ok (.iload_n 1, 1) := by decide +kernel
theorem dX5_readText_75 : decode cX5_readText 75 = .ok (.bipush (-9), 2) := by decide +kernel
theorem dX5_readText_77 : decode cX5_readText 77 = .ok (.if_icmp .eq 65, 3) := by decide +kernel
theorem dX5_readText_80 : decode cX5_readText 80 = .ok (.iload_n 2, 1) := by decide +kernel
theorem dX5_readText_81 : decode cX5_readText 81 = .ok (.ifCond .ne 13, 3) := by decide +kernel
theorem dX5_readText_84 : decode cX5_readText 84 = .ok (.aload_n 0, 1) := by decide +kernel
theorem dX5_readText_85 : decode cX5_readText 85 = .ok (.iconst 1, 1) := by decide +kernel
theorem dX5_readText_86 : decode cX5_readText 86 = .ok (.bipush 99, 2) := by decide +kernel
theorem dX5_readText_88 : decode cX5_readText 88 = .ok (.invokevirtual 126, 3) := by decide +kernel
theorem dX5_readText_91 : decode cX5_readText 91 = .ok (.goto 34, 3) := by decide +kernel
theorem dX5_readText_94 : decode cX5_readText 94 = .ok (.iload_n 2, 1) := by decide +kernel
theorem dX5_readText_95 : decode cX5_readText 95 = .ok (.iconst 1, 1) := by decide +kernel
theorem dX5_readText_96 : decode cX5_readText 96 = .ok (.if_icmp .ne 13, 3) := by decide +kernel
theorem dX5_readText_99 : decode cX5_readText 99 = .ok (.aload_n 0, 1) := by decide +kernel
theorem dX5_readText_100 : decode cX5_readText 100 = .ok (.iconst 1, 1) := by decide +kernel
theorem dX5_readText_101 : decode cX5_readText 101 = .ok (.bipush 50, 2) := by decide +kernel
theorem dX5_readText_103 : decode cX5_readText 103 = .ok (.invokevirtual 126, 3) := by decide +kernel
theorem dX5_readText_106 : decode cX5_readText 106 = .ok (.goto 19, 3) := by decide +kernel
theorem dX5_readText_109 : decode cX5_readText 109 = .ok (.aload_n 0, 1) := by decide +kernel
theorem dX5_readText_110 : decode cX5_readText 110 = .ok (.iconst 1, 1) := by decide +kernel
theorem dX5_readText_111 : decode cX5_readText 111 = .ok (.iload_n 2, 1) := by decide +kernel
theorem dX5_readText_112 : decode cX5_readText 112 = .ok (.iconst 3, 1) := by decide +kernel
theorem dX5_readText_113 : decode cX5_readText 113 = .ok (.if_icmp .ne 7, 3) := by decide +kernel
theorem dX5_readText_116 : decode cX5_readText 116 = .ok (.iconst 4, 1) := by decide +kernel
theorem dX5_readText_117 : decode cX5_readText 117 = .ok (.goto 5, 3) := by decide +kernel
theorem dX5_readText_120 : decode cX5_readText 120 = .ok (.bipush 9, 2) := by decide +kernel
theorem dX5_readText_122 : decode cX5_readText 122 = .ok (.invokevirtual 104, 3) := by decide +kernel
theorem dX5_readText_125 : decode cX5_readText 125 = .ok (.istore_n 1, 1) := by decide +kernel
theorem dX5_readText_126 : decode cX5_readText 126 = .ok (.aload_n 0, 1) := by decide +kernel
theorem dX5_readText_127 : decode cX5_readText 127 = .ok (.getfield 13, 3) := by decide +kernel
theorem dX5_readText_130 : decode cX5_readText 130 = .ok (.bipush 99, 2) := by decide +kernel
theorem dX5_readText_132 : decode cX5_readText 132 = .ok (.iload_n 2, 1) := by decide +kernel
theorem dX5_readText_133 : decode cX5_readText 133 = .ok (.iadd, 1) := by decide +kernel
theorem dX5_readText_134 : decode cX5_readText 134 = .ok (.iload_n 1, 1) := by decide +kernel
theorem dX5_readText_135 : decode cX5_readText 135 = .ok (.iastore, 1) := by decide +kernel
theorem dX5_readText_136 : decode cX5_readText 136 = .ok (.iinc 2 1, 3) := by decide +kernel
theorem dX5_readText_139 : decode cX5_readText 139 = .ok (.goto (-70), 3) := by decide +kernel
theorem dX5_readText_142 : decode cX5_readText 142 = .ok (.iload_n 1, 1) := by decide +kernel
theorem dX5_readText_143 : decode cX5_readText 143 = .ok (.bipush (-9), 2) := by decide +kernel
theorem dX5_readText_145 : decode cX5_readText 145 = .ok (.if_icmp .ne 8, 3) := by decide +kernel
theorem dX5_readText_148 : decode cX5_readText 148 = .ok (.aload_n 0, 1) := by decide +kernel
theorem dX5_readText_149 : decode cX5_readText 149 = .ok (.getfield 101, 3) := by decide +kernel
theorem dX5_readText_152 : decode cX5_readText 152 = .ok (.ireturn, 1) := by decide +kernel
theorem dX5_readText_153 : decode cX5_readText 153 = .ok (.aload_n 0, 1) := by decide +kernel
theorem dX5_readText_154 : decode cX5_readText 154 = .ok (.getfield 101, 3) := by decide +kernel
theorem dX5_readText_157 : decode cX5_readText 157 = .ok (.aload_n 0, 1) := by decide +kernel
theorem dX5_readText_158 : decode cX5_readText 158 = .ok (.getfield 94, 3) := by decide +kernel
theorem dX5_readText_161 : decode cX5_readText 161 = .ok (.if_icmp .ge 15, 3) := by decide +kernel
theorem dX5_readText_164 : decode cX5_readText 164 = .ok (.aload_n 0, 1) := by decide +kernel
theorem dX5_readText_165 : decode cX5_readText 165 = .ok (.invokevirtual 129, 3) := by decide +kernel
theorem dX5_readText_168 : decode cX5_readText 168 = .ok (.ifCond .ne (-15), 3) := by decide +kernel
theorem dX5_readText_171 : decode cX5_readText 171 = .ok (.aload_n 0, 1) := by decide +kernel
theorem dX5_readText_172 : decode cX5_readText 172 = .ok (.getfield 101, 3) := by decide +kernel
theorem dX5_readText_175 : decode cX5_readText 175 = .ok (.ireturn, 1) := by decide +kernel
theorem dX5_readText_176 : decode cX5_readText 176 = .ok (.bipush (-9), 2) := by decide +kernel
theorem dX5_readText_178 : decode cX5_readText 178 = .ok (.ireturn, 1) := by decide +kernel
set_option maxRecDepth 20000 in
theorem ggX5_errorPosition_X5_readText : GoodIn wsX5_errorPosition wsX5_readText := goodIn_r _ [6, 7, 8, 9, 10, 11, 12, 13, 14, 5, 15, 16, 17, 18, 19, 20, 21, 22, 23, 24, 25, 26, 27, 28, 29, 30, 31, 32, 33, 34, 35, 36, 37, 38, 39, 40, 41, 42, 43, 44, 45, 46, 47, 48, 49, 50, 51, 52, 53, 54, 55, 56, 57, 58, 59] (by decide +kernel) (by decide +kernel)
set_option maxRecDepth 20000 in
theorem gX5_errorPosition_X5_readText : GoodIn wsX5_errorPosition (wsV RX5 133 RX5 yX5_readText wsX5_readText) := goodIn_app (goodIn_of _ (by decide +kernel)) ggX5_errorPosition_X5_readText
theorem dX5_errorPosition_0 : decode cX5_errorPosition 0 = .ok (.aload_n 0, 1) := by decide +kernel
theorem dX5_errorPosition_1 : decode cX5_errorPosition 1 = .ok (.iconst 0, 1) := by decide +kernel
theorem dX5_errorPosition_2 : decode cX5_errorPosition 2 = .ok (.putfield 42, 3) := by decide +kernel
theorem dX5_errorPosition_5 : decode cX5_errorPosition 5 = .ok (.aload_n 0, 1) := by decide +kernel
theorem dX5_errorPosition_6 : decode cX5_errorPosition 6 = .ok (.invokevirtual 133, 3) := by decide +kernel
theorem dX5_errorPosition_9 : decode cX5_errorPosition 9 = .ok (.ireturn, 1) := by decide +kernel
set_option maxRecDepth 20000 in
theorem ggX5_load_X5_readText : GoodIn wsX5_load wsX5_readText := goodIn_r _ [11, 3, 12, 13, 14, 1, 15, 16, 17, 10, 18, 19, 20, 21, 22, 23, 24, 25, 26, 27, 28, 29, 30, 31, 32, 33, 34, 35, 36, 37, 38, 39, 40, 41, 42, 43, 44, 45, 46, 47, 56, 57, 58, 59, 60, 61, 62, 63, 64, 65, 66, 67, 68, 69, 70] (by decide +kernel) (by decide +kernel)
set_option maxRecDepth 20000 in
theorem gX5_load_X5_readText : GoodIn wsX5_load (wsV RX5 133 RX5 yX5_readText wsX5_readText) := goodIn_app (goodIn_of _ (by decide +kernel)) ggX5_load_X5_readText
set_option maxRecDepth 20000 in
theorem ggX5_load_X5_refused : GoodIn wsX5_load wsX5_refused := goodIn_r _ [51, 52, 56, 57, 58, 59, 60, 61, 62, 63, 64, 65, 66, 67, 68, 69, 70] (by decide +kernel) (by decide +kernel)
set_option maxRecDepth 20000 in
theorem gX5_load_X5_refused : GoodIn wsX5_load (wsV RX5 97 RX5 yX5_refused wsX5_refused) := goodIn_app (goodIn_of _ (by decide +kernel)) ggX5_load_X5_refused
set_option maxRecDepth 20000 in
theorem ggX5_load_X5_copy : GoodIn wsX5_load wsX5_copy := goodIn_r _ [55] (by decide +kernel) (by decide +kernel)
set_option maxRecDepth 20000 in
theorem gX5_load_X5_copy : GoodIn wsX5_load (va_wsS RX5 50 yX5_copy wsX5_copy) := goodIn_app (goodIn_of _ (by decide +kernel)) ggX5_load_X5_copy
theorem dX5_load_0 : decode cX5_load 0 = .ok (.aload_n 0, 1) := by decide +kernel
theorem dX5_load_1 : decode cX5_load 1 = .ok (.aload_n 0, 1) := by decide +kernel
theorem dX5_load_2 : decode cX5_load 2 = .ok (.invokevirtual 133, 3) := by decide +kernel
theorem dX5_load_5 : decode cX5_load 5 = .ok (.bipush (-9), 2) := by decide +kernel
theorem dX5_load_7 : decode cX5_load 7 = .ok (.if_icmp .ne 7, 3) := by decide +kernel
theorem dX5_load_10 : decode cX5_load 10 = .ok (.iconst 0, 1) := by decide +kernel
theorem dX5_load_11 : decode cX5_load 11 = .ok (.goto 4, 3) := by decide +kernel
theorem dX5_load_14 : decode cX5_load 14 = .ok (.iconst 1, 1) := by decide +kernel
theorem dX5_load_15 : decode cX5_load 15 = .ok (.invokevirtual 97, 3) := by decide +kernel
theorem dX5_load_18 : decode cX5_load 18 = .ok (.ifCond .eq 5, 3) := by decide +kernel
theorem dX5_load_21 : decode cX5_load 21 = .ok (.iconst 0, 1) := by decide +kernel
theorem dX5_load_22 : decode cX5_load 22 = .ok (.ireturn, 1) := by decide +kernel
theorem dX5_load_23 : decode cX5_load 23 = .ok (.aload_n 0, 1) := by decide +kernel
theorem dX5_load_24 : decode cX5_load 24 = .ok (.aload_n 0, 1) := by decide +kernel
theorem dX5_load_25 : decode cX5_load 25 = .ok (.getfield 107, 3) := by decide +kernel
theorem dX5_load_28 : decode cX5_load 28 = .ok (.putfield 38, 3) := by decide +kernel
theorem dX5_load_31 : decode cX5_load 31 = .ok (.aload_n 0, 1) := by decide +kernel
theorem dX5_load_32 : decode cX5_load 32 = .ok (.getfield 13, 3) := by decide +kernel
theorem dX5_load_35 : decode cX5_load 35 = .ok (.iconst 0, 1) := by decide +kernel
theorem dX5_load_36 : decode cX5_load 36 = .ok (.aload_n 0, 1) := by decide +kernel
theorem dX5_load_37 : decode cX5_load 37 = .ok (.getfield 16, 3) := by decide +kernel
theorem dX5_load_40 : decode cX5_load 40 = .ok (.iconst 0, 1) := by decide +kernel
theorem dX5_load_41 : decode cX5_load 41 = .ok (.bipush 106, 2) := by decide +kernel
theorem dX5_load_43 : decode cX5_load 43 = .ok (.invokestatic 50, 3) := by decide +kernel
theorem dX5_load_46 : decode cX5_load 46 = .ok (.aload_n 0, 1) := by decide +kernel
theorem dX5_load_47 : decode cX5_load 47 = .ok (.iconst 0, 1) := by decide +kernel
theorem dX5_load_48 : decode cX5_load 48 = .ok (.putfield 47, 3) := by decide +kernel
theorem dX5_load_51 : decode cX5_load 51 = .ok (.aload_n 0, 1) := by decide +kernel
theorem dX5_load_52 : decode cX5_load 52 = .ok (.getfield 28, 3) := by decide +kernel
theorem dX5_load_55 : decode cX5_load 55 = .ok (.iconst 0, 1) := by decide +kernel
theorem dX5_load_56 : decode cX5_load 56 = .ok (.iconst 0, 1) := by decide +kernel
theorem dX5_load_57 : decode cX5_load 57 = .ok (.bastore, 1) := by decide +kernel
theorem dX5_load_58 : decode cX5_load 58 = .ok (.aload_n 0, 1) := by decide +kernel
theorem dX5_load_59 : decode cX5_load 59 = .ok (.getfield 28, 3) := by decide +kernel
theorem dX5_load_62 : decode cX5_load 62 = .ok (.iconst 1, 1) := by decide +kernel
theorem dX5_load_63 : decode cX5_load 63 = .ok (.iconst 0, 1) := by decide +kernel
theorem dX5_load_64 : decode cX5_load 64 = .ok (.bastore, 1) := by decide +kernel
theorem dX5_load_65 : decode cX5_load 65 = .ok (.aload_n 0, 1) := by decide +kernel
theorem dX5_load_66 : decode cX5_load 66 = .ok (.getfield 16, 3) := by decide +kernel
theorem dX5_load_69 : decode cX5_load 69 = .ok (.bipush 96, 2) := by decide +kernel
theorem dX5_load_71 : decode cX5_load 71 = .ok (.iaload, 1) := by decide +kernel
theorem dX5_load_72 : decode cX5_load 72 = .ok (.ireturn, 1) := by decide +kernel
set_option maxRecDepth 20000 in
theorem ggX5_about_X5_in : GoodIn wsX5_about wsX5_in := goodIn_r _ [7] (by decide +kernel) (by decide +kernel)
set_option maxRecDepth 20000 in
theorem gX5_about_X5_in : GoodIn wsX5_about (va_wsS RX5 54 yX5_in wsX5_in) := goodIn_app (goodIn_of _ (by decide +kernel)) ggX5_about_X5_in
set_option maxRecDepth 20000 in
theorem ggX5_about_X5_refused : GoodIn wsX5_about wsX5_refused := goodIn_r _ [11, 12, 16, 17, 18, 19, 20, 21, 22, 23, 24, 25, 26, 27, 28, 29, 30] (by decide +kernel) (by decide +kernel)
set_option maxRecDepth 20000 in
theorem gX5_about_X5_refused : GoodIn wsX5_about (wsV RX5 97 RX5 yX5_refused wsX5_refused) := goodIn_app (goodIn_of _ (by decide +kernel)) ggX5_about_X5_refused
set_option maxRecDepth 20000 in
theorem ggX5_about_X5_count : GoodIn wsX5_about wsX5_count := goodIn_r _ [15] (by decide +kernel) (by decide +kernel)
set_option maxRecDepth 20000 in
theorem gX5_about_X5_count : GoodIn wsX5_about (va_wsS RX5 115 yX5_count wsX5_count) := goodIn_app (goodIn_of _ (by decide +kernel)) ggX5_about_X5_count
theorem dX5_about_0 : decode cX5_about 0 = .ok (.aload_n 0, 1) := by decide +kernel
theorem dX5_about_1 : decode cX5_about 1 = .ok (.iload_n 1, 1) := by decide +kernel
theorem dX5_about_2 : decode cX5_about 2 = .ok (.i2l, 1) := by decide +kernel
theorem dX5_about_3 : decode cX5_about 3 = .ok (.lconst 0, 1) := by decide +kernel
theorem dX5_about_4 : decode cX5_about 4 = .ok (.ldc2_w 136, 3) := by decide +kernel
theorem dX5_about_7 : decode cX5_about 7 = .ok (.invokestatic 54, 3) := by decide +kernel
theorem dX5_about_10 : decode cX5_about 10 = .ok (.ifCond .eq 7, 3) := by decide +kernel
theorem dX5_about_13 : decode cX5_about 13 = .ok (.iconst 0, 1) := by decide +kernel
theorem dX5_about_14 : decode cX5_about 14 = .ok (.goto 4, 3) := by decide +kernel
theorem dX5_about_17 : decode cX5_about 17 = .ok (.iconst 1, 1) := by decide +kernel
theorem dX5_about_18 : decode cX5_about 18 = .ok (.invokevirtual 97, 3) := by decide +kernel
theorem dX5_about_21 : decode cX5_about 21 = .ok (.ifCond .eq 5, 3) := by decide +kernel
theorem dX5_about_24 : decode cX5_about 24 = .ok (.iconst 0, 1) := by decide +kernel
theorem dX5_about_25 : decode cX5_about 25 = .ok (.ireturn, 1) := by decide +kernel
theorem dX5_about_26 : decode cX5_about 26 = .ok (.iload_n 1, 1) := by decide +kernel
theorem dX5_about_27 : decode cX5_about 27 = .ok (.tableswitch 74 0 7 #[45, 50, 74, 74, 74, 74, 58, 66], 45) := by decide +kernel
theorem dX5_about_72 : decode cX5_about 72 = .ok (.aload_n 0, 1) := by decide +kernel
theorem dX5_about_73 : decode cX5_about 73 = .ok (.getfield 38, 3) := by decide +kernel
theorem dX5_about_76 : decode cX5_about 76 = .ok (.ireturn, 1) := by decide +kernel
theorem dX5_about_77 : decode cX5_about 77 = .ok (.aload_n 0, 1) := by decide +kernel
theorem dX5_about_78 : decode cX5_about 78 = .ok (.getfield 16, 3) := by decide +kernel
theorem dX5_about_81 : decode cX5_about 81 = .ok (.bipush 96, 2) := by decide +kernel
theorem dX5_about_83 : decode cX5_about 83 = .ok (.iaload, 1) := by decide +kernel
theorem dX5_about_84 : decode cX5_about 84 = .ok (.ireturn, 1) := by decide +kernel
theorem dX5_about_85 : decode cX5_about 85 = .ok (.aload_n 0, 1) := by decide +kernel
theorem dX5_about_86 : decode cX5_about 86 = .ok (.getfield 16, 3) := by decide +kernel
theorem dX5_about_89 : decode cX5_about 89 = .ok (.bipush 97, 2) := by decide +kernel
theorem dX5_about_91 : decode cX5_about 91 = .ok (.iaload, 1) := by decide +kernel
theorem dX5_about_92 : decode cX5_about 92 = .ok (.ireturn, 1) := by decide +kernel
theorem dX5_about_93 : decode cX5_about 93 = .ok (.aload_n 0, 1) := by decide +kernel
theorem dX5_about_94 : decode cX5_about 94 = .ok (.getfield 16, 3) := by decide +kernel
theorem dX5_about_97 : decode cX5_about 97 = .ok (.bipush 98, 2) := by decide +kernel
theorem dX5_about_99 : decode cX5_about 99 = .ok (.iaload, 1) := by decide +kernel
theorem dX5_about_100 : decode cX5_about 100 = .ok (.ireturn, 1) := by decide +kernel
theorem dX5_about_101 : decode cX5_about 101 = .ok (.iload_n 1, 1) := by decide +kernel
theorem dX5_about_102 : decode cX5_about 102 = .ok (.bipush 6, 2) := by decide +kernel
theorem dX5_about_104 : decode cX5_about 104 = .ok (.if_icmp .ge 16, 3) := by decide +kernel
theorem dX5_about_107 : decode cX5_about 107 = .ok (.aload_n 0, 1) := by decide +kernel
theorem dX5_about_108 : decode cX5_about 108 = .ok (.getfield 16, 3) := by decide +kernel
theorem dX5_about_111 : decode cX5_about 111 = .ok (.iload_n 1, 1) := by decide +kernel
theorem dX5_about_112 : decode cX5_about 112 = .ok (.iconst 2, 1) := by decide +kernel
theorem dX5_about_113 : decode cX5_about 113 = .ok (.isub, 1) := by decide +kernel
theorem dX5_about_114 : decode cX5_about 114 = .ok (.invokestatic 115, 3) := by decide +kernel
theorem dX5_about_117 : decode cX5_about 117 = .ok (.goto 15, 3) := by decide +kernel
theorem dX5_about_120 : decode cX5_about 120 = .ok (.aload_n 0, 1) := by decide +kernel
theorem dX5_about_121 : decode cX5_about 121 = .ok (.getfield 16, 3) := by decide +kernel
theorem dX5_about_124 : decode cX5_about 124 = .ok (.bipush 99, 2) := by decide +kernel
theorem dX5_about_126 : decode cX5_about 126 = .ok (.iload_n 1, 1) := by decide +kernel
theorem dX5_about_127 : decode cX5_about 127 = .ok (.iadd, 1) := by decide +kernel
theorem dX5_about_128 : decode cX5_about 128 = .ok (.bipush 8, 2) := by decide +kernel
theorem dX5_about_130 : decode cX5_about 130 = .ok (.isub, 1) := by decide +kernel
theorem dX5_about_131 : decode cX5_about 131 = .ok (.iaload, 1) := by decide +kernel
theorem dX5_about_132 : decode cX5_about 132 = .ok (.ireturn, 1) := by decide +kernel
theorem dX5_detail_0 : decode cX5_detail 0 = .ok (.iload_n 2, 1) := by decide +kernel
theorem dX5_detail_1 : decode cX5_detail 1 = .ok (.lookupswitch 70 #[(6, 27), (7, 48)], 27) := by decide +kernel
theorem dX5_detail_28 : decode cX5_detail 28 = .ok (.aload_n 0, 1) := by decide +kernel
theorem dX5_detail_29 : decode cX5_detail 29 = .ok (.bipush 60, 2) := by decide +kernel
theorem dX5_detail_31 : decode cX5_detail 31 = .ok (.iload_n 1, 1) := by decide +kernel
theorem dX5_detail_32 : decode cX5_detail 32 = .ok (.iadd, 1) := by decide +kernel
theorem dX5_detail_33 : decode cX5_detail 33 = .ok (.iaload, 1) := by decide +kernel
theorem dX5_detail_34 : decode cX5_detail 34 = .ok (.ifCond .ne 12, 3) := by decide +kernel
theorem dX5_detail_37 : decode cX5_detail 37 = .ok (.aload_n 0, 1) := by decide +kernel
theorem dX5_detail_38 : decode cX5_detail 38 = .ok (.bipush 72, 2) := by decide +kernel
theorem dX5_detail_40 : decode cX5_detail 40 = .ok (.iload_n 1, 1) := by decide +kernel
theorem dX5_detail_41 : decode cX5_detail 41 = .ok (.iadd, 1) := by decide +kernel
theorem dX5_detail_42 : decode cX5_detail 42 = .ok (.iaload, 1) := by decide +kernel
theorem dX5_detail_43 : decode cX5_detail 43 = .ok (.goto 5, 3) := by decide +kernel
theorem dX5_detail_46 : decode cX5_detail 46 = .ok (.bipush (-9), 2) := by decide +kernel
theorem dX5_detail_48 : decode cX5_detail 48 = .ok (.ireturn, 1) := by decide +kernel
theorem dX5_detail_49 : decode cX5_detail 49 = .ok (.aload_n 0, 1) := by decide +kernel
theorem dX5_detail_50 : decode cX5_detail 50 = .ok (.bipush 60, 2) := by decide +kernel
theorem dX5_detail_52 : decode cX5_detail 52 = .ok (.iload_n 1, 1) := by decide +kernel
theorem dX5_detail_53 : decode cX5_detail 53 = .ok (.iadd, 1) := by decide +kernel
theorem dX5_detail_54 : decode cX5_detail 54 = .ok (.iaload, 1) := by decide +kernel
theorem dX5_detail_55 : decode cX5_detail 55 = .ok (.iconst 2, 1) := by decide +kernel
theorem dX5_detail_56 : decode cX5_detail 56 = .ok (.if_icmp .ne 12, 3) := by decide +kernel
theorem dX5_detail_59 : decode cX5_detail 59 = .ok (.aload_n 0, 1) := by decide +kernel
theorem dX5_detail_60 : decode cX5_detail 60 = .ok (.bipush 84, 2) := by decide +kernel
theorem dX5_detail_62 : decode cX5_detail 62 = .ok (.iload_n 1, 1) := by decide +kernel
theorem dX5_detail_63 : decode cX5_detail 63 = .ok (.iadd, 1) := by decide +kernel
theorem dX5_detail_64 : decode cX5_detail 64 = .ok (.iaload, 1) := by decide +kernel
theorem dX5_detail_65 : decode cX5_detail 65 = .ok (.goto 5, 3) := by decide +kernel
theorem dX5_detail_68 : decode cX5_detail 68 = .ok (.bipush (-9), 2) := by decide +kernel
theorem dX5_detail_70 : decode cX5_detail 70 = .ok (.ireturn, 1) := by decide +kernel
theorem dX5_detail_71 : decode cX5_detail 71 = .ok (.aload_n 0, 1) := by decide +kernel
theorem dX5_detail_72 : decode cX5_detail 72 = .ok (.bipush 12, 2) := by decide +kernel
theorem dX5_detail_74 : decode cX5_detail 74 = .ok (.iload_n 2, 1) := by decide +kernel
theorem dX5_detail_75 : decode cX5_detail 75 = .ok (.imul, 1) := by decide +kernel
theorem dX5_detail_76 : decode cX5_detail 76 = .ok (.iload_n 1, 1) := by decide +kernel
theorem dX5_detail_77 : decode cX5_detail 77 = .ok (.iadd, 1) := by decide +kernel
theorem dX5_detail_78 : decode cX5_detail 78 = .ok (.iaload, 1) := by decide +kernel
theorem dX5_detail_79 : decode cX5_detail 79 = .ok (.ireturn, 1) := by decide +kernel
set_option maxRecDepth 20000 in
theorem ggX5_grip_X5_isGrip : GoodIn wsX5_grip wsX5_isGrip := goodIn_r _ [7, 2, 8, 9, 6, 10, 19, 20, 21, 22, 23, 24, 25, 26, 27, 28, 29, 30, 31, 32, 33] (by decide +kernel) (by decide +kernel)
set_option maxRecDepth 20000 in
theorem gX5_grip_X5_isGrip : GoodIn wsX5_grip (wsV RX5 138 RX5 yX5_isGrip wsX5_isGrip) := goodIn_app (goodIn_of _ (by decide +kernel)) ggX5_grip_X5_isGrip
set_option maxRecDepth 20000 in
theorem ggX5_grip_X5_in : GoodIn wsX5_grip wsX5_in := goodIn_r _ [10] (by decide +kernel) (by decide +kernel)
set_option maxRecDepth 20000 in
theorem gX5_grip_X5_in : GoodIn wsX5_grip (va_wsS RX5 54 yX5_in wsX5_in) := goodIn_app (goodIn_of _ (by decide +kernel)) ggX5_grip_X5_in
set_option maxRecDepth 20000 in
theorem ggX5_grip_X5_refused : GoodIn wsX5_grip wsX5_refused := goodIn_r _ [14, 15, 19, 20, 21, 22, 23, 24, 25, 26, 27, 28, 29, 30, 31, 32, 33] (by decide +kernel) (by decide +kernel)
set_option maxRecDepth 20000 in
theorem gX5_grip_X5_refused : GoodIn wsX5_grip (wsV RX5 97 RX5 yX5_refused wsX5_refused) := goodIn_app (goodIn_of _ (by decide +kernel)) ggX5_grip_X5_refused
set_option maxRecDepth 20000 in
theorem ggX5_grip_X5_detail : GoodIn wsX5_grip wsX5_detail := goodIn_r _ [18] (by decide +kernel) (by decide +kernel)
set_option maxRecDepth 20000 in
theorem gX5_grip_X5_detail : GoodIn wsX5_grip (va_wsS RX5 143 yX5_detail wsX5_detail) := goodIn_app (goodIn_of _ (by decide +kernel)) ggX5_grip_X5_detail
theorem dX5_grip_0 : decode cX5_grip 0 = .ok (.aload_n 0, 1) := by decide +kernel
theorem dX5_grip_1 : decode cX5_grip 1 = .ok (.aload_n 0, 1) := by decide +kernel
theorem dX5_grip_2 : decode cX5_grip 2 = .ok (.iload_n 1, 1) := by decide +kernel
theorem dX5_grip_3 : decode cX5_grip 3 = .ok (.invokevirtual 138, 3) := by decide +kernel
theorem dX5_grip_6 : decode cX5_grip 6 = .ok (.ifCond .ne 7, 3) := by decide +kernel
theorem dX5_grip_9 : decode cX5_grip 9 = .ok (.iconst 1, 1) := by decide +kernel
theorem dX5_grip_10 : decode cX5_grip 10 = .ok (.goto 20, 3) := by decide +kernel
theorem dX5_grip_13 : decode cX5_grip 13 = .ok (.iload_n 2, 1) := by decide +kernel
theorem dX5_grip_14 : decode cX5_grip 14 = .ok (.i2l, 1) := by decide +kernel
theorem dX5_grip_15 : decode cX5_grip 15 = .ok (.lconst 0, 1) := by decide +kernel
theorem dX5_grip_16 : decode cX5_grip 16 = .ok (.ldc2_w 141, 3) := by decide +kernel
theorem dX5_grip_19 : decode cX5_grip 19 = .ok (.invokestatic 54, 3) := by decide +kernel
theorem dX5_grip_22 : decode cX5_grip 22 = .ok (.ifCond .ne 7, 3) := by decide +kernel
theorem dX5_grip_25 : decode cX5_grip 25 = .ok (.iconst 2, 1) := by decide +kernel
theorem dX5_grip_26 : decode cX5_grip 26 = .ok (.goto 4, 3) := by decide +kernel
theorem dX5_grip_29 : decode cX5_grip 29 = .ok (.iconst 0, 1) := by decide +kernel
theorem dX5_grip_30 : decode cX5_grip 30 = .ok (.invokevirtual 97, 3) := by decide +kernel
theorem dX5_grip_33 : decode cX5_grip 33 = .ok (.ifCond .eq 5, 3) := by decide +kernel
theorem dX5_grip_36 : decode cX5_grip 36 = .ok (.iconst 0, 1) := by decide +kernel
theorem dX5_grip_37 : decode cX5_grip 37 = .ok (.ireturn, 1) := by decide +kernel
theorem dX5_grip_38 : decode cX5_grip 38 = .ok (.aload_n 0, 1) := by decide +kernel
theorem dX5_grip_39 : decode cX5_grip 39 = .ok (.getfield 16, 3) := by decide +kernel
theorem dX5_grip_42 : decode cX5_grip 42 = .ok (.iload_n 1, 1) := by decide +kernel
theorem dX5_grip_43 : decode cX5_grip 43 = .ok (.iload_n 2, 1) := by decide +kernel
theorem dX5_grip_44 : decode cX5_grip 44 = .ok (.invokestatic 143, 3) := by decide +kernel
theorem dX5_grip_47 : decode cX5_grip 47 = .ok (.ireturn, 1) := by decide +kernel
set_option maxRecDepth 20000 in
theorem ggX5_slot_X5_isSlot : GoodIn wsX5_slot wsX5_isSlot := goodIn_r _ [6, 7, 8, 9, 5, 10, 19, 20, 21, 22, 23, 24, 25, 26, 27, 28, 29, 30, 31, 32, 33] (by decide +kernel) (by decide +kernel)
set_option maxRecDepth 20000 in
theorem gX5_slot_X5_isSlot : GoodIn wsX5_slot (wsV RX5 146 RX5 yX5_isSlot wsX5_isSlot) := goodIn_app (goodIn_of _ (by decide +kernel)) ggX5_slot_X5_isSlot
set_option maxRecDepth 20000 in
theorem ggX5_slot_X5_refused : GoodIn wsX5_slot wsX5_refused := goodIn_r _ [14, 15, 19, 20, 21, 22, 23, 24, 25, 26, 27, 28, 29, 30, 31, 32, 33] (by decide +kernel) (by decide +kernel)
set_option maxRecDepth 20000 in
theorem gX5_slot_X5_refused : GoodIn wsX5_slot (wsV RX5 97 RX5 yX5_refused wsX5_refused) := goodIn_app (goodIn_of _ (by decide +kernel)) ggX5_slot_X5_refused
set_option maxRecDepth 20000 in
theorem ggX5_slot_X5_gripAt : GoodIn wsX5_slot wsX5_gripAt := goodIn_r _ [18] (by decide +kernel) (by decide +kernel)
set_option maxRecDepth 20000 in
theorem gX5_slot_X5_gripAt : GoodIn wsX5_slot (va_wsS RX5 60 yX5_gripAt wsX5_gripAt) := goodIn_app (goodIn_of _ (by decide +kernel)) ggX5_slot_X5_gripAt
theorem dX5_slot_0 : decode cX5_slot 0 = .ok (.aload_n 0, 1) := by decide +kernel
theorem dX5_slot_1 : decode cX5_slot 1 = .ok (.aload_n 0, 1) := by decide +kernel
theorem dX5_slot_2 : decode cX5_slot 2 = .ok (.iload_n 1, 1) := by decide +kernel
theorem dX5_slot_3 : decode cX5_slot 3 = .ok (.invokevirtual 146, 3) := by decide +kernel
theorem dX5_slot_6 : decode cX5_slot 6 = .ok (.ifCond .eq 7, 3) := by decide +kernel
theorem dX5_slot_9 : decode cX5_slot 9 = .ok (.iconst 0, 1) := by decide +kernel
theorem dX5_slot_10 : decode cX5_slot 10 = .ok (.goto 4, 3) := by decide +kernel
theorem dX5_slot_13 : decode cX5_slot 13 = .ok (.iconst 1, 1) := by decide +kernel
theorem dX5_slot_14 : decode cX5_slot 14 = .ok (.invokevirtual 97, 3) := by decide +kernel
theorem dX5_slot_17 : decode cX5_slot 17 = .ok (.ifCond .eq 5, 3) := by decide +kernel
theorem dX5_slot_20 : decode cX5_slot 20 = .ok (.iconst 0, 1) := by decide +kernel
theorem dX5_slot_21 : decode cX5_slot 21 = .ok (.ireturn, 1) := by decide +kernel
theorem dX5_slot_22 : decode cX5_slot 22 = .ok (.aload_n 0, 1) := by decide +kernel
theorem dX5_slot_23 : decode cX5_slot 23 = .ok (.getfield 16, 3) := by decide +kernel
theorem dX5_slot_26 : decode cX5_slot 26 = .ok (.iload_n 1, 1) := by decide +kernel
theorem dX5_slot_27 : decode cX5_slot 27 = .ok (.invokestatic 60, 3) := by decide +kernel
theorem dX5_slot_30 : decode cX5_slot 30 = .ok (.ireturn, 1) := by decide +kernel
set_option maxRecDepth 20000 in
theorem ggX5_random_X5_randomOf : GoodIn wsX5_random wsX5_randomOf := goodIn_r _ [6, 7] (by decide +kernel) (by decide +kernel)
set_option maxRecDepth 20000 in
theorem gX5_random_X5_randomOf : GoodIn wsX5_random (va_wsS RX5 68 yX5_randomOf wsX5_randomOf) := goodIn_app (goodIn_of _ (by decide +kernel)) ggX5_random_X5_randomOf
theorem dX5_random_0 : decode cX5_random 0 = .ok (.aload_n 0, 1) := by decide +kernel
theorem dX5_random_1 : decode cX5_random 1 = .ok (.iconst 0, 1) := by decide +kernel
theorem dX5_random_2 : decode cX5_random 2 = .ok (.putfield 42, 3) := by decide +kernel
theorem dX5_random_5 : decode cX5_random 5 = .ok (.aload_n 0, 1) := by decide +kernel
theorem dX5_random_6 : decode cX5_random 6 = .ok (.getfield 16, 3) := by decide +kernel
theorem dX5_random_9 : decode cX5_random 9 = .ok (.invokestatic 68, 3) := by decide +kernel
theorem dX5_random_12 : decode cX5_random 12 = .ok (.lreturn, 1) := by decide +kernel
theorem dX5_layReport_0 : decode cX5_layReport 0 = .ok (.iconst 0, 1) := by decide +kernel
theorem dX5_layReport_1 : decode cX5_layReport 1 = .ok (.istore_n 1, 1) := by decide +kernel
theorem dX5_layReport_2 : decode cX5_layReport 2 = .ok (.iconst 0, 1) := by decide +kernel
theorem dX5_layReport_3 : decode cX5_layReport 3 = .ok (.istore_n 2, 1) := by decide +kernel
theorem dX5_layReport_4 : decode cX5_layReport 4 = .ok (.iload_n 2, 1) := by decide +kernel
theorem dX5_layReport_5 : decode cX5_layReport 5 = .ok (.aload_n 0, 1) := by decide +kernel
theorem dX5_layReport_6 : decode cX5_layReport 6 = .ok (.getfield 16, 3) := by decide +kernel
theorem dX5_layReport_9 : decode cX5_layReport 9 = .ok (.bipush 96, 2) := by decide +kernel
theorem dX5_layReport_11 : decode cX5_layReport 11 = .ok (.iaload, 1) := by decide +kernel
theorem dX5_layReport_12 : decode cX5_layReport 12 = .ok (.if_icmp .ge 169, 3) := by decide +kernel
theorem dX5_layReport_15 : decode cX5_layReport 15 = .ok (.iload_n 2, 1) := by decide +kernel
theorem dX5_layReport_16 : decode cX5_layReport 16 = .ok (.ifCond .le 14, 3) := by decide +kernel
theorem dX5_layReport_19 : decode cX5_layReport 19 = .ok (.aload_n 0, 1) := by decide +kernel
theorem dX5_layReport_20 : decode cX5_layReport 20 = .ok (.getfield 35, 3) := by decide +kernel
theorem dX5_layReport_23 : decode cX5_layReport 23 = .ok (.iload_n 1, 1) := by decide +kernel
theorem dX5_layReport_24 : decode cX5_layReport 24 = .ok (.bipush 32, 2) := by decide +kernel
theorem dX5_layReport_26 : decode cX5_layReport 26 = .ok (.iastore, 1) := by decide +kernel
theorem dX5_layReport_27 : decode cX5_layReport 27 = .ok (.iinc 1 1, 3) := by decide +kernel
theorem dX5_layReport_30 : decode cX5_layReport 30 = .ok (.aload_n 0, 1) := by decide +kernel
theorem dX5_layReport_31 : decode cX5_layReport 31 = .ok (.getfield 35, 3) := by decide +kernel
theorem dX5_layReport_34 : decode cX5_layReport 34 = .ok (.iload_n 1, 1) := by decide +kernel
theorem dX5_layReport_35 : decode cX5_layReport 35 = .ok (.bipush 97, 2) := by decide +kernel
theorem dX5_layReport_37 : decode cX5_layReport 37 = .ok (.iload_n 2, 1) := by decide +kernel
theorem dX5_layReport_38 : decode cX5_layReport 38 = .ok (.iadd, 1) := by decide +kernel
theorem dX5_layReport_39 : decode cX5_layReport 39 = .ok (.iastore, 1) := by decide +kernel
theorem dX5_layReport_40 : decode cX5_layReport 40 = .ok (.aload_n 0, 1) := by decide +kernel
theorem dX5_layReport_41 : decode cX5_layReport 41 = .ok (.getfield 16, 3) := by decide +kernel
theorem dX5_layReport_44 : decode cX5_layReport 44 = .ok (.bipush 60, 2) := by decide +kernel
theorem dX5_layReport_46 : decode cX5_layReport 46 = .ok (.iload_n 2, 1) := by decide +kernel
theorem dX5_layReport_47 : decode cX5_layReport 47 = .ok (.iadd, 1) := by decide +kernel
theorem dX5_layReport_48 : decode cX5_layReport 48 = .ok (.iaload, 1) := by decide +kernel
theorem dX5_layReport_49 : decode cX5_layReport 49 = .ok (.istore_n 3, 1) := by decide +kernel
theorem dX5_layReport_50 : decode cX5_layReport 50 = .ok (.aload_n 0, 1) := by decide +kernel
theorem dX5_layReport_51 : decode cX5_layReport 51 = .ok (.getfield 35, 3) := by decide +kernel
theorem dX5_layReport_54 : decode cX5_layReport 54 = .ok (.iload_n 1, 1) := by decide +kernel
theorem dX5_layReport_55 : decode cX5_layReport 55 = .ok (.iconst 1, 1) := by decide +kernel
theorem dX5_layReport_56 : decode cX5_layReport 56 = .ok (.iadd, 1) := by decide +kernel
theorem dX5_layReport_57 : decode cX5_layReport 57 = .ok (.iload_n 3, 1) := by decide +kernel
theorem dX5_layReport_58 : decode cX5_layReport 58 = .ok (.ifCond .ne 8, 3) := by decide +kernel
theorem dX5_layReport_61 : decode cX5_layReport 61 = .ok (.bipush 64, 2) := by decide +kernel
theorem dX5_layReport_63 : decode cX5_layReport 63 = .ok (.goto 25, 3) := by decide +kernel
theorem dX5_layReport_66 : decode cX5_layReport 66 = .ok (.iload_n 3, 1) := by decide +kernel
theorem dX5_layReport_67 : decode cX5_layReport 67 = .ok (.iconst 1, 1) := by decide +kernel
theorem dX5_layReport_68 : decode cX5_layReport 68 = .ok (.if_icmp .ne 8, 3) := by decide +kernel
theorem dX5_layReport_71 : decode cX5_layReport 71 = .ok (.bipush 103, 2) := by decide +kernel
theorem dX5_layReport_73 : decode cX5_layReport 73 = .ok (.goto 15, 3) := by decide +kernel
theorem dX5_layReport_76 : decode cX5_layReport 76 = .ok (.iload_n 3, 1) := by decide +kernel
theorem dX5_layReport_77 : decode cX5_layReport 77 = .ok (.iconst 2, 1) := by decide +kernel
theorem dX5_layReport_78 : decode cX5_layReport 78 = .ok (.if_icmp .ne 8, 3) := by decide +kernel
theorem dX5_layReport_81 : decode cX5_layReport 81 = .ok (.bipush 119, 2) := by decide +kernel
theorem dX5_layReport_83 : decode cX5_layReport 83 = .ok (.goto 5, 3) := by decide +kernel
theorem dX5_layReport_86 : decode cX5_layReport 86 = .ok (.bipush 120, 2) := by decide +kernel
theorem dX5_layReport_88 : decode cX5_layReport 88 = .ok (.iastore, 1) := by decide +kernel
theorem dX5_layReport_89 : decode cX5_layReport 89 = .ok (.iinc 1 2, 3) := by decide +kernel
theorem dX5_layReport_92 : decode cX5_layReport 92 = .ok (.iload_n 3, 1) := by decide +kernel
theorem dX5_layReport_93 : decode cX5_layReport 93 = .ok (.ifCond .ne 15, 3) := by decide +kernel
theorem dX5_layReport_96 : decode cX5_layReport 96 = .ok (.aload_n 0, 1) := by decide +kernel
theorem dX5_layReport_97 : decode cX5_layReport 97 = .ok (.getfield 16, 3) := by decide +kernel
theorem dX5_layReport_100 : decode cX5_layReport 100 = .ok (.bipush 72, 2) := by decide +kernel
theorem dX5_layReport_102 : decode cX5_layReport 102 = .ok (.iload_n 2, 1) := by decide +kernel
theorem dX5_layReport_103 : decode cX5_layReport 103 = .ok (.iadd, 1) := by decide +kernel
theorem dX5_layReport_104 : decode cX5_layReport 104 = .ok (.iaload, 1) := by decide +kernel
theorem dX5_layReport_105 : decode cX5_layReport 105 = .ok (.goto 22, 3) := by decide +kernel
theorem dX5_layReport_108 : decode cX5_layReport 108 = .ok (.iload_n 3, 1) := by decide +kernel
theorem dX5_layReport_109 : decode cX5_layReport 109 = .ok (.iconst 2, 1) := by decide +kernel
theorem dX5_layReport_110 : decode cX5_layReport 110 = .ok (.if_icmp .ne 15, 3) := by decide +kernel
theorem dX5_layReport_113 : decode cX5_layReport 113 = .ok (.aload_n 0, 1) := by decide +kernel
theorem dX5_layReport_114 : decode cX5_layReport 114 = .ok (.getfield 16, 3) := by decide +kernel
theorem dX5_layReport_117 : decode cX5_layReport 117 = .ok (.bipush 84, 2) := by decide +kernel
theorem dX5_layReport_119 : decode cX5_layReport 119 = .ok (.iload_n 2, 1) := by decide +kernel
theorem dX5_layReport_120 : decode cX5_layReport 120 = .ok (.iadd, 1) := by decide +kernel
theorem dX5_layReport_121 : decode cX5_layReport 121 = .ok (.iaload, 1) := by decide +kernel
theorem dX5_layReport_122 : decode cX5_layReport 122 = .ok (.goto 5, 3) := by decide +kernel
theorem dX5_layReport_125 : decode cX5_layReport 125 = .ok (.bipush (-9), 2) := by decide +kernel
theorem dX5_layReport_127 : decode cX5_layReport 127 = .ok (.istore 4, 2) := by decide +kernel
theorem dX5_layReport_129 : decode cX5_layReport 129 = .ok (.iload 4, 2) := by decide +kernel
theorem dX5_layReport_131 : decode cX5_layReport 131 = .ok (.bipush 9, 2) := by decide +kernel
theorem dX5_layReport_133 : decode cX5_layReport 133 = .ok (.if_icmp .le 20, 3) := by decide +kernel
theorem dX5_layReport_136 : decode cX5_layReport 136 = .ok (.aload_n 0, 1) := by decide +kernel
theorem dX5_layReport_137 : decode cX5_layReport 137 = .ok (.getfield 35, 3) := by decide +kernel
theorem dX5_layReport_140 : decode cX5_layReport 140 = .ok (.iload_n 1, 1) := by decide +kernel
theorem dX5_layReport_141 : decode cX5_layReport 141 = .ok (.bipush 48, 2) := by decide +kernel
theorem dX5_layReport_143 : decode cX5_layReport 143 = .ok (.iload 4, 2) := by decide +kernel
theorem dX5_layReport_145 : decode cX5_layReport 145 = .ok (.bipush 10, 2) := by decide +kernel
theorem dX5_layReport_147 : decode cX5_layReport 147 = .ok (.idiv, 1) := by decide +kernel
theorem dX5_layReport_148 : decode cX5_layReport 148 = .ok (.iadd, 1) := by decide +kernel
theorem dX5_layReport_149 : decode cX5_layReport 149 = .ok (.iastore, 1) := by decide +kernel
theorem dX5_layReport_150 : decode cX5_layReport 150 = .ok (.iinc 1 1, 3) := by decide +kernel
theorem dX5_layReport_153 : decode cX5_layReport 153 = .ok (.iload 4, 2) := by decide +kernel
theorem dX5_layReport_155 : decode cX5_layReport 155 = .ok (.ifCond .lt 20, 3) := by decide +kernel
theorem dX5_layReport_158 : decode cX5_layReport 158 = .ok (.aload_n 0, 1) := by decide +kernel
theorem dX5_layReport_159 : decode cX5_layReport 159 = .ok (.getfield 35, 3) := by decide +kernel
theorem dX5_layReport_162 : decode cX5_layReport 162 = .ok (.iload_n 1, 1) := by decide +kernel
theorem dX5_layReport_163 : decode cX5_layReport 163 = .ok (.bipush 48, 2) := by decide +kernel
theorem dX5_layReport_165 : decode cX5_layReport 165 = .ok (.iload 4, 2) := by decide +kernel
theorem dX5_layReport_167 : decode cX5_layReport 167 = .ok (.bipush 10, 2) := by decide +kernel
theorem dX5_layReport_169 : decode cX5_layReport 169 = .ok (.irem, 1) := by decide +kernel
theorem dX5_layReport_170 : decode cX5_layReport 170 = .ok (.iadd, 1) := by decide +kernel
theorem dX5_layReport_171 : decode cX5_layReport 171 = .ok (.iastore, 1) := by decide +kernel
theorem dX5_layReport_172 : decode cX5_layReport 172 = .ok (.iinc 1 1, 3) := by decide +kernel
theorem dX5_layReport_175 : decode cX5_layReport 175 = .ok (.iinc 2 1, 3) := by decide +kernel
theorem dX5_layReport_178 : decode cX5_layReport 178 = .ok (.goto (-174), 3) := by decide +kernel
theorem dX5_layReport_181 : decode cX5_layReport 181 = .ok (.iload_n 1, 1) := by decide +kernel
theorem dX5_layReport_182 : decode cX5_layReport 182 = .ok (.ireturn, 1) := by decide +kernel
set_option maxRecDepth 20000 in
theorem ggX5_report_X5_refused : GoodIn wsX5_report wsX5_refused := goodIn_r _ [6, 7, 13, 14, 15, 16, 17, 18, 19, 20, 21, 22, 23, 24, 25, 26, 27] (by decide +kernel) (by decide +kernel)
set_option maxRecDepth 20000 in
theorem gX5_report_X5_refused : GoodIn wsX5_report (wsV RX5 97 RX5 yX5_refused wsX5_refused) := goodIn_app (goodIn_of _ (by decide +kernel)) ggX5_report_X5_refused
set_option maxRecDepth 20000 in
theorem ggX5_report_X5_layReport : GoodIn wsX5_report wsX5_layReport := goodIn_r _ [11, 12, 1, 13, 14, 15, 16, 17, 18, 19, 20, 21, 22, 23, 24, 25, 26, 27] (by decide +kernel) (by decide +kernel)
set_option maxRecDepth 20000 in
theorem gX5_report_X5_layReport : GoodIn wsX5_report (wsV RX5 149 RX5 yX5_layReport wsX5_layReport) := goodIn_app (goodIn_of _ (by decide +kernel)) ggX5_report_X5_layReport
theorem dX5_report_0 : decode cX5_report 0 = .ok (.aload_n 0, 1) := by decide +kernel
theorem dX5_report_1 : decode cX5_report 1 = .ok (.iload_n 1, 1) := by decide +kernel
theorem dX5_report_2 : decode cX5_report 2 = .ok (.ifCond .ge 7, 3) := by decide +kernel
theorem dX5_report_5 : decode cX5_report 5 = .ok (.iconst 1, 1) := by decide +kernel
theorem dX5_report_6 : decode cX5_report 6 = .ok (.goto 4, 3) := by decide +kernel
theorem dX5_report_9 : decode cX5_report 9 = .ok (.iconst 0, 1) := by decide +kernel
theorem dX5_report_10 : decode cX5_report 10 = .ok (.invokevirtual 97, 3) := by decide +kernel
