set_option maxRecDepth 20000 in
theorem ggX0_init_X0_clear : GoodIn wsX0_init wsX0_clear := goodIn_r _ [19, 10, 20, 21, 22, 23, 24, 25, 26, 27, 28, 29, 30, 31, 32, 33, 34, 35] (by decide +kernel) (by decide +kernel)
set_option maxRecDepth 20000 in
theorem gX0_init_X0_clear : GoodIn wsX0_init (wsV RX0 39 RX0 yX0_clear wsX0_clear) := goodIn_app (goodIn_of _ (by decide +kernel)) ggX0_init_X0_clear
theorem dX0_init_0 : decode cX0_init 0 = .ok (.aload_n 0, 1) := by decide +kernel
theorem dX0_init_1 : decode cX0_init 1 = .ok (.invokespecial 3, 3) := by decide +kernel
theorem dX0_init_4 : decode cX0_init 4 = .ok (.aload_n 0, 1) := by decide +kernel
theorem dX0_init_5 : decode cX0_init 5 = .ok (.bipush 12, 2) := by decide +kernel
theorem dX0_init_7 : decode cX0_init 7 = .ok (.newarray .int, 2) := by decide +kernel
theorem dX0_init_9 : decode cX0_init 9 = .ok (.putfield 9, 3) := by decide +kernel
theorem dX0_init_12 : decode cX0_init 12 = .ok (.aload_n 0, 1) := by decide +kernel
theorem dX0_init_13 : decode cX0_init 13 = .ok (.bipush 12, 2) := by decide +kernel
theorem dX0_init_15 : decode cX0_init 15 = .ok (.newarray .int, 2) := by decide +kernel
theorem dX0_init_17 : decode cX0_init 17 = .ok (.putfield 15, 3) := by decide +kernel
theorem dX0_init_20 : decode cX0_init 20 = .ok (.aload_n 0, 1) := by decide +kernel
theorem dX0_init_21 : decode cX0_init 21 = .ok (.bipush 12, 2) := by decide +kernel
theorem dX0_init_23 : decode cX0_init 23 = .ok (.newarray .int, 2) := by decide +kernel
theorem dX0_init_25 : decode cX0_init 25 = .ok (.putfield 18, 3) := by decide +kernel
theorem dX0_init_28 : decode cX0_init 28 = .ok (.aload_n 0, 1) := by decide +kernel
theorem dX0_init_29 : decode cX0_init 29 = .ok (.bipush 12, 2) := by decide +kernel
theorem dX0_init_31 : decode cX0_init 31 = .ok (.newarray .int, 2) := by decide +kernel
theorem dX0_init_33 : decode cX0_init 33 = .ok (.putfield 21, 3) := by decide +kernel
theorem dX0_init_36 : decode cX0_init 36 = .ok (.aload_n 0, 1) := by decide +kernel
theorem dX0_init_37 : decode cX0_init 37 = .ok (.bipush 12, 2) := by decide +kernel
theorem dX0_init_39 : decode cX0_init 39 = .ok (.newarray .int, 2) := by decide +kernel
theorem dX0_init_41 : decode cX0_init 41 = .ok (.putfield 24, 3) := by decide +kernel
theorem dX0_init_44 : decode cX0_init 44 = .ok (.aload_n 0, 1) := by decide +kernel
theorem dX0_init_45 : decode cX0_init 45 = .ok (.bipush 12, 2) := by decide +kernel
theorem dX0_init_47 : decode cX0_init 47 = .ok (.newarray .int, 2) := by decide +kernel
theorem dX0_init_49 : decode cX0_init 49 = .ok (.putfield 27, 3) := by decide +kernel
theorem dX0_init_52 : decode cX0_init 52 = .ok (.aload_n 0, 1) := by decide +kernel
theorem dX0_init_53 : decode cX0_init 53 = .ok (.bipush 12, 2) := by decide +kernel
theorem dX0_init_55 : decode cX0_init 55 = .ok (.newarray .int, 2) := by decide +kernel
theorem dX0_init_57 : decode cX0_init 57 = .ok (.putfield 30, 3) := by decide +kernel
theorem dX0_init_60 : decode cX0_init 60 = .ok (.aload_n 0, 1) := by decide +kernel
theorem dX0_init_61 : decode cX0_init 61 = .ok (.bipush 12, 2) := by decide +kernel
theorem dX0_init_63 : decode cX0_init 63 = .ok (.newarray .int, 2) := by decide +kernel
theorem dX0_init_65 : decode cX0_init 65 = .ok (.putfield 33, 3) := by decide +kernel
theorem dX0_init_68 : decode cX0_init 68 = .ok (.aload_n 0, 1) := by decide +kernel
theorem dX0_init_69 : decode cX0_init 69 = .ok (.iconst 5, 1) := by decide +kernel
theorem dX0_init_70 : decode cX0_init 70 = .ok (.newarray .int, 2) := by decide +kernel
theorem dX0_init_72 : decode cX0_init 72 = .ok (.putfield 36, 3) := by decide +kernel
theorem dX0_init_75 : decode cX0_init 75 = .ok (.aload_n 0, 1) := by decide +kernel
theorem dX0_init_76 : decode cX0_init 76 = .ok (.invokevirtual 39, 3) := by decide +kernel
theorem dX0_init_79 : decode cX0_init 79 = .ok (.aload_n 0, 1) := by decide +kernel
theorem dX0_init_80 : decode cX0_init 80 = .ok (.bipush 8, 2) := by decide +kernel
theorem dX0_init_82 : decode cX0_init 82 = .ok (.putfield 42, 3) := by decide +kernel
theorem dX0_init_85 : decode cX0_init 85 = .ok (.aload_n 0, 1) := by decide +kernel
theorem dX0_init_86 : decode cX0_init 86 = .ok (.getfield 36, 3) := by decide +kernel
theorem dX0_init_89 : decode cX0_init 89 = .ok (.iconst 0, 1) := by decide +kernel
theorem dX0_init_90 : decode cX0_init 90 = .ok (.bipush 10, 2) := by decide +kernel
theorem dX0_init_92 : decode cX0_init 92 = .ok (.iastore, 1) := by decide +kernel
theorem dX0_init_93 : decode cX0_init 93 = .ok (.aload_n 0, 1) := by decide +kernel
theorem dX0_init_94 : decode cX0_init 94 = .ok (.getfield 36, 3) := by decide +kernel
theorem dX0_init_97 : decode cX0_init 97 = .ok (.iconst 1, 1) := by decide +kernel
theorem dX0_init_98 : decode cX0_init 98 = .ok (.bipush 20, 2) := by decide +kernel
theorem dX0_init_100 : decode cX0_init 100 = .ok (.iastore, 1) := by decide +kernel
theorem dX0_init_101 : decode cX0_init 101 = .ok (.aload_n 0, 1) := by decide +kernel
theorem dX0_init_102 : decode cX0_init 102 = .ok (.getfield 36, 3) := by decide +kernel
theorem dX0_init_105 : decode cX0_init 105 = .ok (.iconst 2, 1) := by decide +kernel
theorem dX0_init_106 : decode cX0_init 106 = .ok (.iconst 4, 1) := by decide +kernel
theorem dX0_init_107 : decode cX0_init 107 = .ok (.iastore, 1) := by decide +kernel
theorem dX0_init_108 : decode cX0_init 108 = .ok (.aload_n 0, 1) := by decide +kernel
theorem dX0_init_109 : decode cX0_init 109 = .ok (.getfield 36, 3) := by decide +kernel
theorem dX0_init_112 : decode cX0_init 112 = .ok (.iconst 3, 1) := by decide +kernel
theorem dX0_init_113 : decode cX0_init 113 = .ok (.iconst 2, 1) := by decide +kernel
theorem dX0_init_114 : decode cX0_init 114 = .ok (.iastore, 1) := by decide +kernel
theorem dX0_init_115 : decode cX0_init 115 = .ok (.aload_n 0, 1) := by decide +kernel
theorem dX0_init_116 : decode cX0_init 116 = .ok (.getfield 36, 3) := by decide +kernel
theorem dX0_init_119 : decode cX0_init 119 = .ok (.iconst 4, 1) := by decide +kernel
theorem dX0_init_120 : decode cX0_init 120 = .ok (.iconst 3, 1) := by decide +kernel
theorem dX0_init_121 : decode cX0_init 121 = .ok (.iastore, 1) := by decide +kernel
theorem dX0_init_122 : decode cX0_init 122 = .ok (.return_, 1) := by decide +kernel
theorem dX0_clear_0 : decode cX0_clear 0 = .ok (.iconst 0, 1) := by decide +kernel
theorem dX0_clear_1 : decode cX0_clear 1 = .ok (.istore_n 1, 1) := by decide +kernel
theorem dX0_clear_2 : decode cX0_clear 2 = .ok (.iload_n 1, 1) := by decide +kernel
theorem dX0_clear_3 : decode cX0_clear 3 = .ok (.bipush 12, 2) := by decide +kernel
theorem dX0_clear_5 : decode cX0_clear 5 = .ok (.if_icmp .ge 16, 3) := by decide +kernel
theorem dX0_clear_8 : decode cX0_clear 8 = .ok (.aload_n 0, 1) := by decide +kernel
theorem dX0_clear_9 : decode cX0_clear 9 = .ok (.getfield 27, 3) := by decide +kernel
theorem dX0_clear_12 : decode cX0_clear 12 = .ok (.iload_n 1, 1) := by decide +kernel
theorem dX0_clear_13 : decode cX0_clear 13 = .ok (.iconst (-1), 1) := by decide +kernel
theorem dX0_clear_14 : decode cX0_clear 14 = .ok (.iastore, 1) := by decide +kernel
theorem dX0_clear_15 : decode cX0_clear 15 = .ok (.iinc 1 1, 3) := by decide +kernel
theorem dX0_clear_18 : decode cX0_clear 18 = .ok (.goto (-16), 3) := by decide +kernel
theorem dX0_clear_21 : decode cX0_clear 21 = .ok (.aload_n 0, 1) := by decide +kernel
theorem dX0_clear_22 : decode cX0_clear 22 = .ok (.iconst 0, 1) := by decide +kernel
theorem dX0_clear_23 : decode cX0_clear 23 = .ok (.putfield 46, 3) := by decide +kernel
theorem dX0_clear_26 : decode cX0_clear 26 = .ok (.aload_n 0, 1) := by decide +kernel
theorem dX0_clear_27 : decode cX0_clear 27 = .ok (.iconst 0, 1) := by decide +kernel
theorem dX0_clear_28 : decode cX0_clear 28 = .ok (.putfield 49, 3) := by decide +kernel
theorem dX0_clear_31 : decode cX0_clear 31 = .ok (.aload_n 0, 1) := by decide +kernel
theorem dX0_clear_32 : decode cX0_clear 32 = .ok (.lconst 0, 1) := by decide +kernel
theorem dX0_clear_33 : decode cX0_clear 33 = .ok (.putfield 52, 3) := by decide +kernel
theorem dX0_clear_36 : decode cX0_clear 36 = .ok (.return_, 1) := by decide +kernel
theorem dX0_become_0 : decode cX0_become 0 = .ok (.aload_n 1, 1) := by decide +kernel
theorem dX0_become_1 : decode cX0_become 1 = .ok (.getfield 9, 3) := by decide +kernel
theorem dX0_become_4 : decode cX0_become 4 = .ok (.iconst 0, 1) := by decide +kernel
theorem dX0_become_5 : decode cX0_become 5 = .ok (.aload_n 0, 1) := by decide +kernel
theorem dX0_become_6 : decode cX0_become 6 = .ok (.getfield 9, 3) := by decide +kernel
theorem dX0_become_9 : decode cX0_become 9 = .ok (.iconst 0, 1) := by decide +kernel
theorem dX0_become_10 : decode cX0_become 10 = .ok (.bipush 12, 2) := by decide +kernel
theorem dX0_become_12 : decode cX0_become 12 = .ok (.invokestatic 56, 3) := by decide +kernel
theorem dX0_become_15 : decode cX0_become 15 = .ok (.aload_n 1, 1) := by decide +kernel
theorem dX0_become_16 : decode cX0_become 16 = .ok (.getfield 15, 3) := by decide +kernel
theorem dX0_become_19 : decode cX0_become 19 = .ok (.iconst 0, 1) := by decide +kernel
theorem dX0_become_20 : decode cX0_become 20 = .ok (.aload_n 0, 1) := by decide +kernel
theorem dX0_become_21 : decode cX0_become 21 = .ok (.getfield 15, 3) := by decide +kernel
theorem dX0_become_24 : decode cX0_become 24 = .ok (.iconst 0, 1) := by decide +kernel
theorem dX0_become_25 : decode cX0_become 25 = .ok (.bipush 12, 2) := by decide +kernel
theorem dX0_become_27 : decode cX0_become 27 = .ok (.invokestatic 56, 3) := by decide +kernel
theorem dX0_become_30 : decode cX0_become 30 = .ok (.aload_n 1, 1) := by decide +kernel
theorem dX0_become_31 : decode cX0_become 31 = .ok (.getfield 18, 3) := by decide +kernel
theorem dX0_become_34 : decode cX0_become 34 = .ok (.iconst 0, 1) := by decide +kernel
theorem dX0_become_35 : decode cX0_become 35 = .ok (.aload_n 0, 1) := by decide +kernel
theorem dX0_become_36 : decode cX0_become 36 = .ok (.getfield 18, 3) := by decide +kernel
theorem dX0_become_39 : decode cX0_become 39 = .ok (.iconst 0, 1) := by decide +kernel
theorem dX0_become_40 : decode cX0_become 40 = .ok (.bipush 12, 2) := by decide +kernel
theorem dX0_become_42 : decode cX0_become 42 = .ok (.invokestatic 56, 3) := by decide +kernel
theorem dX0_become_45 : decode cX0_become 45 = .ok (.aload_n 1, 1) := by decide +kernel
theorem dX0_become_46 : decode cX0_become 46 = .ok (.getfield 21, 3) := by decide +kernel
theorem dX0_become_49 : decode cX0_become 49 = .ok (.iconst 0, 1) := by decide +kernel
theorem dX0_become_50 : decode cX0_become 50 = .ok (.aload_n 0, 1) := by decide +kernel
theorem dX0_become_51 : decode cX0_become 51 = .ok (.getfield 21, 3) := by decide +kernel
theorem dX0_become_54 : decode cX0_become 54 = .ok (.iconst 0, 1) := by decide +kernel
theorem dX0_become_55 : decode cX0_become 55 = .ok (.bipush 12, 2) := by decide +kernel
theorem dX0_become_57 : decode cX0_become 57 = .ok (.invokestatic 56, 3) := by decide +kernel
theorem dX0_become_60 : decode cX0_become 60 = .ok (.aload_n 1, 1) := by decide +kernel
theorem dX0_become_61 : decode cX0_become 61 = .ok (.getfield 24, 3) := by decide +kernel
theorem dX0_become_64 : decode cX0_become 64 = .ok (.iconst 0, 1) := by decide +kernel
theorem dX0_become_65 : decode cX0_become 65 = .ok (.aload_n 0, 1) := by decide +kernel
theorem dX0_become_66 : decode cX0_become 66 = .ok (.getfield 24, 3) := by decide +kernel
theorem dX0_become_69 : decode cX0_become 69 = .ok (.iconst 0, 1) := by decide +kernel
theorem dX0_become_70 : decode cX0_become 70 = .ok (.bipush 12, 2) := by decide +kernel
theorem dX0_become_72 : decode cX0_become 72 = .ok (.invokestatic 56, 3) := by decide +kernel
theorem dX0_become_75 : decode cX0_become 75 = .ok (.aload_n 1, 1) := by decide +kernel
theorem dX0_become_76 : decode cX0_become 76 = .ok (.getfield 27, 3) := by decide +kernel
theorem dX0_become_79 : decode cX0_become 79 = .ok (.iconst 0, 1) := by decide +kernel
theorem dX0_become_80 : decode cX0_become 80 = .ok (.aload_n 0, 1) := by decide +kernel
theorem dX0_become_81 : decode cX0_become 81 = .ok (.getfield 27, 3) := by decide +kernel
theorem dX0_become_84 : decode cX0_become 84 = .ok (.iconst 0, 1) := by decide +kernel
theorem dX0_become_85 : decode cX0_become 85 = .ok (.bipush 12, 2) := by decide +kernel
theorem dX0_become_87 : decode cX0_become 87 = .ok (.invokestatic 56, 3) := by decide +kernel
theorem dX0_become_90 : decode cX0_become 90 = .ok (.aload_n 1, 1) := by decide +kernel
theorem dX0_become_91 : decode cX0_become 91 = .ok (.getfield 30, 3) := by decide +kernel
theorem dX0_become_94 : decode cX0_become 94 = .ok (.iconst 0, 1) := by decide +kernel
theorem dX0_become_95 : decode cX0_become 95 = .ok (.aload_n 0, 1) := by decide +kernel
theorem dX0_become_96 : decode cX0_become 96 = .ok (.getfield 30, 3) := by decide +kernel
theorem dX0_become_99 : decode cX0_become 99 = .ok (.iconst 0, 1) := by decide +kernel
theorem dX0_become_100 : decode cX0_become 100 = .ok (.bipush 12, 2) := by decide +kernel
theorem dX0_become_102 : decode cX0_become 102 = .ok (.invokestatic 56, 3) := by decide +kernel
theorem dX0_become_105 : decode cX0_become 105 = .ok (.aload_n 1, 1) := by decide +kernel
theorem dX0_become_106 : decode cX0_become 106 = .ok (.getfield 33, 3) := by decide +kernel
theorem dX0_become_109 : decode cX0_become 109 = .ok (.iconst 0, 1) := by decide +kernel
theorem dX0_become_110 : decode cX0_become 110 = .ok (.aload_n 0, 1) := by decide +kernel
theorem dX0_become_111 : decode cX0_become 111 = .ok (.getfield 33, 3) := by decide +kernel
theorem dX0_become_114 : decode cX0_become 114 = .ok (.iconst 0, 1) := by decide +kernel
theorem dX0_become_115 : decode cX0_become 115 = .ok (.bipush 12, 2) := by decide +kernel
theorem dX0_become_117 : decode cX0_become 117 = .ok (.invokestatic 56, 3) := by decide +kernel
theorem dX0_become_120 : decode cX0_become 120 = .ok (.aload_n 1, 1) := by decide +kernel
theorem dX0_become_121 : decode cX0_become 121 = .ok (.getfield 36, 3) := by decide +kernel
theorem dX0_become_124 : decode cX0_become 124 = .ok (.iconst 0, 1) := by decide +kernel
theorem dX0_become_125 : decode cX0_become 125 = .ok (.aload_n 0, 1) := by decide +kernel
theorem dX0_become_126 : decode cX0_become 126 = .ok (.getfield 36, 3) := by decide +kernel
theorem dX0_become_129 : decode cX0_become 129 = .ok (.iconst 0, 1) := by decide +kernel
theorem dX0_become_130 : decode cX0_become 130 = .ok (.iconst 5, 1) := by decide +kernel
theorem dX0_become_131 : decode cX0_become 131 = .ok (.invokestatic 56, 3) := by decide +kernel
theorem dX0_become_134 : decode cX0_become 134 = .ok (.aload_n 0, 1) := by decide +kernel
theorem dX0_become_135 : decode cX0_become 135 = .ok (.aload_n 1, 1) := by decide +kernel
theorem dX0_become_136 : decode cX0_become 136 = .ok (.getfield 42, 3) := by decide +kernel
theorem dX0_become_139 : decode cX0_become 139 = .ok (.putfield 42, 3) := by decide +kernel
theorem dX0_become_142 : decode cX0_become 142 = .ok (.aload_n 0, 1) := by decide +kernel
theorem dX0_become_143 : decode cX0_become 143 = .ok (.aload_n 1, 1) := by decide +kernel
theorem dX0_become_144 : decode cX0_become 144 = .ok (.getfield 46, 3) := by decide +kernel
theorem dX0_become_147 : decode cX0_become 147 = .ok (.putfield 46, 3) := by decide +kernel
theorem dX0_become_150 : decode cX0_become 150 = .ok (.aload_n 0, 1) := by decide +kernel
theorem dX0_become_151 : decode cX0_become 151 = .ok (.aload_n 1, 1) := by decide +kernel
theorem dX0_become_152 : decode cX0_become 152 = .ok (.getfield 49, 3) := by decide +kernel
theorem dX0_become_155 : decode cX0_become 155 = .ok (.putfield 49, 3) := by decide +kernel
theorem dX0_become_158 : decode cX0_become 158 = .ok (.aload_n 0, 1) := by decide +kernel
theorem dX0_become_159 : decode cX0_become 159 = .ok (.aload_n 1, 1) := by decide +kernel
theorem dX0_become_160 : decode cX0_become 160 = .ok (.getfield 52, 3) := by decide +kernel
theorem dX0_become_163 : decode cX0_become 163 = .ok (.putfield 52, 3) := by decide +kernel
theorem dX0_become_166 : decode cX0_become 166 = .ok (.return_, 1) := by decide +kernel
theorem dX0_has_0 : decode cX0_has 0 = .ok (.iload_n 1, 1) := by decide +kernel
theorem dX0_has_1 : decode cX0_has 1 = .ok (.ifCond .lt 23, 3) := by decide +kernel
theorem dX0_has_4 : decode cX0_has 4 = .ok (.iload_n 1, 1) := by decide +kernel
theorem dX0_has_5 : decode cX0_has 5 = .ok (.bipush 12, 2) := by decide +kernel
theorem dX0_has_7 : decode cX0_has 7 = .ok (.if_icmp .ge 17, 3) := by decide +kernel
theorem dX0_has_10 : decode cX0_has 10 = .ok (.aload_n 0, 1) := by decide +kernel
theorem dX0_has_11 : decode cX0_has 11 = .ok (.getfield 27, 3) := by decide +kernel
theorem dX0_has_14 : decode cX0_has 14 = .ok (.iload_n 1, 1) := by decide +kernel
theorem dX0_has_15 : decode cX0_has 15 = .ok (.iaload, 1) := by decide +kernel
theorem dX0_has_16 : decode cX0_has 16 = .ok (.iconst (-1), 1) := by decide +kernel
theorem dX0_has_17 : decode cX0_has 17 = .ok (.if_icmp .eq 7, 3) := by decide +kernel
theorem dX0_has_20 : decode cX0_has 20 = .ok (.iconst 1, 1) := by decide +kernel
theorem dX0_has_21 : decode cX0_has 21 = .ok (.goto 4, 3) := by decide +kernel
theorem dX0_has_24 : decode cX0_has 24 = .ok (.iconst 0, 1) := by decide +kernel
theorem dX0_has_25 : decode cX0_has 25 = .ok (.ireturn, 1) := by decide +kernel
theorem dX0_hasSlot_0 : decode cX0_hasSlot 0 = .ok (.iload_n 1, 1) := by decide +kernel
theorem dX0_hasSlot_1 : decode cX0_hasSlot 1 = .ok (.ifCond .lt 15, 3) := by decide +kernel
theorem dX0_hasSlot_4 : decode cX0_hasSlot 4 = .ok (.iload_n 1, 1) := by decide +kernel
theorem dX0_hasSlot_5 : decode cX0_hasSlot 5 = .ok (.aload_n 0, 1) := by decide +kernel
theorem dX0_hasSlot_6 : decode cX0_hasSlot 6 = .ok (.getfield 42, 3) := by decide +kernel
theorem dX0_hasSlot_9 : decode cX0_hasSlot 9 = .ok (.if_icmp .ge 7, 3) := by decide +kernel
theorem dX0_hasSlot_12 : decode cX0_hasSlot 12 = .ok (.iconst 1, 1) := by decide +kernel
theorem dX0_hasSlot_13 : decode cX0_hasSlot 13 = .ok (.goto 4, 3) := by decide +kernel
theorem dX0_hasSlot_16 : decode cX0_hasSlot 16 = .ok (.iconst 0, 1) := by decide +kernel
theorem dX0_hasSlot_17 : decode cX0_hasSlot 17 = .ok (.ireturn, 1) := by decide +kernel
theorem dX0_isIn_0 : decode cX0_isIn 0 = .ok (.aload_n 0, 1) := by decide +kernel
theorem dX0_isIn_1 : decode cX0_isIn 1 = .ok (.getfield 27, 3) := by decide +kernel
theorem dX0_isIn_4 : decode cX0_isIn 4 = .ok (.iload_n 1, 1) := by decide +kernel
theorem dX0_isIn_5 : decode cX0_isIn 5 = .ok (.iaload, 1) := by decide +kernel
theorem dX0_isIn_6 : decode cX0_isIn 6 = .ok (.iload_n 2, 1) := by decide +kernel
theorem dX0_isIn_7 : decode cX0_isIn 7 = .ok (.if_icmp .ne 7, 3) := by decide +kernel
theorem dX0_isIn_10 : decode cX0_isIn 10 = .ok (.iconst 1, 1) := by decide +kernel
theorem dX0_isIn_11 : decode cX0_isIn 11 = .ok (.goto 4, 3) := by decide +kernel
theorem dX0_isIn_14 : decode cX0_isIn 14 = .ok (.iconst 0, 1) := by decide +kernel
theorem dX0_isIn_15 : decode cX0_isIn 15 = .ok (.ireturn, 1) := by decide +kernel
theorem dX0_count_0 : decode cX0_count 0 = .ok (.iconst 0, 1) := by decide +kernel
theorem dX0_count_1 : decode cX0_count 1 = .ok (.istore_n 2, 1) := by decide +kernel
theorem dX0_count_2 : decode cX0_count 2 = .ok (.iconst 0, 1) := by decide +kernel
theorem dX0_count_3 : decode cX0_count 3 = .ok (.istore_n 3, 1) := by decide +kernel
theorem dX0_count_4 : decode cX0_count 4 = .ok (.iload_n 3, 1) := by decide +kernel
theorem dX0_count_5 : decode cX0_count 5 = .ok (.bipush 12, 2) := by decide +kernel
theorem dX0_count_7 : decode cX0_count 7 = .ok (.if_icmp .ge 22, 3) := by decide +kernel
theorem dX0_count_10 : decode cX0_count 10 = .ok (.aload_n 0, 1) := by decide +kernel
theorem dX0_count_11 : decode cX0_count 11 = .ok (.getfield 27, 3) := by decide +kernel
theorem dX0_count_14 : decode cX0_count 14 = .ok (.iload_n 3, 1) := by decide +kernel
theorem dX0_count_15 : decode cX0_count 15 = .ok (.iaload, 1) := by decide +kernel
theorem dX0_count_16 : decode cX0_count 16 = .ok (.iload_n 1, 1) := by decide +kernel
theorem dX0_count_17 : decode cX0_count 17 = .ok (.if_icmp .ne 6, 3) := by decide +kernel
theorem dX0_count_20 : decode cX0_count 20 = .ok (.iinc 2 1, 3) := by decide +kernel
theorem dX0_count_23 : decode cX0_count 23 = .ok (.iinc 3 1, 3) := by decide +kernel
theorem dX0_count_26 : decode cX0_count 26 = .ok (.goto (-22), 3) := by decide +kernel
theorem dX0_count_29 : decode cX0_count 29 = .ok (.iload_n 2, 1) := by decide +kernel
theorem dX0_count_30 : decode cX0_count 30 = .ok (.ireturn, 1) := by decide +kernel
set_option maxRecDepth 20000 in
theorem ggX0_grips_X0_count : GoodIn wsX0_grips wsX0_count := goodIn_r _ [5, 6, 7, 8, 9, 10, 11, 12, 13, 14, 15, 16, 17, 18, 19] (by decide +kernel) (by decide +kernel)
set_option maxRecDepth 20000 in
theorem gX0_grips_X0_count : GoodIn wsX0_grips (wsV RX0 62 RX0 yX0_count wsX0_count) := goodIn_app (goodIn_of _ (by decide +kernel)) ggX0_grips_X0_count
theorem dX0_grips_0 : decode cX0_grips 0 = .ok (.bipush 12, 2) := by decide +kernel
theorem dX0_grips_2 : decode cX0_grips 2 = .ok (.aload_n 0, 1) := by decide +kernel
theorem dX0_grips_3 : decode cX0_grips 3 = .ok (.iconst (-1), 1) := by decide +kernel
theorem dX0_grips_4 : decode cX0_grips 4 = .ok (.invokevirtual 62, 3) := by decide +kernel
theorem dX0_grips_7 : decode cX0_grips 7 = .ok (.isub, 1) := by decide +kernel
theorem dX0_grips_8 : decode cX0_grips 8 = .ok (.ireturn, 1) := by decide +kernel
set_option maxRecDepth 20000 in
theorem ggX0_isFull_X0_count : GoodIn wsX0_isFull wsX0_count := goodIn_r _ [5, 6, 7, 8, 9, 10, 11, 12, 13, 14, 15, 16, 17, 18, 19] (by decide +kernel) (by decide +kernel)
set_option maxRecDepth 20000 in
theorem gX0_isFull_X0_count : GoodIn wsX0_isFull (wsV RX0 62 RX0 yX0_count wsX0_count) := goodIn_app (goodIn_of _ (by decide +kernel)) ggX0_isFull_X0_count
theorem dX0_isFull_0 : decode cX0_isFull 0 = .ok (.aload_n 0, 1) := by decide +kernel
theorem dX0_isFull_1 : decode cX0_isFull 1 = .ok (.iconst (-1), 1) := by decide +kernel
theorem dX0_isFull_2 : decode cX0_isFull 2 = .ok (.invokevirtual 62, 3) := by decide +kernel
theorem dX0_isFull_5 : decode cX0_isFull 5 = .ok (.ifCond .ne 7, 3) := by decide +kernel
theorem dX0_isFull_8 : decode cX0_isFull 8 = .ok (.iconst 1, 1) := by decide +kernel
theorem dX0_isFull_9 : decode cX0_isFull 9 = .ok (.goto 4, 3) := by decide +kernel
theorem dX0_isFull_12 : decode cX0_isFull 12 = .ok (.iconst 0, 1) := by decide +kernel
theorem dX0_isFull_13 : decode cX0_isFull 13 = .ok (.ireturn, 1) := by decide +kernel
theorem dX0_gripAt_0 : decode cX0_gripAt 0 = .ok (.iconst 0, 1) := by decide +kernel
theorem dX0_gripAt_1 : decode cX0_gripAt 1 = .ok (.istore_n 2, 1) := by decide +kernel
theorem dX0_gripAt_2 : decode cX0_gripAt 2 = .ok (.iload_n 2, 1) := by decide +kernel
theorem dX0_gripAt_3 : decode cX0_gripAt 3 = .ok (.bipush 12, 2) := by decide +kernel
theorem dX0_gripAt_5 : decode cX0_gripAt 5 = .ok (.if_icmp .ge 30, 3) := by decide +kernel
theorem dX0_gripAt_8 : decode cX0_gripAt 8 = .ok (.aload_n 0, 1) := by decide +kernel
theorem dX0_gripAt_9 : decode cX0_gripAt 9 = .ok (.getfield 27, 3) := by decide +kernel
theorem dX0_gripAt_12 : decode cX0_gripAt 12 = .ok (.iload_n 2, 1) := by decide +kernel
theorem dX0_gripAt_13 : decode cX0_gripAt 13 = .ok (.iaload, 1) := by decide +kernel
theorem dX0_gripAt_14 : decode cX0_gripAt 14 = .ok (.ifCond .ne 15, 3) := by decide +kernel
theorem dX0_gripAt_17 : decode cX0_gripAt 17 = .ok (.aload_n 0, 1) := by decide +kernel
theorem dX0_gripAt_18 : decode cX0_gripAt 18 = .ok (.getfield 30, 3) := by decide +kernel
theorem dX0_gripAt_21 : decode cX0_gripAt 21 = .ok (.iload_n 2, 1) := by decide +kernel
theorem dX0_gripAt_22 : decode cX0_gripAt 22 = .ok (.iaload, 1) := by decide +kernel
theorem dX0_gripAt_23 : decode cX0_gripAt 23 = .ok (.iload_n 1, 1) := by decide +kernel
theorem dX0_gripAt_24 : decode cX0_gripAt 24 = .ok (.if_icmp .ne 5, 3) := by decide +kernel
theorem dX0_gripAt_27 : decode cX0_gripAt 27 = .ok (.iload_n 2, 1) := by decide +kernel
theorem dX0_gripAt_28 : decode cX0_gripAt 28 = .ok (.ireturn, 1) := by decide +kernel
theorem dX0_gripAt_29 : decode cX0_gripAt 29 = .ok (.iinc 2 1, 3) := by decide +kernel
theorem dX0_gripAt_32 : decode cX0_gripAt 32 = .ok (.goto (-30), 3) := by decide +kernel
theorem dX0_gripAt_35 : decode cX0_gripAt 35 = .ok (.bipush (-9), 2) := by decide +kernel
theorem dX0_gripAt_37 : decode cX0_gripAt 37 = .ok (.ireturn, 1) := by decide +kernel
theorem dX0_number_0 : decode cX0_number 0 = .ok (.iload_n 2, 1) := by decide +kernel
theorem dX0_number_1 : decode cX0_number 1 = .ok (.tableswitch 106 0 6 #[43, 50, 57, 64, 71, 78, 85], 43) := by decide +kernel
theorem dX0_number_44 : decode cX0_number 44 = .ok (.aload_n 0, 1) := by decide +kernel
theorem dX0_number_45 : decode cX0_number 45 = .ok (.getfield 9, 3) := by decide +kernel
theorem dX0_number_48 : decode cX0_number 48 = .ok (.iload_n 1, 1) := by decide +kernel
theorem dX0_number_49 : decode cX0_number 49 = .ok (.iaload, 1) := by decide +kernel
theorem dX0_number_50 : decode cX0_number 50 = .ok (.ireturn, 1) := by decide +kernel
theorem dX0_number_51 : decode cX0_number 51 = .ok (.aload_n 0, 1) := by decide +kernel
theorem dX0_number_52 : decode cX0_number 52 = .ok (.getfield 15, 3) := by decide +kernel
theorem dX0_number_55 : decode cX0_number 55 = .ok (.iload_n 1, 1) := by decide +kernel
theorem dX0_number_56 : decode cX0_number 56 = .ok (.iaload, 1) := by decide +kernel
theorem dX0_number_57 : decode cX0_number 57 = .ok (.ireturn, 1) := by decide +kernel
theorem dX0_number_58 : decode cX0_number 58 = .ok (.aload_n 0, 1) := by decide +kernel
theorem dX0_number_59 : decode cX0_number 59 = .ok (.getfield 18, 3) := by decide +kernel
theorem dX0_number_62 : decode cX0_number 62 = .ok (.iload_n 1, 1) := by decide +kernel
theorem dX0_number_63 : decode cX0_number 63 = .ok (.iaload, 1) := by decide +kernel
theorem dX0_number_64 : decode cX0_number 64 = .ok (.ireturn, 1) := by decide +kernel
theorem dX0_number_65 : decode cX0_number 65 = .ok (.aload_n 0, 1) := by decide +kernel
theorem dX0_number_66 : decode cX0_number 66 = .ok (.getfield 21, 3) := by decide +kernel
theorem dX0_number_69 : decode cX0_number 69 = .ok (.iload_n 1, 1) := by decide +kernel
theorem dX0_number_70 : decode cX0_number 70 = .ok (.iaload, 1) := by decide +kernel
theorem dX0_number_71 : decode cX0_number 71 = .ok (.ireturn, 1) := by decide +kernel
theorem dX0_number_72 : decode cX0_number 72 = .ok (.aload_n 0, 1) := by decide +kernel
theorem dX0_number_73 : decode cX0_number 73 = .ok (.getfield 24, 3) := by decide +kernel
theorem dX0_number_76 : decode cX0_number 76 = .ok (.iload_n 1, 1) := by decide +kernel
theorem dX0_number_77 : decode cX0_number 77 = .ok (.iaload, 1) := by decide +kernel
theorem dX0_number_78 : decode cX0_number 78 = .ok (.ireturn, 1) := by decide +kernel
theorem dX0_number_79 : decode cX0_number 79 = .ok (.aload_n 0, 1) := by decide +kernel
theorem dX0_number_80 : decode cX0_number 80 = .ok (.getfield 27, 3) := by decide +kernel
theorem dX0_number_83 : decode cX0_number 83 = .ok (.iload_n 1, 1) := by decide +kernel
theorem dX0_number_84 : decode cX0_number 84 = .ok (.iaload, 1) := by decide +kernel
theorem dX0_number_85 : decode cX0_number 85 = .ok (.ireturn, 1) := by decide +kernel
theorem dX0_number_86 : decode cX0_number 86 = .ok (.aload_n 0, 1) := by decide +kernel
theorem dX0_number_87 : decode cX0_number 87 = .ok (.getfield 27, 3) := by decide +kernel
theorem dX0_number_90 : decode cX0_number 90 = .ok (.iload_n 1, 1) := by decide +kernel
theorem dX0_number_91 : decode cX0_number 91 = .ok (.iaload, 1) := by decide +kernel
theorem dX0_number_92 : decode cX0_number 92 = .ok (.ifCond .ne 12, 3) := by decide +kernel
theorem dX0_number_95 : decode cX0_number 95 = .ok (.aload_n 0, 1) := by decide +kernel
theorem dX0_number_96 : decode cX0_number 96 = .ok (.getfield 30, 3) := by decide +kernel
theorem dX0_number_99 : decode cX0_number 99 = .ok (.iload_n 1, 1) := by decide +kernel
theorem dX0_number_100 : decode cX0_number 100 = .ok (.iaload, 1) := by decide +kernel
theorem dX0_number_101 : decode cX0_number 101 = .ok (.goto 5, 3) := by decide +kernel
theorem dX0_number_104 : decode cX0_number 104 = .ok (.bipush (-9), 2) := by decide +kernel
theorem dX0_number_106 : decode cX0_number 106 = .ok (.ireturn, 1) := by decide +kernel
theorem dX0_number_107 : decode cX0_number 107 = .ok (.aload_n 0, 1) := by decide +kernel
theorem dX0_number_108 : decode cX0_number 108 = .ok (.getfield 27, 3) := by decide +kernel
theorem dX0_number_111 : decode cX0_number 111 = .ok (.iload_n 1, 1) := by decide +kernel
theorem dX0_number_112 : decode cX0_number 112 = .ok (.iaload, 1) := by decide +kernel
theorem dX0_number_113 : decode cX0_number 113 = .ok (.iconst 2, 1) := by decide +kernel
theorem dX0_number_114 : decode cX0_number 114 = .ok (.if_icmp .ne 12, 3) := by decide +kernel
theorem dX0_number_117 : decode cX0_number 117 = .ok (.aload_n 0, 1) := by decide +kernel
theorem dX0_number_118 : decode cX0_number 118 = .ok (.getfield 33, 3) := by decide +kernel
theorem dX0_number_121 : decode cX0_number 121 = .ok (.iload_n 1, 1) := by decide +kernel
theorem dX0_number_122 : decode cX0_number 122 = .ok (.iaload, 1) := by decide +kernel
theorem dX0_number_123 : decode cX0_number 123 = .ok (.goto 5, 3) := by decide +kernel
theorem dX0_number_126 : decode cX0_number 126 = .ok (.bipush (-9), 2) := by decide +kernel
theorem dX0_number_128 : decode cX0_number 128 = .ok (.ireturn, 1) := by decide +kernel
theorem dX0_allPulls_0 : decode cX0_allPulls 0 = .ok (.iconst 0, 1) := by decide +kernel
theorem dX0_allPulls_1 : decode cX0_allPulls 1 = .ok (.istore_n 1, 1) := by decide +kernel
theorem dX0_allPulls_2 : decode cX0_allPulls 2 = .ok (.iconst 0, 1) := by decide +kernel
theorem dX0_allPulls_3 : decode cX0_allPulls 3 = .ok (.istore_n 2, 1) := by decide +kernel
theorem dX0_allPulls_4 : decode cX0_allPulls 4 = .ok (.iload_n 2, 1) := by decide +kernel
theorem dX0_allPulls_5 : decode cX0_allPulls 5 = .ok (.bipush 12, 2) := by decide +kernel
theorem dX0_allPulls_7 : decode cX0_allPulls 7 = .ok (.if_icmp .ge 28, 3) := by decide +kernel
theorem dX0_allPulls_10 : decode cX0_allPulls 10 = .ok (.aload_n 0, 1) := by decide +kernel
theorem dX0_allPulls_11 : decode cX0_allPulls 11 = .ok (.getfield 27, 3) := by decide +kernel
theorem dX0_allPulls_14 : decode cX0_allPulls 14 = .ok (.iload_n 2, 1) := by decide +kernel
theorem dX0_allPulls_15 : decode cX0_allPulls 15 = .ok (.iaload, 1) := by decide +kernel
theorem dX0_allPulls_16 : decode cX0_allPulls 16 = .ok (.iconst (-1), 1) := by decide +kernel
theorem dX0_allPulls_17 : decode cX0_allPulls 17 = .ok (.if_icmp .eq 12, 3) := by decide +kernel
theorem dX0_allPulls_20 : decode cX0_allPulls 20 = .ok (.iload_n 1, 1) := by decide +kernel
theorem dX0_allPulls_21 : decode cX0_allPulls 21 = .ok (.aload_n 0, 1) := by decide +kernel
theorem dX0_allPulls_22 : decode cX0_allPulls 22 = .ok (.getfield 21, 3) := by decide +kernel
theorem dX0_allPulls_25 : decode cX0_allPulls 25 = .ok (.iload_n 2, 1) := by decide +kernel
theorem dX0_allPulls_26 : decode cX0_allPulls 26 = .ok (.iaload, 1) := by decide +kernel
theorem dX0_allPulls_27 : decode cX0_allPulls 27 = .ok (.iadd, 1) := by decide +kernel
theorem dX0_allPulls_28 : decode cX0_allPulls 28 = .ok (.istore_n 1, 1) := by decide +kernel
theorem dX0_allPulls_29 : decode cX0_allPulls 29 = .ok (.iinc 2 1, 3) := by decide +kernel
theorem dX0_allPulls_32 : decode cX0_allPulls 32 = .ok (.goto (-28), 3) := by decide +kernel
theorem dX0_allPulls_35 : decode cX0_allPulls 35 = .ok (.iload_n 1, 1) := by decide +kernel
theorem dX0_allPulls_36 : decode cX0_allPulls 36 = .ok (.ireturn, 1) := by decide +kernel
set_option maxRecDepth 20000 in
theorem ggX0_add_X0_grips : GoodIn wsX0_add wsX0_grips := goodIn_r _ [11, 12, 13, 14, 10, 15, 6, 16, 17, 18, 19, 20, 21, 22, 23, 24, 25, 26, 27, 28] (by decide +kernel) (by decide +kernel)
set_option maxRecDepth 20000 in
theorem gX0_add_X0_grips : GoodIn wsX0_add (wsV RX0 66 RX0 yX0_grips wsX0_grips) := goodIn_app (goodIn_of _ (by decide +kernel)) ggX0_add_X0_grips
theorem dX0_add_0 : decode cX0_add 0 = .ok (.aload_n 0, 1) := by decide +kernel
theorem dX0_add_1 : decode cX0_add 1 = .ok (.invokevirtual 66, 3) := by decide +kernel
theorem dX0_add_4 : decode cX0_add 4 = .ok (.istore_n 2, 1) := by decide +kernel
theorem dX0_add_5 : decode cX0_add 5 = .ok (.iload_n 2, 1) := by decide +kernel
theorem dX0_add_6 : decode cX0_add 6 = .ok (.bipush 12, 2) := by decide +kernel
theorem dX0_add_8 : decode cX0_add 8 = .ok (.if_icmp .lt 4, 3) := by decide +kernel
theorem dX0_add_11 : decode cX0_add 11 = .ok (.return_, 1) := by decide +kernel
theorem dX0_add_12 : decode cX0_add 12 = .ok (.aload_n 0, 1) := by decide +kernel
theorem dX0_add_13 : decode cX0_add 13 = .ok (.getfield 9, 3) := by decide +kernel
theorem dX0_add_16 : decode cX0_add 16 = .ok (.iload_n 2, 1) := by decide +kernel
theorem dX0_add_17 : decode cX0_add 17 = .ok (.iload_n 1, 1) := by decide +kernel
theorem dX0_add_18 : decode cX0_add 18 = .ok (.iastore, 1) := by decide +kernel
theorem dX0_add_19 : decode cX0_add 19 = .ok (.aload_n 0, 1) := by decide +kernel
theorem dX0_add_20 : decode cX0_add 20 = .ok (.getfield 15, 3) := by decide +kernel
theorem dX0_add_23 : decode cX0_add 23 = .ok (.iload_n 2, 1) := by decide +kernel
theorem dX0_add_24 : decode cX0_add 24 = .ok (.iconst 0, 1) := by decide +kernel
theorem dX0_add_25 : decode cX0_add 25 = .ok (.iastore, 1) := by decide +kernel
theorem dX0_add_26 : decode cX0_add 26 = .ok (.aload_n 0, 1) := by decide +kernel
theorem dX0_add_27 : decode cX0_add 27 = .ok (.getfield 18, 3) := by decide +kernel
theorem dX0_add_30 : decode cX0_add 30 = .ok (.iload_n 2, 1) := by decide +kernel
theorem dX0_add_31 : decode cX0_add 31 = .ok (.iconst 0, 1) := by decide +kernel
theorem dX0_add_32 : decode cX0_add 32 = .ok (.iastore, 1) := by decide +kernel
theorem dX0_add_33 : decode cX0_add 33 = .ok (.aload_n 0, 1) := by decide +kernel
theorem dX0_add_34 : decode cX0_add 34 = .ok (.getfield 21, 3) := by decide +kernel
theorem dX0_add_37 : decode cX0_add 37 = .ok (.iload_n 2, 1) := by decide +kernel
theorem dX0_add_38 : decode cX0_add 38 = .ok (.iconst 0, 1) := by decide +kernel
theorem dX0_add_39 : decode cX0_add 39 = .ok (.iastore, 1) := by decide +kernel
theorem dX0_add_40 : decode cX0_add 40 = .ok (.aload_n 0, 1) := by decide +kernel
theorem dX0_add_41 : decode cX0_add 41 = .ok (.getfield 24, 3) := by decide +kernel
theorem dX0_add_44 : decode cX0_add 44 = .ok (.iload_n 2, 1) := by decide +kernel
theorem dX0_add_45 : decode cX0_add 45 = .ok (.bipush (-9), 2) := by decide +kernel
theorem dX0_add_47 : decode cX0_add 47 = .ok (.iastore, 1) := by decide +kernel
theorem dX0_add_48 : decode cX0_add 48 = .ok (.aload_n 0, 1) := by decide +kernel
theorem dX0_add_49 : decode cX0_add 49 = .ok (.getfield 27, 3) := by decide +kernel
theorem dX0_add_52 : decode cX0_add 52 = .ok (.iload_n 2, 1) := by decide +kernel
theorem dX0_add_53 : decode cX0_add 53 = .ok (.iconst 1, 1) := by decide +kernel
theorem dX0_add_54 : decode cX0_add 54 = .ok (.iastore, 1) := by decide +kernel
theorem dX0_add_55 : decode cX0_add 55 = .ok (.return_, 1) := by decide +kernel
theorem dX0_hang_0 : decode cX0_hang 0 = .ok (.aload_n 0, 1) := by decide +kernel
theorem dX0_hang_1 : decode cX0_hang 1 = .ok (.getfield 27, 3) := by decide +kernel
theorem dX0_hang_4 : decode cX0_hang 4 = .ok (.iload_n 1, 1) := by decide +kernel
theorem dX0_hang_5 : decode cX0_hang 5 = .ok (.iconst 0, 1) := by decide +kernel
theorem dX0_hang_6 : decode cX0_hang 6 = .ok (.iastore, 1) := by decide +kernel
theorem dX0_hang_7 : decode cX0_hang 7 = .ok (.aload_n 0, 1) := by decide +kernel
theorem dX0_hang_8 : decode cX0_hang 8 = .ok (.getfield 30, 3) := by decide +kernel
theorem dX0_hang_11 : decode cX0_hang 11 = .ok (.iload_n 1, 1) := by decide +kernel
theorem dX0_hang_12 : decode cX0_hang 12 = .ok (.iload_n 2, 1) := by decide +kernel
theorem dX0_hang_13 : decode cX0_hang 13 = .ok (.iastore, 1) := by decide +kernel
theorem dX0_hang_14 : decode cX0_hang 14 = .ok (.return_, 1) := by decide +kernel
theorem dX0_move_0 : decode cX0_move 0 = .ok (.aload_n 0, 1) := by decide +kernel
theorem dX0_move_1 : decode cX0_move 1 = .ok (.getfield 27, 3) := by decide +kernel
theorem dX0_move_4 : decode cX0_move 4 = .ok (.iload_n 1, 1) := by decide +kernel
theorem dX0_move_5 : decode cX0_move 5 = .ok (.iload_n 2, 1) := by decide +kernel
theorem dX0_move_6 : decode cX0_move 6 = .ok (.iastore, 1) := by decide +kernel
theorem dX0_move_7 : decode cX0_move 7 = .ok (.return_, 1) := by decide +kernel
set_option maxRecDepth 20000 in
theorem ggX0_advanceBy_X0_advance : GoodIn wsX0_advanceBy wsX0_advance := goodIn_r _ [5, 6, 7, 8, 9, 10, 11, 12, 13, 14, 4, 15, 16, 17, 18, 19, 20, 21, 22, 23, 24, 25, 26, 27, 28, 29, 30, 31, 32, 33, 34, 35, 36, 37, 38, 39, 40, 41, 42, 43, 44, 45, 46, 47, 48, 49, 50, 51, 52, 53, 54, 55, 56, 57, 58, 59, 60, 61] (by decide +kernel) (by decide +kernel)
set_option maxRecDepth 20000 in
theorem gX0_advanceBy_X0_advance : GoodIn wsX0_advanceBy (wsV RX0 70 RX0 yX0_advance wsX0_advance) := goodIn_app (goodIn_of _ (by decide +kernel)) ggX0_advanceBy_X0_advance
theorem dX0_advanceBy_0 : decode cX0_advanceBy 0 = .ok (.iconst 0, 1) := by decide +kernel
theorem dX0_advanceBy_1 : decode cX0_advanceBy 1 = .ok (.istore_n 2, 1) := by decide +kernel
theorem dX0_advanceBy_2 : decode cX0_advanceBy 2 = .ok (.iload_n 2, 1) := by decide +kernel
theorem dX0_advanceBy_3 : decode cX0_advanceBy 3 = .ok (.iload_n 1, 1) := by decide +kernel
theorem dX0_advanceBy_4 : decode cX0_advanceBy 4 = .ok (.if_icmp .ge 14, 3) := by decide +kernel
theorem dX0_advanceBy_7 : decode cX0_advanceBy 7 = .ok (.aload_n 0, 1) := by decide +kernel
theorem dX0_advanceBy_8 : decode cX0_advanceBy 8 = .ok (.invokevirtual 70, 3) := by decide +kernel
theorem dX0_advanceBy_11 : decode cX0_advanceBy 11 = .ok (.pop, 1) := by decide +kernel
theorem dX0_advanceBy_12 : decode cX0_advanceBy 12 = .ok (.iinc 2 1, 3) := by decide +kernel
theorem dX0_advanceBy_15 : decode cX0_advanceBy 15 = .ok (.goto (-13), 3) := by decide +kernel
theorem dX0_advanceBy_18 : decode cX0_advanceBy 18 = .ok (.return_, 1) := by decide +kernel
set_option maxRecDepth 20000 in
theorem ggX0_advance_X0_gripAt : GoodIn wsX0_advance wsX0_gripAt := goodIn_r _ [11, 12, 13, 45, 46, 47, 48, 49, 50, 51, 52, 53, 54, 55, 56, 57] (by decide +kernel) (by decide +kernel)
set_option maxRecDepth 20000 in
theorem gX0_advance_X0_gripAt : GoodIn wsX0_advance (wsV RX0 77 RX0 yX0_gripAt wsX0_gripAt) := goodIn_app (goodIn_of _ (by decide +kernel)) ggX0_advance_X0_gripAt
set_option maxRecDepth 20000 in
theorem ggX0_advance_X0_pass : GoodIn wsX0_advance wsX0_pass := goodIn_r _ [17, 18, 19, 20, 21, 22, 23, 12, 24, 45, 46, 47, 48, 49, 50, 51, 52, 53, 54, 55, 56, 57] (by decide +kernel) (by decide +kernel)
set_option maxRecDepth 20000 in
theorem gX0_advance_X0_pass : GoodIn wsX0_advance (wsV RX0 80 RX0 yX0_pass wsX0_pass) := goodIn_app (goodIn_of _ (by decide +kernel)) ggX0_advance_X0_pass
set_option maxRecDepth 20000 in
theorem ggX0_advance_X0_repairAllBut : GoodIn wsX0_advance wsX0_repairAllBut := goodIn_r _ [28, 12, 24, 18, 19, 45, 46, 47, 48, 49, 50, 51, 52, 53, 54, 55, 56, 57] (by decide +kernel) (by decide +kernel)
set_option maxRecDepth 20000 in
theorem gX0_advance_X0_repairAllBut : GoodIn wsX0_advance (wsV RX0 84 RX0 yX0_repairAllBut wsX0_repairAllBut) := goodIn_app (goodIn_of _ (by decide +kernel)) ggX0_advance_X0_repairAllBut
set_option maxRecDepth 20000 in
theorem ggX0_advance_X0_fillStation : GoodIn wsX0_advance wsX0_fillStation := goodIn_r _ [32, 12, 18, 1, 33, 34, 35, 10, 36, 13, 21, 37, 38, 39, 40, 2, 41, 42, 43, 44, 45, 46, 47, 48, 49, 50, 51, 52, 53, 54, 55, 56, 57] (by decide +kernel) (by decide +kernel)
set_option maxRecDepth 20000 in
theorem gX0_advance_X0_fillStation : GoodIn wsX0_advance (wsV RX0 88 RX0 yX0_fillStation wsX0_fillStation) := goodIn_app (goodIn_of _ (by decide +kernel)) ggX0_advance_X0_fillStation
theorem dX0_advance_0 : decode cX0_advance 0 = .ok (.aload_n 0, 1) := by decide +kernel
theorem dX0_advance_1 : decode cX0_advance 1 = .ok (.aload_n 0, 1) := by decide +kernel
theorem dX0_advance_2 : decode cX0_advance 2 = .ok (.getfield 46, 3) := by decide +kernel
theorem dX0_advance_5 : decode cX0_advance 5 = .ok (.iconst 1, 1) := by decide +kernel
theorem dX0_advance_6 : decode cX0_advance 6 = .ok (.iadd, 1) := by decide +kernel
theorem dX0_advance_7 : decode cX0_advance 7 = .ok (.aload_n 0, 1) := by decide +kernel
theorem dX0_advance_8 : decode cX0_advance 8 = .ok (.getfield 42, 3) := by decide +kernel
theorem dX0_advance_11 : decode cX0_advance 11 = .ok (.if_icmp .ge 12, 3) := by decide +kernel
theorem dX0_advance_14 : decode cX0_advance 14 = .ok (.aload_n 0, 1) := by decide +kernel
theorem dX0_advance_15 : decode cX0_advance 15 = .ok (.getfield 46, 3) := by decide +kernel
theorem dX0_advance_18 : decode cX0_advance 18 = .ok (.iconst 1, 1) := by decide +kernel
theorem dX0_advance_19 : decode cX0_advance 19 = .ok (.iadd, 1) := by decide +kernel
theorem dX0_advance_20 : decode cX0_advance 20 = .ok (.goto 4, 3) := by decide +kernel
theorem dX0_advance_23 : decode cX0_advance 23 = .ok (.iconst 0, 1) := by decide +kernel
theorem dX0_advance_24 : decode cX0_advance 24 = .ok (.putfield 46, 3) := by decide +kernel
theorem dX0_advance_27 : decode cX0_advance 27 = .ok (.aload_n 0, 1) := by decide +kernel
theorem dX0_advance_28 : decode cX0_advance 28 = .ok (.aload_n 0, 1) := by decide +kernel
theorem dX0_advance_29 : decode cX0_advance 29 = .ok (.getfield 52, 3) := by decide +kernel
theorem dX0_advance_32 : decode cX0_advance 32 = .ok (.ldc2_w 73, 3) := by decide +kernel
theorem dX0_advance_35 : decode cX0_advance 35 = .ok (.lmul, 1) := by decide +kernel
theorem dX0_advance_36 : decode cX0_advance 36 = .ok (.ldc2_w 75, 3) := by decide +kernel
theorem dX0_advance_39 : decode cX0_advance 39 = .ok (.ladd, 1) := by decide +kernel
theorem dX0_advance_40 : decode cX0_advance 40 = .ok (.putfield 52, 3) := by decide +kernel
theorem dX0_advance_43 : decode cX0_advance 43 = .ok (.aload_n 0, 1) := by decide +kernel
theorem dX0_advance_44 : decode cX0_advance 44 = .ok (.aload_n 0, 1) := by decide +kernel
theorem dX0_advance_45 : decode cX0_advance 45 = .ok (.getfield 46, 3) := by decide +kernel
theorem dX0_advance_48 : decode cX0_advance 48 = .ok (.invokevirtual 77, 3) := by decide +kernel
theorem dX0_advance_51 : decode cX0_advance 51 = .ok (.istore_n 1, 1) := by decide +kernel
theorem dX0_advance_52 : decode cX0_advance 52 = .ok (.iload_n 1, 1) := by decide +kernel
theorem dX0_advance_53 : decode cX0_advance 53 = .ok (.ifCond .ge 7, 3) := by decide +kernel
theorem dX0_advance_56 : decode cX0_advance 56 = .ok (.iconst 0, 1) := by decide +kernel
theorem dX0_advance_57 : decode cX0_advance 57 = .ok (.goto 16, 3) := by decide +kernel
theorem dX0_advance_60 : decode cX0_advance 60 = .ok (.aload_n 0, 1) := by decide +kernel
theorem dX0_advance_61 : decode cX0_advance 61 = .ok (.iload_n 1, 1) := by decide +kernel
theorem dX0_advance_62 : decode cX0_advance 62 = .ok (.aload_n 0, 1) := by decide +kernel
theorem dX0_advance_63 : decode cX0_advance 63 = .ok (.getfield 52, 3) := by decide +kernel
theorem dX0_advance_66 : decode cX0_advance 66 = .ok (.bipush 33, 2) := by decide +kernel
theorem dX0_advance_68 : decode cX0_advance 68 = .ok (.lushr, 1) := by decide +kernel
theorem dX0_advance_69 : decode cX0_advance 69 = .ok (.l2i, 1) := by decide +kernel
theorem dX0_advance_70 : decode cX0_advance 70 = .ok (.invokevirtual 80, 3) := by decide +kernel
theorem dX0_advance_73 : decode cX0_advance 73 = .ok (.istore_n 2, 1) := by decide +kernel
theorem dX0_advance_74 : decode cX0_advance 74 = .ok (.aload_n 0, 1) := by decide +kernel
theorem dX0_advance_75 : decode cX0_advance 75 = .ok (.iload_n 1, 1) := by decide +kernel
theorem dX0_advance_76 : decode cX0_advance 76 = .ok (.invokevirtual 84, 3) := by decide +kernel
theorem dX0_advance_79 : decode cX0_advance 79 = .ok (.iload_n 2, 1) := by decide +kernel
theorem dX0_advance_80 : decode cX0_advance 80 = .ok (.aload_n 0, 1) := by decide +kernel
theorem dX0_advance_81 : decode cX0_advance 81 = .ok (.invokevirtual 88, 3) := by decide +kernel
theorem dX0_advance_84 : decode cX0_advance 84 = .ok (.ior, 1) := by decide +kernel
theorem dX0_advance_85 : decode cX0_advance 85 = .ok (.istore_n 2, 1) := by decide +kernel
theorem dX0_advance_86 : decode cX0_advance 86 = .ok (.aload_n 0, 1) := by decide +kernel
theorem dX0_advance_87 : decode cX0_advance 87 = .ok (.dup, 1) := by decide +kernel
theorem dX0_advance_88 : decode cX0_advance 88 = .ok (.getfield 49, 3) := by decide +kernel
theorem dX0_advance_91 : decode cX0_advance 91 = .ok (.iconst 1, 1) := by decide +kernel
theorem dX0_advance_92 : decode cX0_advance 92 = .ok (.iadd, 1) := by decide +kernel
theorem dX0_advance_93 : decode cX0_advance 93 = .ok (.putfield 49, 3) := by decide +kernel
theorem dX0_advance_96 : decode cX0_advance 96 = .ok (.iload_n 2, 1) := by decide +kernel
theorem dX0_advance_97 : decode cX0_advance 97 = .ok (.ireturn, 1) := by decide +kernel
theorem dX0_pass_0 : decode cX0_pass 0 = .ok (.aload_n 0, 1) := by decide +kernel
theorem dX0_pass_1 : decode cX0_pass 1 = .ok (.getfield 15, 3) := by decide +kernel
theorem dX0_pass_4 : decode cX0_pass 4 = .ok (.iload_n 1, 1) := by decide +kernel
theorem dX0_pass_5 : decode cX0_pass 5 = .ok (.dup2, 1) := by decide +kernel
theorem dX0_pass_6 : decode cX0_pass 6 = .ok (.iaload, 1) := by decide +kernel
theorem dX0_pass_7 : decode cX0_pass 7 = .ok (.iconst 1, 1) := by decide +kernel
theorem dX0_pass_8 : decode cX0_pass 8 = .ok (.iadd, 1) := by decide +kernel
theorem dX0_pass_9 : decode cX0_pass 9 = .ok (.iastore, 1) := by decide +kernel
theorem dX0_pass_10 : decode cX0_pass 10 = .ok (.aload_n 0, 1) := by decide +kernel
theorem dX0_pass_11 : decode cX0_pass 11 = .ok (.getfield 18, 3) := by decide +kernel
theorem dX0_pass_14 : decode cX0_pass 14 = .ok (.iload_n 1, 1) := by decide +kernel
theorem dX0_pass_15 : decode cX0_pass 15 = .ok (.dup2, 1) := by decide +kernel
theorem dX0_pass_16 : decode cX0_pass 16 = .ok (.iaload, 1) := by decide +kernel
theorem dX0_pass_17 : decode cX0_pass 17 = .ok (.iconst 1, 1) := by decide +kernel
theorem dX0_pass_18 : decode cX0_pass 18 = .ok (.aload_n 0, 1) := by decide +kernel
theorem dX0_pass_19 : decode cX0_pass 19 = .ok (.getfield 9, 3) := by decide +kernel
theorem dX0_pass_22 : decode cX0_pass 22 = .ok (.iload_n 1, 1) := by decide +kernel
theorem dX0_pass_23 : decode cX0_pass 23 = .ok (.iaload, 1) := by decide +kernel
theorem dX0_pass_24 : decode cX0_pass 24 = .ok (.iadd, 1) := by decide +kernel
theorem dX0_pass_25 : decode cX0_pass 25 = .ok (.iadd, 1) := by decide +kernel
theorem dX0_pass_26 : decode cX0_pass 26 = .ok (.iastore, 1) := by decide +kernel
theorem dX0_pass_27 : decode cX0_pass 27 = .ok (.aload_n 0, 1) := by decide +kernel
theorem dX0_pass_28 : decode cX0_pass 28 = .ok (.getfield 36, 3) := by decide +kernel
theorem dX0_pass_31 : decode cX0_pass 31 = .ok (.iconst 2, 1) := by decide +kernel
theorem dX0_pass_32 : decode cX0_pass 32 = .ok (.iaload, 1) := by decide +kernel
theorem dX0_pass_33 : decode cX0_pass 33 = .ok (.istore_n 3, 1) := by decide +kernel
theorem dX0_pass_34 : decode cX0_pass 34 = .ok (.aload_n 0, 1) := by decide +kernel
theorem dX0_pass_35 : decode cX0_pass 35 = .ok (.getfield 15, 3) := by decide +kernel
theorem dX0_pass_38 : decode cX0_pass 38 = .ok (.iload_n 1, 1) := by decide +kernel
theorem dX0_pass_39 : decode cX0_pass 39 = .ok (.iaload, 1) := by decide +kernel
theorem dX0_pass_40 : decode cX0_pass 40 = .ok (.aload_n 0, 1) := by decide +kernel
theorem dX0_pass_41 : decode cX0_pass 41 = .ok (.getfield 36, 3) := by decide +kernel
theorem dX0_pass_44 : decode cX0_pass 44 = .ok (.iconst 0, 1) := by decide +kernel
theorem dX0_pass_45 : decode cX0_pass 45 = .ok (.iaload, 1) := by decide +kernel
theorem dX0_pass_46 : decode cX0_pass 46 = .ok (.if_icmp .lt 7, 3) := by decide +kernel
theorem dX0_pass_49 : decode cX0_pass 49 = .ok (.iconst 1, 1) := by decide +kernel
theorem dX0_pass_50 : decode cX0_pass 50 = .ok (.goto 4, 3) := by decide +kernel
theorem dX0_pass_53 : decode cX0_pass 53 = .ok (.iconst 0, 1) := by decide +kernel
theorem dX0_pass_54 : decode cX0_pass 54 = .ok (.istore 4, 2) := by decide +kernel
theorem dX0_pass_56 : decode cX0_pass 56 = .ok (.iload_n 3, 1) := by decide +kernel
theorem dX0_pass_57 : decode cX0_pass 57 = .ok (.ifCond .le 13, 3) := by decide +kernel
theorem dX0_pass_60 : decode cX0_pass 60 = .ok (.iload_n 2, 1) := by decide +kernel
theorem dX0_pass_61 : decode cX0_pass 61 = .ok (.iload_n 3, 1) := by decide +kernel
theorem dX0_pass_62 : decode cX0_pass 62 = .ok (.irem, 1) := by decide +kernel
theorem dX0_pass_63 : decode cX0_pass 63 = .ok (.ifCond .ne 7, 3) := by decide +kernel
theorem dX0_pass_66 : decode cX0_pass 66 = .ok (.iconst 1, 1) := by decide +kernel
theorem dX0_pass_67 : decode cX0_pass 67 = .ok (.goto 4, 3) := by decide +kernel
theorem dX0_pass_70 : decode cX0_pass 70 = .ok (.iconst 0, 1) := by decide +kernel
theorem dX0_pass_71 : decode cX0_pass 71 = .ok (.istore 5, 2) := by decide +kernel
theorem dX0_pass_73 : decode cX0_pass 73 = .ok (.iload 4, 2) := by decide +kernel
theorem dX0_pass_75 : decode cX0_pass 75 = .ok (.ifCond .ne 10, 3) := by decide +kernel
theorem dX0_pass_78 : decode cX0_pass 78 = .ok (.iload 5, 2) := by decide +kernel
theorem dX0_pass_80 : decode cX0_pass 80 = .ok (.ifCond .ne 5, 3) := by decide +kernel
theorem dX0_pass_83 : decode cX0_pass 83 = .ok (.iconst 0, 1) := by decide +kernel
theorem dX0_pass_84 : decode cX0_pass 84 = .ok (.ireturn, 1) := by decide +kernel
theorem dX0_pass_85 : decode cX0_pass 85 = .ok (.aload_n 0, 1) := by decide +kernel
theorem dX0_pass_86 : decode cX0_pass 86 = .ok (.getfield 21, 3) := by decide +kernel
theorem dX0_pass_89 : decode cX0_pass 89 = .ok (.iload_n 1, 1) := by decide +kernel
theorem dX0_pass_90 : decode cX0_pass 90 = .ok (.dup2, 1) := by decide +kernel
theorem dX0_pass_91 : decode cX0_pass 91 = .ok (.iaload, 1) := by decide +kernel
theorem dX0_pass_92 : decode cX0_pass 92 = .ok (.iconst 1, 1) := by decide +kernel
theorem dX0_pass_93 : decode cX0_pass 93 = .ok (.iadd, 1) := by decide +kernel
theorem dX0_pass_94 : decode cX0_pass 94 = .ok (.iastore, 1) := by decide +kernel
theorem dX0_pass_95 : decode cX0_pass 95 = .ok (.aload_n 0, 1) := by decide +kernel
theorem dX0_pass_96 : decode cX0_pass 96 = .ok (.getfield 24, 3) := by decide +kernel
theorem dX0_pass_99 : decode cX0_pass 99 = .ok (.iload_n 1, 1) := by decide +kernel
theorem dX0_pass_100 : decode cX0_pass 100 = .ok (.aload_n 0, 1) := by decide +kernel
theorem dX0_pass_101 : decode cX0_pass 101 = .ok (.getfield 18, 3) := by decide +kernel
theorem dX0_pass_104 : decode cX0_pass 104 = .ok (.iload_n 1, 1) := by decide +kernel
theorem dX0_pass_105 : decode cX0_pass 105 = .ok (.iaload, 1) := by decide +kernel
theorem dX0_pass_106 : decode cX0_pass 106 = .ok (.iconst 4, 1) := by decide +kernel
theorem dX0_pass_107 : decode cX0_pass 107 = .ok (.idiv, 1) := by decide +kernel
theorem dX0_pass_108 : decode cX0_pass 108 = .ok (.iload_n 2, 1) := by decide +kernel
theorem dX0_pass_109 : decode cX0_pass 109 = .ok (.bipush 16, 2) := by decide +kernel
theorem dX0_pass_111 : decode cX0_pass 111 = .ok (.idiv, 1) := by decide +kernel
theorem dX0_pass_112 : decode cX0_pass 112 = .ok (.iconst 5, 1) := by decide +kernel
theorem dX0_pass_113 : decode cX0_pass 113 = .ok (.irem, 1) := by decide +kernel
theorem dX0_pass_114 : decode cX0_pass 114 = .ok (.iadd, 1) := by decide +kernel
theorem dX0_pass_115 : decode cX0_pass 115 = .ok (.iastore, 1) := by decide +kernel
theorem dX0_pass_116 : decode cX0_pass 116 = .ok (.iload 4, 2) := by decide +kernel
theorem dX0_pass_118 : decode cX0_pass 118 = .ok (.ifCond .ne 20, 3) := by decide +kernel
theorem dX0_pass_121 : decode cX0_pass 121 = .ok (.aload_n 0, 1) := by decide +kernel
theorem dX0_pass_122 : decode cX0_pass 122 = .ok (.getfield 24, 3) := by decide +kernel
theorem dX0_pass_125 : decode cX0_pass 125 = .ok (.iload_n 1, 1) := by decide +kernel
theorem dX0_pass_126 : decode cX0_pass 126 = .ok (.iaload, 1) := by decide +kernel
theorem dX0_pass_127 : decode cX0_pass 127 = .ok (.aload_n 0, 1) := by decide +kernel
theorem dX0_pass_128 : decode cX0_pass 128 = .ok (.getfield 36, 3) := by decide +kernel
theorem dX0_pass_131 : decode cX0_pass 131 = .ok (.iconst 1, 1) := by decide +kernel
theorem dX0_pass_132 : decode cX0_pass 132 = .ok (.iaload, 1) := by decide +kernel
theorem dX0_pass_133 : decode cX0_pass 133 = .ok (.if_icmp .gt 5, 3) := by decide +kernel
theorem dX0_pass_136 : decode cX0_pass 136 = .ok (.iconst 1, 1) := by decide +kernel
theorem dX0_pass_137 : decode cX0_pass 137 = .ok (.ireturn, 1) := by decide +kernel
theorem dX0_pass_138 : decode cX0_pass 138 = .ok (.aload_n 0, 1) := by decide +kernel
theorem dX0_pass_139 : decode cX0_pass 139 = .ok (.getfield 27, 3) := by decide +kernel
theorem dX0_pass_142 : decode cX0_pass 142 = .ok (.iload_n 1, 1) := by decide +kernel
theorem dX0_pass_143 : decode cX0_pass 143 = .ok (.iconst 2, 1) := by decide +kernel
theorem dX0_pass_144 : decode cX0_pass 144 = .ok (.iastore, 1) := by decide +kernel
theorem dX0_pass_145 : decode cX0_pass 145 = .ok (.aload_n 0, 1) := by decide +kernel
theorem dX0_pass_146 : decode cX0_pass 146 = .ok (.getfield 33, 3) := by decide +kernel
theorem dX0_pass_149 : decode cX0_pass 149 = .ok (.iload_n 1, 1) := by decide +kernel
theorem dX0_pass_150 : decode cX0_pass 150 = .ok (.aload_n 0, 1) := by decide +kernel
theorem dX0_pass_151 : decode cX0_pass 151 = .ok (.getfield 36, 3) := by decide +kernel
theorem dX0_pass_154 : decode cX0_pass 154 = .ok (.iconst 4, 1) := by decide +kernel
theorem dX0_pass_155 : decode cX0_pass 155 = .ok (.iaload, 1) := by decide +kernel
theorem dX0_pass_156 : decode cX0_pass 156 = .ok (.iastore, 1) := by decide +kernel
theorem dX0_pass_157 : decode cX0_pass 157 = .ok (.iconst 1, 1) := by decide +kernel
theorem dX0_pass_158 : decode cX0_pass 158 = .ok (.iload 4, 2) := by decide +kernel
theorem dX0_pass_160 : decode cX0_pass 160 = .ok (.ifCond .eq 7, 3) := by decide +kernel
theorem dX0_pass_163 : decode cX0_pass 163 = .ok (.iconst 2, 1) := by decide +kernel
theorem dX0_pass_164 : decode cX0_pass 164 = .ok (.goto 4, 3) := by decide +kernel
theorem dX0_pass_167 : decode cX0_pass 167 = .ok (.iconst 4, 1) := by decide +kernel
theorem dX0_pass_168 : decode cX0_pass 168 = .ok (.ior, 1) := by decide +kernel
theorem dX0_pass_169 : decode cX0_pass 169 = .ok (.ireturn, 1) := by decide +kernel
theorem dX0_repairAllBut_0 : decode cX0_repairAllBut 0 = .ok (.iconst 0, 1) := by decide +kernel
theorem dX0_repairAllBut_1 : decode cX0_repairAllBut 1 = .ok (.istore_n 2, 1) := by decide +kernel
theorem dX0_repairAllBut_2 : decode cX0_repairAllBut 2 = .ok (.iload_n 2, 1) := by decide +kernel
theorem dX0_repairAllBut_3 : decode cX0_repairAllBut 3 = .ok (.bipush 12, 2) := by decide +kernel
theorem dX0_repairAllBut_5 : decode cX0_repairAllBut 5 = .ok (.if_icmp .ge 70, 3) := by decide +kernel
theorem dX0_repairAllBut_8 : decode cX0_repairAllBut 8 = .ok (.aload_n 0, 1) := by decide +kernel
theorem dX0_repairAllBut_9 : decode cX0_repairAllBut 9 = .ok (.getfield 27, 3) := by decide +kernel
theorem dX0_repairAllBut_12 : decode cX0_repairAllBut 12 = .ok (.iload_n 2, 1) := by decide +kernel
theorem dX0_repairAllBut_13 : decode cX0_repairAllBut 13 = .ok (.iaload, 1) := by decide +kernel
theorem dX0_repairAllBut_14 : decode cX0_repairAllBut 14 = .ok (.iconst 2, 1) := by decide +kernel
theorem dX0_repairAllBut_15 : decode cX0_repairAllBut 15 = .ok (.if_icmp .ne 54, 3) := by decide +kernel
theorem dX0_repairAllBut_18 : decode cX0_repairAllBut 18 = .ok (.iload_n 2, 1) := by decide +kernel
theorem dX0_repairAllBut_19 : decode cX0_repairAllBut 19 = .ok (.iload_n 1, 1) := by decide +kernel
theorem dX0_repairAllBut_20 : decode cX0_repairAllBut 20 = .ok (.if_icmp .ne 6, 3) := by decide +kernel
theorem dX0_repairAllBut_23 : decode cX0_repairAllBut 23 = .ok (.goto 46, 3) := by decide +kernel
theorem dX0_repairAllBut_26 : decode cX0_repairAllBut 26 = .ok (.aload_n 0, 1) := by decide +kernel
theorem dX0_repairAllBut_27 : decode cX0_repairAllBut 27 = .ok (.getfield 33, 3) := by decide +kernel
theorem dX0_repairAllBut_30 : decode cX0_repairAllBut 30 = .ok (.iload_n 2, 1) := by decide +kernel
theorem dX0_repairAllBut_31 : decode cX0_repairAllBut 31 = .ok (.dup2, 1) := by decide +kernel
theorem dX0_repairAllBut_32 : decode cX0_repairAllBut 32 = .ok (.iaload, 1) := by decide +kernel
theorem dX0_repairAllBut_33 : decode cX0_repairAllBut 33 = .ok (.iconst 1, 1) := by decide +kernel
theorem dX0_repairAllBut_34 : decode cX0_repairAllBut 34 = .ok (.isub, 1) := by decide +kernel
theorem dX0_repairAllBut_35 : decode cX0_repairAllBut 35 = .ok (.iastore, 1) := by decide +kernel
theorem dX0_repairAllBut_36 : decode cX0_repairAllBut 36 = .ok (.aload_n 0, 1) := by decide +kernel
theorem dX0_repairAllBut_37 : decode cX0_repairAllBut 37 = .ok (.getfield 33, 3) := by decide +kernel
theorem dX0_repairAllBut_40 : decode cX0_repairAllBut 40 = .ok (.iload_n 2, 1) := by decide +kernel
theorem dX0_repairAllBut_41 : decode cX0_repairAllBut 41 = .ok (.iaload, 1) := by decide +kernel
theorem dX0_repairAllBut_42 : decode cX0_repairAllBut 42 = .ok (.ifCond .le 6, 3) := by decide +kernel
theorem dX0_repairAllBut_45 : decode cX0_repairAllBut 45 = .ok (.goto 24, 3) := by decide +kernel
theorem dX0_repairAllBut_48 : decode cX0_repairAllBut 48 = .ok (.aload_n 0, 1) := by decide +kernel
theorem dX0_repairAllBut_49 : decode cX0_repairAllBut 49 = .ok (.getfield 15, 3) := by decide +kernel
theorem dX0_repairAllBut_52 : decode cX0_repairAllBut 52 = .ok (.iload_n 2, 1) := by decide +kernel
theorem dX0_repairAllBut_53 : decode cX0_repairAllBut 53 = .ok (.iconst 0, 1) := by decide +kernel
theorem dX0_repairAllBut_54 : decode cX0_repairAllBut 54 = .ok (.iastore, 1) := by decide +kernel
theorem dX0_repairAllBut_55 : decode cX0_repairAllBut 55 = .ok (.aload_n 0, 1) := by decide +kernel
theorem dX0_repairAllBut_56 : decode cX0_repairAllBut 56 = .ok (.getfield 18, 3) := by decide +kernel
theorem dX0_repairAllBut_59 : decode cX0_repairAllBut 59 = .ok (.iload_n 2, 1) := by decide +kernel
theorem dX0_repairAllBut_60 : decode cX0_repairAllBut 60 = .ok (.iconst 0, 1) := by decide +kernel
theorem dX0_repairAllBut_61 : decode cX0_repairAllBut 61 = .ok (.iastore, 1) := by decide +kernel
theorem dX0_repairAllBut_62 : decode cX0_repairAllBut 62 = .ok (.aload_n 0, 1) := by decide +kernel
theorem dX0_repairAllBut_63 : decode cX0_repairAllBut 63 = .ok (.getfield 27, 3) := by decide +kernel
theorem dX0_repairAllBut_66 : decode cX0_repairAllBut 66 = .ok (.iload_n 2, 1) := by decide +kernel
theorem dX0_repairAllBut_67 : decode cX0_repairAllBut 67 = .ok (.iconst 1, 1) := by decide +kernel
theorem dX0_repairAllBut_68 : decode cX0_repairAllBut 68 = .ok (.iastore, 1) := by decide +kernel
theorem dX0_repairAllBut_69 : decode cX0_repairAllBut 69 = .ok (.iinc 2 1, 3) := by decide +kernel
theorem dX0_repairAllBut_72 : decode cX0_repairAllBut 72 = .ok (.goto (-70), 3) := by decide +kernel
theorem dX0_repairAllBut_75 : decode cX0_repairAllBut 75 = .ok (.return_, 1) := by decide +kernel
set_option maxRecDepth 20000 in
theorem ggX0_fillStation_X0_isRoomAt : GoodIn wsX0_fillStation wsX0_isRoomAt := goodIn_r _ [8, 1, 9, 10, 11, 12, 13, 7, 14, 15, 20, 21, 22, 23, 24, 25, 26, 27, 28, 29, 30, 31, 32] (by decide +kernel) (by decide +kernel)
set_option maxRecDepth 20000 in
theorem gX0_fillStation_X0_isRoomAt : GoodIn wsX0_fillStation (wsV RX0 91 RX0 yX0_isRoomAt wsX0_isRoomAt) := goodIn_app (goodIn_of _ (by decide +kernel)) ggX0_fillStation_X0_isRoomAt
set_option maxRecDepth 20000 in
theorem ggX0_fillStation_X0_hang : GoodIn wsX0_fillStation wsX0_hang := goodIn_r _ [19, 1, 9, 20, 21, 22, 23, 24, 25, 26, 27, 28, 29, 30, 31, 32] (by decide +kernel) (by decide +kernel)
set_option maxRecDepth 20000 in
theorem gX0_fillStation_X0_hang : GoodIn wsX0_fillStation (wsV RX0 95 RX0 yX0_hang wsX0_hang) := goodIn_app (goodIn_of _ (by decide +kernel)) ggX0_fillStation_X0_hang
theorem dX0_fillStation_0 : decode cX0_fillStation 0 = .ok (.bipush (-9), 2) := by decide +kernel
theorem dX0_fillStation_2 : decode cX0_fillStation 2 = .ok (.istore_n 1, 1) := by decide +kernel
theorem dX0_fillStation_3 : decode cX0_fillStation 3 = .ok (.bipush 11, 2) := by decide +kernel
theorem dX0_fillStation_5 : decode cX0_fillStation 5 = .ok (.istore_n 2, 1) := by decide +kernel
theorem dX0_fillStation_6 : decode cX0_fillStation 6 = .ok (.iload_n 2, 1) := by decide +kernel
theorem dX0_fillStation_7 : decode cX0_fillStation 7 = .ok (.ifCond .lt 43, 3) := by decide +kernel
theorem dX0_fillStation_10 : decode cX0_fillStation 10 = .ok (.aload_n 0, 1) := by decide +kernel
theorem dX0_fillStation_11 : decode cX0_fillStation 11 = .ok (.getfield 27, 3) := by decide +kernel
theorem dX0_fillStation_14 : decode cX0_fillStation 14 = .ok (.iload_n 2, 1) := by decide +kernel
theorem dX0_fillStation_15 : decode cX0_fillStation 15 = .ok (.iaload, 1) := by decide +kernel
theorem dX0_fillStation_16 : decode cX0_fillStation 16 = .ok (.iconst 1, 1) := by decide +kernel
theorem dX0_fillStation_17 : decode cX0_fillStation 17 = .ok (.if_icmp .eq 6, 3) := by decide +kernel
theorem dX0_fillStation_20 : decode cX0_fillStation 20 = .ok (.goto 24, 3) := by decide +kernel
theorem dX0_fillStation_23 : decode cX0_fillStation 23 = .ok (.iload_n 1, 1) := by decide +kernel
theorem dX0_fillStation_24 : decode cX0_fillStation 24 = .ok (.ifCond .lt 18, 3) := by decide +kernel
theorem dX0_fillStation_27 : decode cX0_fillStation 27 = .ok (.aload_n 0, 1) := by decide +kernel
theorem dX0_fillStation_28 : decode cX0_fillStation 28 = .ok (.getfield 15, 3) := by decide +kernel
theorem dX0_fillStation_31 : decode cX0_fillStation 31 = .ok (.iload_n 2, 1) := by decide +kernel
theorem dX0_fillStation_32 : decode cX0_fillStation 32 = .ok (.iaload, 1) := by decide +kernel
theorem dX0_fillStation_33 : decode cX0_fillStation 33 = .ok (.aload_n 0, 1) := by decide +kernel
theorem dX0_fillStation_34 : decode cX0_fillStation 34 = .ok (.getfield 15, 3) := by decide +kernel
theorem dX0_fillStation_37 : decode cX0_fillStation 37 = .ok (.iload_n 1, 1) := by decide +kernel
theorem dX0_fillStation_38 : decode cX0_fillStation 38 = .ok (.iaload, 1) := by decide +kernel
theorem dX0_fillStation_39 : decode cX0_fillStation 39 = .ok (.if_icmp .gt 5, 3) := by decide +kernel
theorem dX0_fillStation_42 : decode cX0_fillStation 42 = .ok (.iload_n 2, 1) := by decide +kernel
theorem dX0_fillStation_43 : decode cX0_fillStation 43 = .ok (.istore_n 1, 1) := by decide +kernel
theorem dX0_fillStation_44 : decode cX0_fillStation 44 = .ok (.iinc 2 (-1), 3) := by decide +kernel
theorem dX0_fillStation_47 : decode cX0_fillStation 47 = .ok (.goto (-41), 3) := by decide +kernel
theorem dX0_fillStation_50 : decode cX0_fillStation 50 = .ok (.iload_n 1, 1) := by decide +kernel
theorem dX0_fillStation_51 : decode cX0_fillStation 51 = .ok (.ifCond .lt 14, 3) := by decide +kernel
theorem dX0_fillStation_54 : decode cX0_fillStation 54 = .ok (.aload_n 0, 1) := by decide +kernel
theorem dX0_fillStation_55 : decode cX0_fillStation 55 = .ok (.aload_n 0, 1) := by decide +kernel
theorem dX0_fillStation_56 : decode cX0_fillStation 56 = .ok (.getfield 46, 3) := by decide +kernel
theorem dX0_fillStation_59 : decode cX0_fillStation 59 = .ok (.invokevirtual 91, 3) := by decide +kernel
theorem dX0_fillStation_62 : decode cX0_fillStation 62 = .ok (.ifCond .ne 5, 3) := by decide +kernel
theorem dX0_fillStation_65 : decode cX0_fillStation 65 = .ok (.iconst 0, 1) := by decide +kernel
theorem dX0_fillStation_66 : decode cX0_fillStation 66 = .ok (.ireturn, 1) := by decide +kernel
theorem dX0_fillStation_67 : decode cX0_fillStation 67 = .ok (.aload_n 0, 1) := by decide +kernel
theorem dX0_fillStation_68 : decode cX0_fillStation 68 = .ok (.iload_n 1, 1) := by decide +kernel
theorem dX0_fillStation_69 : decode cX0_fillStation 69 = .ok (.aload_n 0, 1) := by decide +kernel
theorem dX0_fillStation_70 : decode cX0_fillStation 70 = .ok (.getfield 46, 3) := by decide +kernel
theorem dX0_fillStation_73 : decode cX0_fillStation 73 = .ok (.invokevirtual 95, 3) := by decide +kernel
theorem dX0_fillStation_76 : decode cX0_fillStation 76 = .ok (.bipush 8, 2) := by decide +kernel
theorem dX0_fillStation_78 : decode cX0_fillStation 78 = .ok (.ireturn, 1) := by decide +kernel
set_option maxRecDepth 20000 in
theorem ggX0_isRoomAt_X0_distance : GoodIn wsX0_isRoomAt wsX0_distance := goodIn_r _ [8, 9, 10, 11, 12, 13, 14, 15, 16, 17, 18, 19, 20, 21, 22] (by decide +kernel) (by decide +kernel)
set_option maxRecDepth 20000 in
theorem gX0_isRoomAt_X0_distance : GoodIn wsX0_isRoomAt (wsV RX0 99 RX0 yX0_distance wsX0_distance) := goodIn_app (goodIn_of _ (by decide +kernel)) ggX0_isRoomAt_X0_distance
theorem dX0_isRoomAt_0 : decode cX0_isRoomAt 0 = .ok (.iconst 0, 1) := by decide +kernel
theorem dX0_isRoomAt_1 : decode cX0_isRoomAt 1 = .ok (.istore_n 2, 1) := by decide +kernel
theorem dX0_isRoomAt_2 : decode cX0_isRoomAt 2 = .ok (.iload_n 2, 1) := by decide +kernel
theorem dX0_isRoomAt_3 : decode cX0_isRoomAt 3 = .ok (.bipush 12, 2) := by decide +kernel
theorem dX0_isRoomAt_5 : decode cX0_isRoomAt 5 = .ok (.if_icmp .ge 40, 3) := by decide +kernel
theorem dX0_isRoomAt_8 : decode cX0_isRoomAt 8 = .ok (.aload_n 0, 1) := by decide +kernel
theorem dX0_isRoomAt_9 : decode cX0_isRoomAt 9 = .ok (.getfield 27, 3) := by decide +kernel
theorem dX0_isRoomAt_12 : decode cX0_isRoomAt 12 = .ok (.iload_n 2, 1) := by decide +kernel
theorem dX0_isRoomAt_13 : decode cX0_isRoomAt 13 = .ok (.iaload, 1) := by decide +kernel
theorem dX0_isRoomAt_14 : decode cX0_isRoomAt 14 = .ok (.ifCond .ne 25, 3) := by decide +kernel
theorem dX0_isRoomAt_17 : decode cX0_isRoomAt 17 = .ok (.aload_n 0, 1) := by decide +kernel
theorem dX0_isRoomAt_18 : decode cX0_isRoomAt 18 = .ok (.aload_n 0, 1) := by decide +kernel
theorem dX0_isRoomAt_19 : decode cX0_isRoomAt 19 = .ok (.getfield 30, 3) := by decide +kernel
theorem dX0_isRoomAt_22 : decode cX0_isRoomAt 22 = .ok (.iload_n 2, 1) := by decide +kernel
theorem dX0_isRoomAt_23 : decode cX0_isRoomAt 23 = .ok (.iaload, 1) := by decide +kernel
theorem dX0_isRoomAt_24 : decode cX0_isRoomAt 24 = .ok (.iload_n 1, 1) := by decide +kernel
theorem dX0_isRoomAt_25 : decode cX0_isRoomAt 25 = .ok (.invokevirtual 99, 3) := by decide +kernel
theorem dX0_isRoomAt_28 : decode cX0_isRoomAt 28 = .ok (.aload_n 0, 1) := by decide +kernel
theorem dX0_isRoomAt_29 : decode cX0_isRoomAt 29 = .ok (.getfield 36, 3) := by decide +kernel
theorem dX0_isRoomAt_32 : decode cX0_isRoomAt 32 = .ok (.iconst 3, 1) := by decide +kernel
theorem dX0_isRoomAt_33 : decode cX0_isRoomAt 33 = .ok (.iaload, 1) := by decide +kernel
theorem dX0_isRoomAt_34 : decode cX0_isRoomAt 34 = .ok (.if_icmp .ge 5, 3) := by decide +kernel
theorem dX0_isRoomAt_37 : decode cX0_isRoomAt 37 = .ok (.iconst 0, 1) := by decide +kernel
theorem dX0_isRoomAt_38 : decode cX0_isRoomAt 38 = .ok (.ireturn, 1) := by decide +kernel
theorem dX0_isRoomAt_39 : decode cX0_isRoomAt 39 = .ok (.iinc 2 1, 3) := by decide +kernel
theorem dX0_isRoomAt_42 : decode cX0_isRoomAt 42 = .ok (.goto (-40), 3) := by decide +kernel
theorem dX0_isRoomAt_45 : decode cX0_isRoomAt 45 = .ok (.iconst 1, 1) := by decide +kernel
theorem dX0_isRoomAt_46 : decode cX0_isRoomAt 46 = .ok (.ireturn, 1) := by decide +kernel
theorem dX0_distance_0 : decode cX0_distance 0 = .ok (.iload_n 1, 1) := by decide +kernel
theorem dX0_distance_1 : decode cX0_distance 1 = .ok (.iload_n 2, 1) := by decide +kernel
theorem dX0_distance_2 : decode cX0_distance 2 = .ok (.if_icmp .le 9, 3) := by decide +kernel
theorem dX0_distance_5 : decode cX0_distance 5 = .ok (.iload_n 1, 1) := by decide +kernel
theorem dX0_distance_6 : decode cX0_distance 6 = .ok (.iload_n 2, 1) := by decide +kernel
theorem dX0_distance_7 : decode cX0_distance 7 = .ok (.isub, 1) := by decide +kernel
theorem dX0_distance_8 : decode cX0_distance 8 = .ok (.goto 6, 3) := by decide +kernel
theorem dX0_distance_11 : decode cX0_distance 11 = .ok (.iload_n 2, 1) := by decide +kernel
theorem dX0_distance_12 : decode cX0_distance 12 = .ok (.iload_n 1, 1) := by decide +kernel
theorem dX0_distance_13 : decode cX0_distance 13 = .ok (.isub, 1) := by decide +kernel
theorem dX0_distance_14 : decode cX0_distance 14 = .ok (.istore_n 3, 1) := by decide +kernel
theorem dX0_distance_15 : decode cX0_distance 15 = .ok (.iload_n 3, 1) := by decide +kernel
theorem dX0_distance_16 : decode cX0_distance 16 = .ok (.aload_n 0, 1) := by decide +kernel
theorem dX0_distance_17 : decode cX0_distance 17 = .ok (.getfield 42, 3) := by decide +kernel
theorem dX0_distance_20 : decode cX0_distance 20 = .ok (.iload_n 3, 1) := by decide +kernel
theorem dX0_distance_21 : decode cX0_distance 21 = .ok (.isub, 1) := by decide +kernel
theorem dX0_distance_22 : decode cX0_distance 22 = .ok (.if_icmp .ge 7, 3) := by decide +kernel
theorem dX0_distance_25 : decode cX0_distance 25 = .ok (.iload_n 3, 1) := by decide +kernel
theorem dX0_distance_26 : decode cX0_distance 26 = .ok (.goto 9, 3) := by decide +kernel
theorem dX0_distance_29 : decode cX0_distance 29 = .ok (.aload_n 0, 1) := by decide +kernel
theorem dX0_distance_30 : decode cX0_distance 30 = .ok (.getfield 42, 3) := by decide +kernel
theorem dX0_distance_33 : decode cX0_distance 33 = .ok (.iload_n 3, 1) := by decide +kernel
theorem dX0_distance_34 : decode cX0_distance 34 = .ok (.isub, 1) := by decide +kernel
theorem dX0_distance_35 : decode cX0_distance 35 = .ok (.ireturn, 1) := by decide +kernel
set_option maxRecDepth 20000 in
theorem ggX0_roomySlots_X0_isRoomAt : GoodIn wsX0_roomySlots wsX0_isRoomAt := goodIn_r _ [6, 7, 8, 9, 10, 11, 12, 5, 13, 1, 14, 15, 16, 17, 18, 19, 20, 21, 22, 23, 24, 25, 26] (by decide +kernel) (by decide +kernel)
set_option maxRecDepth 20000 in
theorem gX0_roomySlots_X0_isRoomAt : GoodIn wsX0_roomySlots (wsV RX0 91 RX0 yX0_isRoomAt wsX0_isRoomAt) := goodIn_app (goodIn_of _ (by decide +kernel)) ggX0_roomySlots_X0_isRoomAt
theorem dX0_roomySlots_0 : decode cX0_roomySlots 0 = .ok (.iconst 0, 1) := by decide +kernel
theorem dX0_roomySlots_1 : decode cX0_roomySlots 1 = .ok (.istore_n 1, 1) := by decide +kernel
theorem dX0_roomySlots_2 : decode cX0_roomySlots 2 = .ok (.iconst 0, 1) := by decide +kernel
theorem dX0_roomySlots_3 : decode cX0_roomySlots 3 = .ok (.istore_n 2, 1) := by decide +kernel
theorem dX0_roomySlots_4 : decode cX0_roomySlots 4 = .ok (.iload_n 2, 1) := by decide +kernel
theorem dX0_roomySlots_5 : decode cX0_roomySlots 5 = .ok (.aload_n 0, 1) := by decide +kernel
theorem dX0_roomySlots_6 : decode cX0_roomySlots 6 = .ok (.getfield 42, 3) := by decide +kernel
theorem dX0_roomySlots_9 : decode cX0_roomySlots 9 = .ok (.if_icmp .ge 20, 3) := by decide +kernel
theorem dX0_roomySlots_12 : decode cX0_roomySlots 12 = .ok (.aload_n 0, 1) := by decide +kernel
theorem dX0_roomySlots_13 : decode cX0_roomySlots 13 = .ok (.iload_n 2, 1) := by decide +kernel
theorem dX0_roomySlots_14 : decode cX0_roomySlots 14 = .ok (.invokevirtual 91, 3) := by decide +kernel
theorem dX0_roomySlots_17 : decode cX0_roomySlots 17 = .ok (.ifCond .eq 6, 3) := by decide +kernel
theorem dX0_roomySlots_20 : decode cX0_roomySlots 20 = .ok (.iinc 1 1, 3) := by decide +kernel
theorem dX0_roomySlots_23 : decode cX0_roomySlots 23 = .ok (.iinc 2 1, 3) := by decide +kernel
theorem dX0_roomySlots_26 : decode cX0_roomySlots 26 = .ok (.goto (-22), 3) := by decide +kernel
theorem dX0_roomySlots_29 : decode cX0_roomySlots 29 = .ok (.iload_n 1, 1) := by decide +kernel
theorem dX0_roomySlots_30 : decode cX0_roomySlots 30 = .ok (.ireturn, 1) := by decide +kernel
theorem dX0_slotsOn_0 : decode cX0_slotsOn 0 = .ok (.iload_n 2, 1) := by decide +kernel
theorem dX0_slotsOn_1 : decode cX0_slotsOn 1 = .ok (.iload_n 1, 1) := by decide +kernel
theorem dX0_slotsOn_2 : decode cX0_slotsOn 2 = .ok (.if_icmp .le 9, 3) := by decide +kernel
theorem dX0_slotsOn_5 : decode cX0_slotsOn 5 = .ok (.iload_n 2, 1) := by decide +kernel
theorem dX0_slotsOn_6 : decode cX0_slotsOn 6 = .ok (.iload_n 1, 1) := by decide +kernel
theorem dX0_slotsOn_7 : decode cX0_slotsOn 7 = .ok (.isub, 1) := by decide +kernel
theorem dX0_slotsOn_8 : decode cX0_slotsOn 8 = .ok (.goto 11, 3) := by decide +kernel
theorem dX0_slotsOn_11 : decode cX0_slotsOn 11 = .ok (.iload_n 2, 1) := by decide +kernel
theorem dX0_slotsOn_12 : decode cX0_slotsOn 12 = .ok (.iload_n 1, 1) := by decide +kernel
theorem dX0_slotsOn_13 : decode cX0_slotsOn 13 = .ok (.isub, 1) := by decide +kernel
theorem dX0_slotsOn_14 : decode cX0_slotsOn 14 = .ok (.aload_n 0, 1) := by decide +kernel
theorem dX0_slotsOn_15 : decode cX0_slotsOn 15 = .ok (.getfield 42, 3) := by decide +kernel
theorem dX0_slotsOn_18 : decode cX0_slotsOn 18 = .ok (.iadd, 1) := by decide +kernel
theorem dX0_slotsOn_19 : decode cX0_slotsOn 19 = .ok (.ireturn, 1) := by decide +kernel
set_option maxRecDepth 20000 in
theorem ggX0_gapBehind_X0_slotsOn : GoodIn wsX0_gapBehind wsX0_slotsOn := goodIn_r _ [12, 1, 13, 14, 15, 16, 17, 18, 19, 20, 21, 22, 23, 24, 25] (by decide +kernel) (by decide +kernel)
set_option maxRecDepth 20000 in
theorem gX0_gapBehind_X0_slotsOn : GoodIn wsX0_gapBehind (wsV RX0 102 RX0 yX0_slotsOn wsX0_slotsOn) := goodIn_app (goodIn_of _ (by decide +kernel)) ggX0_gapBehind_X0_slotsOn
theorem dX0_gapBehind_0 : decode cX0_gapBehind 0 = .ok (.aload_n 0, 1) := by decide +kernel
theorem dX0_gapBehind_1 : decode cX0_gapBehind 1 = .ok (.getfield 42, 3) := by decide +kernel
theorem dX0_gapBehind_4 : decode cX0_gapBehind 4 = .ok (.istore_n 2, 1) := by decide +kernel
theorem dX0_gapBehind_5 : decode cX0_gapBehind 5 = .ok (.iconst 0, 1) := by decide +kernel
theorem dX0_gapBehind_6 : decode cX0_gapBehind 6 = .ok (.istore_n 3, 1) := by decide +kernel
theorem dX0_gapBehind_7 : decode cX0_gapBehind 7 = .ok (.iload_n 3, 1) := by decide +kernel
theorem dX0_gapBehind_8 : decode cX0_gapBehind 8 = .ok (.bipush 12, 2) := by decide +kernel
theorem dX0_gapBehind_10 : decode cX0_gapBehind 10 = .ok (.if_icmp .ge 39, 3) := by decide +kernel
theorem dX0_gapBehind_13 : decode cX0_gapBehind 13 = .ok (.aload_n 0, 1) := by decide +kernel
theorem dX0_gapBehind_14 : decode cX0_gapBehind 14 = .ok (.getfield 27, 3) := by decide +kernel
theorem dX0_gapBehind_17 : decode cX0_gapBehind 17 = .ok (.iload_n 3, 1) := by decide +kernel
theorem dX0_gapBehind_18 : decode cX0_gapBehind 18 = .ok (.iaload, 1) := by decide +kernel
theorem dX0_gapBehind_19 : decode cX0_gapBehind 19 = .ok (.ifCond .ne 24, 3) := by decide +kernel
theorem dX0_gapBehind_22 : decode cX0_gapBehind 22 = .ok (.iload_n 2, 1) := by decide +kernel
theorem dX0_gapBehind_23 : decode cX0_gapBehind 23 = .ok (.aload_n 0, 1) := by decide +kernel
theorem dX0_gapBehind_24 : decode cX0_gapBehind 24 = .ok (.aload_n 0, 1) := by decide +kernel
theorem dX0_gapBehind_25 : decode cX0_gapBehind 25 = .ok (.getfield 30, 3) := by decide +kernel
theorem dX0_gapBehind_28 : decode cX0_gapBehind 28 = .ok (.iload_n 1, 1) := by decide +kernel
theorem dX0_gapBehind_29 : decode cX0_gapBehind 29 = .ok (.iaload, 1) := by decide +kernel
theorem dX0_gapBehind_30 : decode cX0_gapBehind 30 = .ok (.aload_n 0, 1) := by decide +kernel
theorem dX0_gapBehind_31 : decode cX0_gapBehind 31 = .ok (.getfield 30, 3) := by decide +kernel
theorem dX0_gapBehind_34 : decode cX0_gapBehind 34 = .ok (.iload_n 3, 1) := by decide +kernel
theorem dX0_gapBehind_35 : decode cX0_gapBehind 35 = .ok (.iaload, 1) := by decide +kernel
theorem dX0_gapBehind_36 : decode cX0_gapBehind 36 = .ok (.invokevirtual 102, 3) := by decide +kernel
theorem dX0_gapBehind_39 : decode cX0_gapBehind 39 = .ok (.invokestatic 105, 3) := by decide +kernel
theorem dX0_gapBehind_42 : decode cX0_gapBehind 42 = .ok (.istore_n 2, 1) := by decide +kernel
theorem dX0_gapBehind_43 : decode cX0_gapBehind 43 = .ok (.iinc 3 1, 3) := by decide +kernel
theorem dX0_gapBehind_46 : decode cX0_gapBehind 46 = .ok (.goto (-39), 3) := by decide +kernel
theorem dX0_gapBehind_49 : decode cX0_gapBehind 49 = .ok (.iload_n 2, 1) := by decide +kernel
theorem dX0_gapBehind_50 : decode cX0_gapBehind 50 = .ok (.ireturn, 1) := by decide +kernel
set_option maxRecDepth 20000 in
theorem ggX0_smallestGap_X0_gapBehind : GoodIn wsX0_smallestGap wsX0_gapBehind := goodIn_r _ [6, 7, 1, 8, 9, 10, 11, 12, 13, 14, 15, 5, 16, 17, 18, 19, 20, 21, 22, 23, 24, 25, 26, 27, 28, 29] (by decide +kernel) (by decide +kernel)
set_option maxRecDepth 20000 in
theorem gX0_smallestGap_X0_gapBehind : GoodIn wsX0_smallestGap (wsV RX0 110 RX0 yX0_gapBehind wsX0_gapBehind) := goodIn_app (goodIn_of _ (by decide +kernel)) ggX0_smallestGap_X0_gapBehind
theorem dX0_smallestGap_0 : decode cX0_smallestGap 0 = .ok (.bipush (-9), 2) := by decide +kernel
theorem dX0_smallestGap_2 : decode cX0_smallestGap 2 = .ok (.istore_n 1, 1) := by decide +kernel
theorem dX0_smallestGap_3 : decode cX0_smallestGap 3 = .ok (.iconst 0, 1) := by decide +kernel
theorem dX0_smallestGap_4 : decode cX0_smallestGap 4 = .ok (.istore_n 2, 1) := by decide +kernel
theorem dX0_smallestGap_5 : decode cX0_smallestGap 5 = .ok (.iload_n 2, 1) := by decide +kernel
theorem dX0_smallestGap_6 : decode cX0_smallestGap 6 = .ok (.bipush 12, 2) := by decide +kernel
theorem dX0_smallestGap_8 : decode cX0_smallestGap 8 = .ok (.if_icmp .ge 40, 3) := by decide +kernel
theorem dX0_smallestGap_11 : decode cX0_smallestGap 11 = .ok (.aload_n 0, 1) := by decide +kernel
theorem dX0_smallestGap_12 : decode cX0_smallestGap 12 = .ok (.getfield 27, 3) := by decide +kernel
theorem dX0_smallestGap_15 : decode cX0_smallestGap 15 = .ok (.iload_n 2, 1) := by decide +kernel
theorem dX0_smallestGap_16 : decode cX0_smallestGap 16 = .ok (.iaload, 1) := by decide +kernel
theorem dX0_smallestGap_17 : decode cX0_smallestGap 17 = .ok (.ifCond .eq 6, 3) := by decide +kernel
theorem dX0_smallestGap_20 : decode cX0_smallestGap 20 = .ok (.goto 22, 3) := by decide +kernel
theorem dX0_smallestGap_23 : decode cX0_smallestGap 23 = .ok (.aload_n 0, 1) := by decide +kernel
theorem dX0_smallestGap_24 : decode cX0_smallestGap 24 = .ok (.iload_n 2, 1) := by decide +kernel
theorem dX0_smallestGap_25 : decode cX0_smallestGap 25 = .ok (.invokevirtual 110, 3) := by decide +kernel
theorem dX0_smallestGap_28 : decode cX0_smallestGap 28 = .ok (.istore_n 3, 1) := by decide +kernel
theorem dX0_smallestGap_29 : decode cX0_smallestGap 29 = .ok (.iload_n 1, 1) := by decide +kernel
theorem dX0_smallestGap_30 : decode cX0_smallestGap 30 = .ok (.bipush (-9), 2) := by decide +kernel
theorem dX0_smallestGap_32 : decode cX0_smallestGap 32 = .ok (.if_icmp .eq 8, 3) := by decide +kernel
theorem dX0_smallestGap_35 : decode cX0_smallestGap 35 = .ok (.iload_n 3, 1) := by decide +kernel
theorem dX0_smallestGap_36 : decode cX0_smallestGap 36 = .ok (.iload_n 1, 1) := by decide +kernel
theorem dX0_smallestGap_37 : decode cX0_smallestGap 37 = .ok (.if_icmp .ge 5, 3) := by decide +kernel
theorem dX0_smallestGap_40 : decode cX0_smallestGap 40 = .ok (.iload_n 3, 1) := by decide +kernel
theorem dX0_smallestGap_41 : decode cX0_smallestGap 41 = .ok (.istore_n 1, 1) := by decide +kernel
theorem dX0_smallestGap_42 : decode cX0_smallestGap 42 = .ok (.iinc 2 1, 3) := by decide +kernel
theorem dX0_smallestGap_45 : decode cX0_smallestGap 45 = .ok (.goto (-40), 3) := by decide +kernel
theorem dX0_smallestGap_48 : decode cX0_smallestGap 48 = .ok (.iload_n 1, 1) := by decide +kernel
theorem dX0_smallestGap_49 : decode cX0_smallestGap 49 = .ok (.ireturn, 1) := by decide +kernel
theorem dX0_capacity_0 : decode cX0_capacity 0 = .ok (.aload_n 0, 1) := by decide +kernel
theorem dX0_capacity_1 : decode cX0_capacity 1 = .ok (.getfield 36, 3) := by decide +kernel
theorem dX0_capacity_4 : decode cX0_capacity 4 = .ok (.iconst 3, 1) := by decide +kernel
theorem dX0_capacity_5 : decode cX0_capacity 5 = .ok (.iaload, 1) := by decide +kernel
theorem dX0_capacity_6 : decode cX0_capacity 6 = .ok (.istore_n 1, 1) := by decide +kernel
theorem dX0_capacity_7 : decode cX0_capacity 7 = .ok (.iload_n 1, 1) := by decide +kernel
theorem dX0_capacity_8 : decode cX0_capacity 8 = .ok (.ifCond .le 12, 3) := by decide +kernel
theorem dX0_capacity_11 : decode cX0_capacity 11 = .ok (.aload_n 0, 1) := by decide +kernel
theorem dX0_capacity_12 : decode cX0_capacity 12 = .ok (.getfield 42, 3) := by decide +kernel
theorem dX0_capacity_15 : decode cX0_capacity 15 = .ok (.iload_n 1, 1) := by decide +kernel
theorem dX0_capacity_16 : decode cX0_capacity 16 = .ok (.idiv, 1) := by decide +kernel
theorem dX0_capacity_17 : decode cX0_capacity 17 = .ok (.goto 4, 3) := by decide +kernel
theorem dX0_capacity_20 : decode cX0_capacity 20 = .ok (.iconst 0, 1) := by decide +kernel
theorem dX0_capacity_21 : decode cX0_capacity 21 = .ok (.ireturn, 1) := by decide +kernel
set_option maxRecDepth 20000 in
theorem ggX0_stepsUntilDue_X0_slotsOn : GoodIn wsX0_stepsUntilDue wsX0_slotsOn := goodIn_r _ [14, 9, 15, 16, 17, 18, 19, 20, 21, 22, 23, 24, 25, 26, 27] (by decide +kernel) (by decide +kernel)
set_option maxRecDepth 20000 in
theorem gX0_stepsUntilDue_X0_slotsOn : GoodIn wsX0_stepsUntilDue (wsV RX0 102 RX0 yX0_slotsOn wsX0_slotsOn) := goodIn_app (goodIn_of _ (by decide +kernel)) ggX0_stepsUntilDue_X0_slotsOn
theorem dX0_stepsUntilDue_0 : decode cX0_stepsUntilDue 0 = .ok (.iconst 1, 1) := by decide +kernel
theorem dX0_stepsUntilDue_1 : decode cX0_stepsUntilDue 1 = .ok (.aload_n 0, 1) := by decide +kernel
theorem dX0_stepsUntilDue_2 : decode cX0_stepsUntilDue 2 = .ok (.getfield 36, 3) := by decide +kernel
theorem dX0_stepsUntilDue_5 : decode cX0_stepsUntilDue 5 = .ok (.iconst 0, 1) := by decide +kernel
theorem dX0_stepsUntilDue_6 : decode cX0_stepsUntilDue 6 = .ok (.iaload, 1) := by decide +kernel
theorem dX0_stepsUntilDue_7 : decode cX0_stepsUntilDue 7 = .ok (.aload_n 0, 1) := by decide +kernel
theorem dX0_stepsUntilDue_8 : decode cX0_stepsUntilDue 8 = .ok (.getfield 15, 3) := by decide +kernel
theorem dX0_stepsUntilDue_11 : decode cX0_stepsUntilDue 11 = .ok (.iload_n 1, 1) := by decide +kernel
theorem dX0_stepsUntilDue_12 : decode cX0_stepsUntilDue 12 = .ok (.iaload, 1) := by decide +kernel
theorem dX0_stepsUntilDue_13 : decode cX0_stepsUntilDue 13 = .ok (.isub, 1) := by decide +kernel
theorem dX0_stepsUntilDue_14 : decode cX0_stepsUntilDue 14 = .ok (.invokestatic 113, 3) := by decide +kernel
theorem dX0_stepsUntilDue_17 : decode cX0_stepsUntilDue 17 = .ok (.istore_n 2, 1) := by decide +kernel
theorem dX0_stepsUntilDue_18 : decode cX0_stepsUntilDue 18 = .ok (.aload_n 0, 1) := by decide +kernel
theorem dX0_stepsUntilDue_19 : decode cX0_stepsUntilDue 19 = .ok (.aload_n 0, 1) := by decide +kernel
theorem dX0_stepsUntilDue_20 : decode cX0_stepsUntilDue 20 = .ok (.getfield 46, 3) := by decide +kernel
theorem dX0_stepsUntilDue_23 : decode cX0_stepsUntilDue 23 = .ok (.aload_n 0, 1) := by decide +kernel
theorem dX0_stepsUntilDue_24 : decode cX0_stepsUntilDue 24 = .ok (.getfield 30, 3) := by decide +kernel
theorem dX0_stepsUntilDue_27 : decode cX0_stepsUntilDue 27 = .ok (.iload_n 1, 1) := by decide +kernel
theorem dX0_stepsUntilDue_28 : decode cX0_stepsUntilDue 28 = .ok (.iaload, 1) := by decide +kernel
theorem dX0_stepsUntilDue_29 : decode cX0_stepsUntilDue 29 = .ok (.invokevirtual 102, 3) := by decide +kernel
theorem dX0_stepsUntilDue_32 : decode cX0_stepsUntilDue 32 = .ok (.iload_n 2, 1) := by decide +kernel
theorem dX0_stepsUntilDue_33 : decode cX0_stepsUntilDue 33 = .ok (.iconst 1, 1) := by decide +kernel
theorem dX0_stepsUntilDue_34 : decode cX0_stepsUntilDue 34 = .ok (.isub, 1) := by decide +kernel
theorem dX0_stepsUntilDue_35 : decode cX0_stepsUntilDue 35 = .ok (.aload_n 0, 1) := by decide +kernel
theorem dX0_stepsUntilDue_36 : decode cX0_stepsUntilDue 36 = .ok (.getfield 42, 3) := by decide +kernel
theorem dX0_stepsUntilDue_39 : decode cX0_stepsUntilDue 39 = .ok (.imul, 1) := by decide +kernel
theorem dX0_stepsUntilDue_40 : decode cX0_stepsUntilDue 40 = .ok (.iadd, 1) := by decide +kernel
theorem dX0_stepsUntilDue_41 : decode cX0_stepsUntilDue 41 = .ok (.ireturn, 1) := by decide +kernel
theorem dX0_isGrouped_0 : decode cX0_isGrouped 0 = .ok (.aload_n 0, 1) := by decide +kernel
theorem dX0_isGrouped_1 : decode cX0_isGrouped 1 = .ok (.getfield 27, 3) := by decide +kernel
theorem dX0_isGrouped_4 : decode cX0_isGrouped 4 = .ok (.iload_n 1, 1) := by decide +kernel
theorem dX0_isGrouped_5 : decode cX0_isGrouped 5 = .ok (.iaload, 1) := by decide +kernel
theorem dX0_isGrouped_6 : decode cX0_isGrouped 6 = .ok (.iconst (-1), 1) := by decide +kernel
theorem dX0_isGrouped_7 : decode cX0_isGrouped 7 = .ok (.if_icmp .eq 17, 3) := by decide +kernel
theorem dX0_isGrouped_10 : decode cX0_isGrouped 10 = .ok (.aload_n 0, 1) := by decide +kernel
theorem dX0_isGrouped_11 : decode cX0_isGrouped 11 = .ok (.getfield 27, 3) := by decide +kernel
theorem dX0_isGrouped_14 : decode cX0_isGrouped 14 = .ok (.iload_n 1, 1) := by decide +kernel
theorem dX0_isGrouped_15 : decode cX0_isGrouped 15 = .ok (.iaload, 1) := by decide +kernel
theorem dX0_isGrouped_16 : decode cX0_isGrouped 16 = .ok (.iconst 3, 1) := by decide +kernel
theorem dX0_isGrouped_17 : decode cX0_isGrouped 17 = .ok (.if_icmp .eq 7, 3) := by decide +kernel
theorem dX0_isGrouped_20 : decode cX0_isGrouped 20 = .ok (.iconst 1, 1) := by decide +kernel
theorem dX0_isGrouped_21 : decode cX0_isGrouped 21 = .ok (.goto 4, 3) := by decide +kernel
theorem dX0_isGrouped_24 : decode cX0_isGrouped 24 = .ok (.iconst 0, 1) := by decide +kernel
theorem dX0_isGrouped_25 : decode cX0_isGrouped 25 = .ok (.ireturn, 1) := by decide +kernel
set_option maxRecDepth 20000 in
theorem ggX0_areTogether_X0_isGrouped : GoodIn wsX0_areTogether wsX0_isGrouped := goodIn_r _ [7, 8, 9, 10, 11, 12, 13, 14, 15, 16, 17, 18, 19, 20, 21] (by decide +kernel) (by decide +kernel)
set_option maxRecDepth 20000 in
theorem gX0_areTogether_X0_isGrouped : GoodIn wsX0_areTogether (wsV RX0 116 RX0 yX0_isGrouped wsX0_isGrouped) := goodIn_app (goodIn_of _ (by decide +kernel)) ggX0_areTogether_X0_isGrouped
theorem dX0_areTogether_0 : decode cX0_areTogether 0 = .ok (.aload_n 0, 1) := by decide +kernel
theorem dX0_areTogether_1 : decode cX0_areTogether 1 = .ok (.getfield 9, 3) := by decide +kernel
theorem dX0_areTogether_4 : decode cX0_areTogether 4 = .ok (.iload_n 1, 1) := by decide +kernel
theorem dX0_areTogether_5 : decode cX0_areTogether 5 = .ok (.iaload, 1) := by decide +kernel
theorem dX0_areTogether_6 : decode cX0_areTogether 6 = .ok (.aload_n 0, 1) := by decide +kernel
theorem dX0_areTogether_7 : decode cX0_areTogether 7 = .ok (.getfield 9, 3) := by decide +kernel
theorem dX0_areTogether_10 : decode cX0_areTogether 10 = .ok (.iload_n 2, 1) := by decide +kernel
theorem dX0_areTogether_11 : decode cX0_areTogether 11 = .ok (.iaload, 1) := by decide +kernel
theorem dX0_areTogether_12 : decode cX0_areTogether 12 = .ok (.if_icmp .ne 28, 3) := by decide +kernel
theorem dX0_areTogether_15 : decode cX0_areTogether 15 = .ok (.aload_n 0, 1) := by decide +kernel
theorem dX0_areTogether_16 : decode cX0_areTogether 16 = .ok (.getfield 15, 3) := by decide +kernel
theorem dX0_areTogether_19 : decode cX0_areTogether 19 = .ok (.iload_n 1, 1) := by decide +kernel
theorem dX0_areTogether_20 : decode cX0_areTogether 20 = .ok (.iaload, 1) := by decide +kernel
theorem dX0_areTogether_21 : decode cX0_areTogether 21 = .ok (.bipush 10, 2) := by decide +kernel
theorem dX0_areTogether_23 : decode cX0_areTogether 23 = .ok (.idiv, 1) := by decide +kernel
theorem dX0_areTogether_24 : decode cX0_areTogether 24 = .ok (.aload_n 0, 1) := by decide +kernel
theorem dX0_areTogether_25 : decode cX0_areTogether 25 = .ok (.getfield 15, 3) := by decide +kernel
theorem dX0_areTogether_28 : decode cX0_areTogether 28 = .ok (.iload_n 2, 1) := by decide +kernel
theorem dX0_areTogether_29 : decode cX0_areTogether 29 = .ok (.iaload, 1) := by decide +kernel
theorem dX0_areTogether_30 : decode cX0_areTogether 30 = .ok (.bipush 10, 2) := by decide +kernel
theorem dX0_areTogether_32 : decode cX0_areTogether 32 = .ok (.idiv, 1) := by decide +kernel
theorem dX0_areTogether_33 : decode cX0_areTogether 33 = .ok (.if_icmp .ne 7, 3) := by decide +kernel
theorem dX0_areTogether_36 : decode cX0_areTogether 36 = .ok (.iconst 1, 1) := by decide +kernel
theorem dX0_areTogether_37 : decode cX0_areTogether 37 = .ok (.goto 4, 3) := by decide +kernel
theorem dX0_areTogether_40 : decode cX0_areTogether 40 = .ok (.iconst 0, 1) := by decide +kernel
theorem dX0_areTogether_41 : decode cX0_areTogether 41 = .ok (.istore_n 3, 1) := by decide +kernel
theorem dX0_areTogether_42 : decode cX0_areTogether 42 = .ok (.iload_n 3, 1) := by decide +kernel
theorem dX0_areTogether_43 : decode cX0_areTogether 43 = .ok (.ifCond .eq 23, 3) := by decide +kernel
theorem dX0_areTogether_46 : decode cX0_areTogether 46 = .ok (.aload_n 0, 1) := by decide +kernel
theorem dX0_areTogether_47 : decode cX0_areTogether 47 = .ok (.iload_n 1, 1) := by decide +kernel
theorem dX0_areTogether_48 : decode cX0_areTogether 48 = .ok (.invokevirtual 116, 3) := by decide +kernel
theorem dX0_areTogether_51 : decode cX0_areTogether 51 = .ok (.ifCond .eq 15, 3) := by decide +kernel
theorem dX0_areTogether_54 : decode cX0_areTogether 54 = .ok (.aload_n 0, 1) := by decide +kernel
theorem dX0_areTogether_55 : decode cX0_areTogether 55 = .ok (.iload_n 2, 1) := by decide +kernel
theorem dX0_areTogether_56 : decode cX0_areTogether 56 = .ok (.invokevirtual 116, 3) := by decide +kernel
theorem dX0_areTogether_59 : decode cX0_areTogether 59 = .ok (.ifCond .eq 7, 3) := by decide +kernel
theorem dX0_areTogether_62 : decode cX0_areTogether 62 = .ok (.iconst 1, 1) := by decide +kernel
theorem dX0_areTogether_63 : decode cX0_areTogether 63 = .ok (.goto 4, 3) := by decide +kernel
theorem dX0_areTogether_66 : decode cX0_areTogether 66 = .ok (.iconst 0, 1) := by decide +kernel
theorem dX0_areTogether_67 : decode cX0_areTogether 67 = .ok (.ireturn, 1) := by decide +kernel
set_option maxRecDepth 20000 in
theorem ggX0_opensGroup_X0_areTogether : GoodIn wsX0_opensGroup wsX0_areTogether := goodIn_r _ [5, 6, 7, 8, 9, 10, 4, 11, 12, 13, 14, 15, 16, 17, 18, 19, 20, 21, 22, 23, 24, 25] (by decide +kernel) (by decide +kernel)
set_option maxRecDepth 20000 in
theorem gX0_opensGroup_X0_areTogether : GoodIn wsX0_opensGroup (wsV RX0 119 RX0 yX0_areTogether wsX0_areTogether) := goodIn_app (goodIn_of _ (by decide +kernel)) ggX0_opensGroup_X0_areTogether
set_option maxRecDepth 20000 in
theorem ggX0_opensGroup_X0_isGrouped : GoodIn wsX0_opensGroup wsX0_isGrouped := goodIn_r _ [11, 12, 13, 14, 15, 16, 17, 18, 19, 20, 21, 22, 23, 24, 25] (by decide +kernel) (by decide +kernel)
set_option maxRecDepth 20000 in
theorem gX0_opensGroup_X0_isGrouped : GoodIn wsX0_opensGroup (wsV RX0 116 RX0 yX0_isGrouped wsX0_isGrouped) := goodIn_app (goodIn_of _ (by decide +kernel)) ggX0_opensGroup_X0_isGrouped
theorem dX0_opensGroup_0 : decode cX0_opensGroup 0 = .ok (.iconst 0, 1) := by decide +kernel
theorem dX0_opensGroup_1 : decode cX0_opensGroup 1 = .ok (.istore_n 2, 1) := by decide +kernel
theorem dX0_opensGroup_2 : decode cX0_opensGroup 2 = .ok (.iload_n 2, 1) := by decide +kernel
theorem dX0_opensGroup_3 : decode cX0_opensGroup 3 = .ok (.iload_n 1, 1) := by decide +kernel
theorem dX0_opensGroup_4 : decode cX0_opensGroup 4 = .ok (.if_icmp .ge 20, 3) := by decide +kernel
theorem dX0_opensGroup_7 : decode cX0_opensGroup 7 = .ok (.aload_n 0, 1) := by decide +kernel
theorem dX0_opensGroup_8 : decode cX0_opensGroup 8 = .ok (.iload_n 1, 1) := by decide +kernel
theorem dX0_opensGroup_9 : decode cX0_opensGroup 9 = .ok (.iload_n 2, 1) := by decide +kernel
theorem dX0_opensGroup_10 : decode cX0_opensGroup 10 = .ok (.invokevirtual 119, 3) := by decide +kernel
theorem dX0_opensGroup_13 : decode cX0_opensGroup 13 = .ok (.ifCond .eq 5, 3) := by decide +kernel
theorem dX0_opensGroup_16 : decode cX0_opensGroup 16 = .ok (.iconst 0, 1) := by decide +kernel
theorem dX0_opensGroup_17 : decode cX0_opensGroup 17 = .ok (.ireturn, 1) := by decide +kernel
theorem dX0_opensGroup_18 : decode cX0_opensGroup 18 = .ok (.iinc 2 1, 3) := by decide +kernel
theorem dX0_opensGroup_21 : decode cX0_opensGroup 21 = .ok (.goto (-19), 3) := by decide +kernel
theorem dX0_opensGroup_24 : decode cX0_opensGroup 24 = .ok (.aload_n 0, 1) := by decide +kernel
theorem dX0_opensGroup_25 : decode cX0_opensGroup 25 = .ok (.iload_n 1, 1) := by decide +kernel
theorem dX0_opensGroup_26 : decode cX0_opensGroup 26 = .ok (.invokevirtual 116, 3) := by decide +kernel
theorem dX0_opensGroup_29 : decode cX0_opensGroup 29 = .ok (.ireturn, 1) := by decide +kernel
set_option maxRecDepth 20000 in
theorem ggX0_groupSize_X0_areTogether : GoodIn wsX0_groupSize wsX0_areTogether := goodIn_r _ [5, 6, 7, 8, 9, 10, 4, 11, 12, 13, 14, 15, 16, 17, 18, 19, 20, 21, 22, 23, 24, 25] (by decide +kernel) (by decide +kernel)
set_option maxRecDepth 20000 in
theorem gX0_groupSize_X0_areTogether : GoodIn wsX0_groupSize (wsV RX0 119 RX0 yX0_areTogether wsX0_areTogether) := goodIn_app (goodIn_of _ (by decide +kernel)) ggX0_groupSize_X0_areTogether
theorem dX0_groupSize_0 : decode cX0_groupSize 0 = .ok (.iconst 0, 1) := by decide +kernel
theorem dX0_groupSize_1 : decode cX0_groupSize 1 = .ok (.istore_n 2, 1) := by decide +kernel
theorem dX0_groupSize_2 : decode cX0_groupSize 2 = .ok (.iconst 0, 1) := by decide +kernel
theorem dX0_groupSize_3 : decode cX0_groupSize 3 = .ok (.istore_n 3, 1) := by decide +kernel
theorem dX0_groupSize_4 : decode cX0_groupSize 4 = .ok (.iload_n 3, 1) := by decide +kernel
theorem dX0_groupSize_5 : decode cX0_groupSize 5 = .ok (.bipush 12, 2) := by decide +kernel
theorem dX0_groupSize_7 : decode cX0_groupSize 7 = .ok (.if_icmp .ge 21, 3) := by decide +kernel
theorem dX0_groupSize_10 : decode cX0_groupSize 10 = .ok (.aload_n 0, 1) := by decide +kernel
theorem dX0_groupSize_11 : decode cX0_groupSize 11 = .ok (.iload_n 1, 1) := by decide +kernel
theorem dX0_groupSize_12 : decode cX0_groupSize 12 = .ok (.iload_n 3, 1) := by decide +kernel
theorem dX0_groupSize_13 : decode cX0_groupSize 13 = .ok (.invokevirtual 119, 3) := by decide +kernel
theorem dX0_groupSize_16 : decode cX0_groupSize 16 = .ok (.ifCond .eq 6, 3) := by decide +kernel
theorem dX0_groupSize_19 : decode cX0_groupSize 19 = .ok (.iinc 2 1, 3) := by decide +kernel
theorem dX0_groupSize_22 : decode cX0_groupSize 22 = .ok (.iinc 3 1, 3) := by decide +kernel
theorem dX0_groupSize_25 : decode cX0_groupSize 25 = .ok (.goto (-21), 3) := by decide +kernel
theorem dX0_groupSize_28 : decode cX0_groupSize 28 = .ok (.iload_n 2, 1) := by decide +kernel
theorem dX0_groupSize_29 : decode cX0_groupSize 29 = .ok (.ireturn, 1) := by decide +kernel
set_option maxRecDepth 20000 in
theorem ggX0_describe_X3_clear : GoodIn wsX0_describe wsX3_clear := goodIn_r _ [6, 7, 39, 40] (by decide +kernel) (by decide +kernel)
set_option maxRecDepth 20000 in
theorem gX0_describe_X3_clear : GoodIn wsX0_describe (wsV RX0 123 RX3 yX3_clear wsX3_clear) := goodIn_app (goodIn_of _ (by decide +kernel)) ggX0_describe_X3_clear
set_option maxRecDepth 20000 in
theorem ggX0_describe_X0_describeGrip : GoodIn wsX0_describe wsX0_describeGrip := goodIn_r _ [12, 13, 1, 14, 15, 16, 17, 18, 5, 19, 7, 20, 21, 22, 23, 24, 25, 39, 40, 26, 27, 28, 29, 30, 31, 32, 33, 34, 35, 36, 37, 38] (by decide +kernel) (by decide +kernel)
set_option maxRecDepth 20000 in
theorem gX0_describe_X0_describeGrip : GoodIn wsX0_describe (wsV RX0 126 RX0 yX0_describeGrip wsX0_describeGrip) := goodIn_app (goodIn_of _ (by decide +kernel)) ggX0_describe_X0_describeGrip
theorem dX0_describe_0 : decode cX0_describe 0 = .ok (.aload_n 1, 1) := by decide +kernel
theorem dX0_describe_1 : decode cX0_describe 1 = .ok (.invokevirtual 123, 3) := by decide +kernel
theorem dX0_describe_4 : decode cX0_describe 4 = .ok (.iconst 0, 1) := by decide +kernel
theorem dX0_describe_5 : decode cX0_describe 5 = .ok (.istore_n 2, 1) := by decide +kernel
theorem dX0_describe_6 : decode cX0_describe 6 = .ok (.iload_n 2, 1) := by decide +kernel
theorem dX0_describe_7 : decode cX0_describe 7 = .ok (.bipush 12, 2) := by decide +kernel
theorem dX0_describe_9 : decode cX0_describe 9 = .ok (.if_icmp .ge 25, 3) := by decide +kernel
theorem dX0_describe_12 : decode cX0_describe 12 = .ok (.aload_n 0, 1) := by decide +kernel
theorem dX0_describe_13 : decode cX0_describe 13 = .ok (.getfield 27, 3) := by decide +kernel
theorem dX0_describe_16 : decode cX0_describe 16 = .ok (.iload_n 2, 1) := by decide +kernel
theorem dX0_describe_17 : decode cX0_describe 17 = .ok (.iaload, 1) := by decide +kernel
theorem dX0_describe_18 : decode cX0_describe 18 = .ok (.iconst (-1), 1) := by decide +kernel
theorem dX0_describe_19 : decode cX0_describe 19 = .ok (.if_icmp .eq 9, 3) := by decide +kernel
theorem dX0_describe_22 : decode cX0_describe 22 = .ok (.aload_n 0, 1) := by decide +kernel
theorem dX0_describe_23 : decode cX0_describe 23 = .ok (.iload_n 2, 1) := by decide +kernel
theorem dX0_describe_24 : decode cX0_describe 24 = .ok (.aload_n 1, 1) := by decide +kernel
theorem dX0_describe_25 : decode cX0_describe 25 = .ok (.invokevirtual 126, 3) := by decide +kernel
theorem dX0_describe_28 : decode cX0_describe 28 = .ok (.iinc 2 1, 3) := by decide +kernel
theorem dX0_describe_31 : decode cX0_describe 31 = .ok (.goto (-25), 3) := by decide +kernel
theorem dX0_describe_34 : decode cX0_describe 34 = .ok (.return_, 1) := by decide +kernel
set_option maxRecDepth 20000 in
theorem ggX0_describeGrip_X3_put : GoodIn wsX0_describeGrip wsX3_put := goodIn_r _ [9, 10, 11, 17, 18] (by decide +kernel) (by decide +kernel)
set_option maxRecDepth 20000 in
theorem gX0_describeGrip_X3_put : GoodIn wsX0_describeGrip (wsV RX0 133 RX3 yX3_put wsX3_put) := goodIn_app (goodIn_of _ (by decide +kernel)) ggX0_describeGrip_X3_put
set_option maxRecDepth 20000 in
theorem ggX0_describeGrip_X3_putNumber : GoodIn wsX0_describeGrip wsX3_putNumber := goodIn_r _ [15, 16, 6, 7, 8, 9, 10, 11, 17, 18] (by decide +kernel) (by decide +kernel)
set_option maxRecDepth 20000 in
theorem gX0_describeGrip_X3_putNumber : GoodIn wsX0_describeGrip (wsV RX0 137 RX3 yX3_putNumber wsX3_putNumber) := goodIn_app (goodIn_of _ (by decide +kernel)) ggX0_describeGrip_X3_putNumber
theorem dX0_describeGrip_0 : decode cX0_describeGrip 0 = .ok (.aload_n 2, 1) := by decide +kernel
theorem dX0_describeGrip_1 : decode cX0_describeGrip 1 = .ok (.getfield 130, 3) := by decide +kernel
theorem dX0_describeGrip_4 : decode cX0_describeGrip 4 = .ok (.ifCond .le 9, 3) := by decide +kernel
theorem dX0_describeGrip_7 : decode cX0_describeGrip 7 = .ok (.aload_n 2, 1) := by decide +kernel
theorem dX0_describeGrip_8 : decode cX0_describeGrip 8 = .ok (.bipush 32, 2) := by decide +kernel
theorem dX0_describeGrip_10 : decode cX0_describeGrip 10 = .ok (.invokevirtual 133, 3) := by decide +kernel
theorem dX0_describeGrip_13 : decode cX0_describeGrip 13 = .ok (.aload_n 2, 1) := by decide +kernel
theorem dX0_describeGrip_14 : decode cX0_describeGrip 14 = .ok (.bipush 97, 2) := by decide +kernel
theorem dX0_describeGrip_16 : decode cX0_describeGrip 16 = .ok (.iload_n 1, 1) := by decide +kernel
theorem dX0_describeGrip_17 : decode cX0_describeGrip 17 = .ok (.iadd, 1) := by decide +kernel
theorem dX0_describeGrip_18 : decode cX0_describeGrip 18 = .ok (.i2c, 1) := by decide +kernel
theorem dX0_describeGrip_19 : decode cX0_describeGrip 19 = .ok (.invokevirtual 133, 3) := by decide +kernel
theorem dX0_describeGrip_22 : decode cX0_describeGrip 22 = .ok (.aload_n 0, 1) := by decide +kernel
theorem dX0_describeGrip_23 : decode cX0_describeGrip 23 = .ok (.getfield 27, 3) := by decide +kernel
theorem dX0_describeGrip_26 : decode cX0_describeGrip 26 = .ok (.iload_n 1, 1) := by decide +kernel
theorem dX0_describeGrip_27 : decode cX0_describeGrip 27 = .ok (.iaload, 1) := by decide +kernel
theorem dX0_describeGrip_28 : decode cX0_describeGrip 28 = .ok (.tableswitch 75 0 2 #[28, 47, 56], 28) := by decide +kernel
theorem dX0_describeGrip_56 : decode cX0_describeGrip 56 = .ok (.aload_n 2, 1) := by decide +kernel
theorem dX0_describeGrip_57 : decode cX0_describeGrip 57 = .ok (.bipush 64, 2) := by decide +kernel
theorem dX0_describeGrip_59 : decode cX0_describeGrip 59 = .ok (.invokevirtual 133, 3) := by decide +kernel
theorem dX0_describeGrip_62 : decode cX0_describeGrip 62 = .ok (.aload_n 2, 1) := by decide +kernel
theorem dX0_describeGrip_63 : decode cX0_describeGrip 63 = .ok (.aload_n 0, 1) := by decide +kernel
theorem dX0_describeGrip_64 : decode cX0_describeGrip 64 = .ok (.getfield 30, 3) := by decide +kernel
theorem dX0_describeGrip_67 : decode cX0_describeGrip 67 = .ok (.iload_n 1, 1) := by decide +kernel
theorem dX0_describeGrip_68 : decode cX0_describeGrip 68 = .ok (.iaload, 1) := by decide +kernel
theorem dX0_describeGrip_69 : decode cX0_describeGrip 69 = .ok (.invokevirtual 137, 3) := by decide +kernel
theorem dX0_describeGrip_72 : decode cX0_describeGrip 72 = .ok (.goto 37, 3) := by decide +kernel
theorem dX0_describeGrip_75 : decode cX0_describeGrip 75 = .ok (.aload_n 2, 1) := by decide +kernel
theorem dX0_describeGrip_76 : decode cX0_describeGrip 76 = .ok (.bipush 103, 2) := by decide +kernel
theorem dX0_describeGrip_78 : decode cX0_describeGrip 78 = .ok (.invokevirtual 133, 3) := by decide +kernel
theorem dX0_describeGrip_81 : decode cX0_describeGrip 81 = .ok (.goto 28, 3) := by decide +kernel
theorem dX0_describeGrip_84 : decode cX0_describeGrip 84 = .ok (.aload_n 2, 1) := by decide +kernel
theorem dX0_describeGrip_85 : decode cX0_describeGrip 85 = .ok (.bipush 119, 2) := by decide +kernel
theorem dX0_describeGrip_87 : decode cX0_describeGrip 87 = .ok (.invokevirtual 133, 3) := by decide +kernel
theorem dX0_describeGrip_90 : decode cX0_describeGrip 90 = .ok (.aload_n 2, 1) := by decide +kernel
theorem dX0_describeGrip_91 : decode cX0_describeGrip 91 = .ok (.aload_n 0, 1) := by decide +kernel
theorem dX0_describeGrip_92 : decode cX0_describeGrip 92 = .ok (.getfield 33, 3) := by decide +kernel
theorem dX0_describeGrip_95 : decode cX0_describeGrip 95 = .ok (.iload_n 1, 1) := by decide +kernel
theorem dX0_describeGrip_96 : decode cX0_describeGrip 96 = .ok (.iaload, 1) := by decide +kernel
theorem dX0_describeGrip_97 : decode cX0_describeGrip 97 = .ok (.invokevirtual 137, 3) := by decide +kernel
theorem dX0_describeGrip_100 : decode cX0_describeGrip 100 = .ok (.goto 9, 3) := by decide +kernel
theorem dX0_describeGrip_103 : decode cX0_describeGrip 103 = .ok (.aload_n 2, 1) := by decide +kernel
theorem dX0_describeGrip_104 : decode cX0_describeGrip 104 = .ok (.bipush 120, 2) := by decide +kernel
theorem dX0_describeGrip_106 : decode cX0_describeGrip 106 = .ok (.invokevirtual 133, 3) := by decide +kernel
theorem dX0_describeGrip_109 : decode cX0_describeGrip 109 = .ok (.return_, 1) := by decide +kernel
