theorem dJ9_max_7cf53_0 : decode cJ9_max_7cf53 0 = .ok (.iload_n 0, 1) := by decide +kernel
theorem dJ9_max_7cf53_1 : decode cJ9_max_7cf53 1 = .ok (.iload_n 1, 1) := by decide +kernel
theorem dJ9_max_7cf53_2 : decode cJ9_max_7cf53 2 = .ok (.if_icmp .lt 7, 3) := by decide +kernel
theorem dJ9_max_7cf53_5 : decode cJ9_max_7cf53 5 = .ok (.iload_n 0, 1) := by decide +kernel
theorem dJ9_max_7cf53_6 : decode cJ9_max_7cf53 6 = .ok (.goto 4, 3) := by decide +kernel
theorem dJ9_max_7cf53_9 : decode cJ9_max_7cf53 9 = .ok (.iload_n 1, 1) := by decide +kernel
theorem dJ9_max_7cf53_10 : decode cJ9_max_7cf53 10 = .ok (.ireturn, 1) := by decide +kernel
theorem dJ9_min_7cf53_0 : decode cJ9_min_7cf53 0 = .ok (.iload_n 0, 1) := by decide +kernel
theorem dJ9_min_7cf53_1 : decode cJ9_min_7cf53 1 = .ok (.iload_n 1, 1) := by decide +kernel
theorem dJ9_min_7cf53_2 : decode cJ9_min_7cf53 2 = .ok (.if_icmp .gt 7, 3) := by decide +kernel
theorem dJ9_min_7cf53_5 : decode cJ9_min_7cf53 5 = .ok (.iload_n 0, 1) := by decide +kernel
theorem dJ9_min_7cf53_6 : decode cJ9_min_7cf53 6 = .ok (.goto 4, 3) := by decide +kernel
theorem dJ9_min_7cf53_9 : decode cJ9_min_7cf53 9 = .ok (.iload_n 1, 1) := by decide +kernel
theorem dJ9_min_7cf53_10 : decode cJ9_min_7cf53 10 = .ok (.ireturn, 1) := by decide +kernel
theorem dJ0_charAt_5068e_0 : decode cJ0_charAt_5068e 0 = .ok (.aload_n 0, 1) := by decide +kernel
theorem dJ0_charAt_5068e_1 : decode cJ0_charAt_5068e 1 = .ok (.invokevirtual 492, 3) := by decide +kernel
theorem dJ0_charAt_5068e_4 : decode cJ0_charAt_5068e 4 = .ok (.ifCond .eq 12, 3) := by decide +kernel
theorem dJ0_charAt_5068e_7 : decode cJ0_charAt_5068e 7 = .ok (.aload_n 0, 1) := by decide +kernel
theorem dJ0_charAt_5068e_8 : decode cJ0_charAt_5068e 8 = .ok (.getfield 9, 3) := by decide +kernel
theorem dJ0_charAt_5068e_11 : decode cJ0_charAt_5068e 11 = .ok (.iload_n 1, 1) := by decide +kernel
theorem dJ0_charAt_5068e_12 : decode cJ0_charAt_5068e 12 = .ok (.invokestatic 495, 3) := by decide +kernel
theorem dJ0_charAt_5068e_15 : decode cJ0_charAt_5068e 15 = .ok (.ireturn, 1) := by decide +kernel
theorem dJ0_charAt_5068e_16 : decode cJ0_charAt_5068e 16 = .ok (.aload_n 0, 1) := by decide +kernel
theorem dJ0_charAt_5068e_17 : decode cJ0_charAt_5068e 17 = .ok (.getfield 9, 3) := by decide +kernel
theorem dJ0_charAt_5068e_20 : decode cJ0_charAt_5068e 20 = .ok (.iload_n 1, 1) := by decide +kernel
theorem dJ0_charAt_5068e_21 : decode cJ0_charAt_5068e 21 = .ok (.invokestatic 498, 3) := by decide +kernel
theorem dJ0_charAt_5068e_24 : decode cJ0_charAt_5068e 24 = .ok (.ireturn, 1) := by decide +kernel
theorem dJ0_isLatin1_aae02_0 : decode cJ0_isLatin1_aae02 0 = .ok (.getstatic 38, 3) := by decide +kernel
theorem dJ0_isLatin1_aae02_3 : decode cJ0_isLatin1_aae02 3 = .ok (.ifCond .eq 14, 3) := by decide +kernel
theorem dJ0_isLatin1_aae02_6 : decode cJ0_isLatin1_aae02 6 = .ok (.aload_n 0, 1) := by decide +kernel
theorem dJ0_isLatin1_aae02_7 : decode cJ0_isLatin1_aae02 7 = .ok (.getfield 15, 3) := by decide +kernel
theorem dJ0_isLatin1_aae02_10 : decode cJ0_isLatin1_aae02 10 = .ok (.ifCond .ne 7, 3) := by decide +kernel
theorem dJ0_isLatin1_aae02_13 : decode cJ0_isLatin1_aae02 13 = .ok (.iconst 1, 1) := by decide +kernel
theorem dJ0_isLatin1_aae02_14 : decode cJ0_isLatin1_aae02 14 = .ok (.goto 4, 3) := by decide +kernel
theorem dJ0_isLatin1_aae02_17 : decode cJ0_isLatin1_aae02 17 = .ok (.iconst 0, 1) := by decide +kernel
theorem dJ0_isLatin1_aae02_18 : decode cJ0_isLatin1_aae02 18 = .ok (.ireturn, 1) := by decide +kernel
theorem dJ0_checkIndex_df160_0 : decode cJ0_checkIndex_df160 0 = .ok (.iload_n 0, 1) := by decide +kernel
theorem dJ0_checkIndex_df160_1 : decode cJ0_checkIndex_df160 1 = .ok (.iload_n 1, 1) := by decide +kernel
theorem dJ0_checkIndex_df160_2 : decode cJ0_checkIndex_df160 2 = .ok (.getstatic 1053, 3) := by decide +kernel
theorem dJ0_checkIndex_df160_5 : decode cJ0_checkIndex_df160 5 = .ok (.invokestatic 1059, 3) := by decide +kernel
theorem dJ0_checkIndex_df160_8 : decode cJ0_checkIndex_df160 8 = .ok (.pop, 1) := by decide +kernel
theorem dJ0_checkIndex_df160_9 : decode cJ0_checkIndex_df160 9 = .ok (.return_, 1) := by decide +kernel
theorem dJ1_charAt_3b067_0 : decode cJ1_charAt_3b067 0 = .ok (.iload_n 1, 1) := by decide +kernel
theorem dJ1_charAt_3b067_1 : decode cJ1_charAt_3b067 1 = .ok (.aload_n 0, 1) := by decide +kernel
theorem dJ1_charAt_3b067_2 : decode cJ1_charAt_3b067 2 = .ok (.arraylength, 1) := by decide +kernel
theorem dJ1_charAt_3b067_3 : decode cJ1_charAt_3b067 3 = .ok (.invokestatic 9, 3) := by decide +kernel
theorem dJ1_charAt_3b067_6 : decode cJ1_charAt_3b067 6 = .ok (.aload_n 0, 1) := by decide +kernel
theorem dJ1_charAt_3b067_7 : decode cJ1_charAt_3b067 7 = .ok (.iload_n 1, 1) := by decide +kernel
theorem dJ1_charAt_3b067_8 : decode cJ1_charAt_3b067 8 = .ok (.baload, 1) := by decide +kernel
theorem dJ1_charAt_3b067_9 : decode cJ1_charAt_3b067 9 = .ok (.sipush 255, 3) := by decide +kernel
theorem dJ1_charAt_3b067_12 : decode cJ1_charAt_3b067 12 = .ok (.iand, 1) := by decide +kernel
theorem dJ1_charAt_3b067_13 : decode cJ1_charAt_3b067 13 = .ok (.i2c, 1) := by decide +kernel
theorem dJ1_charAt_3b067_14 : decode cJ1_charAt_3b067 14 = .ok (.ireturn, 1) := by decide +kernel
theorem dJ2_getChar_3b067_0 : decode cJ2_getChar_3b067 0 = .ok (.getstatic 44, 3) := by decide +kernel
theorem dJ2_getChar_3b067_3 : decode cJ2_getChar_3b067 3 = .ok (.ifCond .ne 25, 3) := by decide +kernel
theorem dJ2_getChar_3b067_6 : decode cJ2_getChar_3b067 6 = .ok (.iload_n 1, 1) := by decide +kernel
theorem dJ2_getChar_3b067_7 : decode cJ2_getChar_3b067 7 = .ok (.ifCond .lt 11, 3) := by decide +kernel
theorem dJ2_getChar_3b067_10 : decode cJ2_getChar_3b067 10 = .ok (.iload_n 1, 1) := by decide +kernel
theorem dJ2_getChar_3b067_11 : decode cJ2_getChar_3b067 11 = .ok (.aload_n 0, 1) := by decide +kernel
theorem dJ2_getChar_3b067_12 : decode cJ2_getChar_3b067 12 = .ok (.invokestatic 48, 3) := by decide +kernel
theorem dJ2_getChar_3b067_15 : decode cJ2_getChar_3b067 15 = .ok (.if_icmp .lt 13, 3) := by decide +kernel
theorem dJ2_getChar_3b067_18 : decode cJ2_getChar_3b067 18 = .ok (.new 52, 3) := by decide +kernel
theorem dJ2_getChar_3b067_21 : decode cJ2_getChar_3b067 21 = .ok (.dup, 1) := by decide +kernel
theorem dJ2_getChar_3b067_22 : decode cJ2_getChar_3b067 22 = .ok (.ldc 54, 2) := by decide +kernel
theorem dJ2_getChar_3b067_24 : decode cJ2_getChar_3b067 24 = .ok (.invokespecial 56, 3) := by decide +kernel
theorem dJ2_getChar_3b067_27 : decode cJ2_getChar_3b067 27 = .ok (.athrow, 1) := by decide +kernel
theorem dJ2_getChar_3b067_28 : decode cJ2_getChar_3b067 28 = .ok (.iload_n 1, 1) := by decide +kernel
theorem dJ2_getChar_3b067_29 : decode cJ2_getChar_3b067 29 = .ok (.iconst 1, 1) := by decide +kernel
theorem dJ2_getChar_3b067_30 : decode cJ2_getChar_3b067 30 = .ok (.ishl, 1) := by decide +kernel
theorem dJ2_getChar_3b067_31 : decode cJ2_getChar_3b067 31 = .ok (.istore_n 1, 1) := by decide +kernel
theorem dJ2_getChar_3b067_32 : decode cJ2_getChar_3b067 32 = .ok (.aload_n 0, 1) := by decide +kernel
theorem dJ2_getChar_3b067_33 : decode cJ2_getChar_3b067 33 = .ok (.iload_n 1, 1) := by decide +kernel
theorem dJ2_getChar_3b067_34 : decode cJ2_getChar_3b067 34 = .ok (.iinc 1 1, 3) := by decide +kernel
theorem dJ2_getChar_3b067_37 : decode cJ2_getChar_3b067 37 = .ok (.baload, 1) := by decide +kernel
theorem dJ2_getChar_3b067_38 : decode cJ2_getChar_3b067 38 = .ok (.sipush 255, 3) := by decide +kernel
theorem dJ2_getChar_3b067_41 : decode cJ2_getChar_3b067 41 = .ok (.iand, 1) := by decide +kernel
theorem dJ2_getChar_3b067_42 : decode cJ2_getChar_3b067 42 = .ok (.getstatic 59, 3) := by decide +kernel
theorem dJ2_getChar_3b067_45 : decode cJ2_getChar_3b067 45 = .ok (.ishl, 1) := by decide +kernel
theorem dJ2_getChar_3b067_46 : decode cJ2_getChar_3b067 46 = .ok (.aload_n 0, 1) := by decide +kernel
theorem dJ2_getChar_3b067_47 : decode cJ2_getChar_3b067 47 = .ok (.iload_n 1, 1) := by decide +kernel
theorem dJ2_getChar_3b067_48 : decode cJ2_getChar_3b067 48 = .ok (.baload, 1) := by decide +kernel
theorem dJ2_getChar_3b067_49 : decode cJ2_getChar_3b067 49 = .ok (.sipush 255, 3) := by decide +kernel
theorem dJ2_getChar_3b067_52 : decode cJ2_getChar_3b067 52 = .ok (.iand, 1) := by decide +kernel
theorem dJ2_getChar_3b067_53 : decode cJ2_getChar_3b067 53 = .ok (.getstatic 63, 3) := by decide +kernel
theorem dJ2_getChar_3b067_56 : decode cJ2_getChar_3b067 56 = .ok (.ishl, 1) := by decide +kernel
theorem dJ2_getChar_3b067_57 : decode cJ2_getChar_3b067 57 = .ok (.ior, 1) := by decide +kernel
theorem dJ2_getChar_3b067_58 : decode cJ2_getChar_3b067 58 = .ok (.i2c, 1) := by decide +kernel
theorem dJ2_getChar_3b067_59 : decode cJ2_getChar_3b067 59 = .ok (.ireturn, 1) := by decide +kernel
theorem dJ2_length_9d52b_0 : decode cJ2_length_9d52b 0 = .ok (.aload_n 0, 1) := by decide +kernel
theorem dJ2_length_9d52b_1 : decode cJ2_length_9d52b 1 = .ok (.arraylength, 1) := by decide +kernel
theorem dJ2_length_9d52b_2 : decode cJ2_length_9d52b 2 = .ok (.iconst 1, 1) := by decide +kernel
theorem dJ2_length_9d52b_3 : decode cJ2_length_9d52b 3 = .ok (.ishr, 1) := by decide +kernel
theorem dJ2_length_9d52b_4 : decode cJ2_length_9d52b 4 = .ok (.ireturn, 1) := by decide +kernel
theorem dJ2_charAt_3b067_0 : decode cJ2_charAt_3b067 0 = .ok (.iload_n 1, 1) := by decide +kernel
theorem dJ2_charAt_3b067_1 : decode cJ2_charAt_3b067 1 = .ok (.aload_n 0, 1) := by decide +kernel
theorem dJ2_charAt_3b067_2 : decode cJ2_charAt_3b067 2 = .ok (.invokestatic 67, 3) := by decide +kernel
theorem dJ2_charAt_3b067_5 : decode cJ2_charAt_3b067 5 = .ok (.aload_n 0, 1) := by decide +kernel
theorem dJ2_charAt_3b067_6 : decode cJ2_charAt_3b067 6 = .ok (.iload_n 1, 1) := by decide +kernel
theorem dJ2_charAt_3b067_7 : decode cJ2_charAt_3b067 7 = .ok (.invokestatic 71, 3) := by decide +kernel
theorem dJ2_charAt_3b067_10 : decode cJ2_charAt_3b067 10 = .ok (.ireturn, 1) := by decide +kernel
theorem dJ2_checkIndex_2214a_0 : decode cJ2_checkIndex_2214a 0 = .ok (.iload_n 0, 1) := by decide +kernel
theorem dJ2_checkIndex_2214a_1 : decode cJ2_checkIndex_2214a 1 = .ok (.aload_n 1, 1) := by decide +kernel
theorem dJ2_checkIndex_2214a_2 : decode cJ2_checkIndex_2214a 2 = .ok (.invokestatic 48, 3) := by decide +kernel
theorem dJ2_checkIndex_2214a_5 : decode cJ2_checkIndex_2214a 5 = .ok (.invokestatic 414, 3) := by decide +kernel
theorem dJ2_checkIndex_2214a_8 : decode cJ2_checkIndex_2214a 8 = .ok (.return_, 1) := by decide +kernel
theorem dJ3_checkIndex_8e157_0 : decode cJ3_checkIndex_8e157 0 = .ok (.iload_n 0, 1) := by decide +kernel
theorem dJ3_checkIndex_8e157_1 : decode cJ3_checkIndex_8e157 1 = .ok (.ifCond .lt 8, 3) := by decide +kernel
theorem dJ3_checkIndex_8e157_4 : decode cJ3_checkIndex_8e157 4 = .ok (.iload_n 0, 1) := by decide +kernel
theorem dJ3_checkIndex_8e157_5 : decode cJ3_checkIndex_8e157 5 = .ok (.iload_n 1, 1) := by decide +kernel
theorem dJ3_checkIndex_8e157_6 : decode cJ3_checkIndex_8e157 6 = .ok (.if_icmp .lt 10, 3) := by decide +kernel
theorem dJ3_checkIndex_8e157_9 : decode cJ3_checkIndex_8e157 9 = .ok (.aload_n 2, 1) := by decide +kernel
theorem dJ3_checkIndex_8e157_10 : decode cJ3_checkIndex_8e157 10 = .ok (.iload_n 0, 1) := by decide +kernel
theorem dJ3_checkIndex_8e157_11 : decode cJ3_checkIndex_8e157 11 = .ok (.iload_n 1, 1) := by decide +kernel
theorem dJ3_checkIndex_8e157_12 : decode cJ3_checkIndex_8e157 12 = .ok (.invokestatic 95, 3) := by decide +kernel
theorem dJ3_checkIndex_8e157_15 : decode cJ3_checkIndex_8e157 15 = .ok (.athrow, 1) := by decide +kernel
theorem dJ3_checkIndex_8e157_16 : decode cJ3_checkIndex_8e157 16 = .ok (.iload_n 0, 1) := by decide +kernel
theorem dJ3_checkIndex_8e157_17 : decode cJ3_checkIndex_8e157 17 = .ok (.ireturn, 1) := by decide +kernel
theorem dL_draw_0 : decode cL_draw 0 = .ok (.iload_n 1, 1) := by decide +kernel
theorem dL_draw_1 : decode cL_draw 1 = .ok (.aload_n 0, 1) := by decide +kernel
theorem dL_draw_2 : decode cL_draw 2 = .ok (.arraylength, 1) := by decide +kernel
theorem dL_draw_3 : decode cL_draw 3 = .ok (.if_icmp .ge 9, 3) := by decide +kernel
theorem dL_draw_6 : decode cL_draw 6 = .ok (.aload_n 0, 1) := by decide +kernel
theorem dL_draw_7 : decode cL_draw 7 = .ok (.iload_n 1, 1) := by decide +kernel
theorem dL_draw_8 : decode cL_draw 8 = .ok (.iaload, 1) := by decide +kernel
theorem dL_draw_9 : decode cL_draw 9 = .ok (.goto 11, 3) := by decide +kernel
theorem dL_draw_12 : decode cL_draw 12 = .ok (.ldc 7, 2) := by decide +kernel
theorem dL_draw_14 : decode cL_draw 14 = .ok (.iload_n 1, 1) := by decide +kernel
theorem dL_draw_15 : decode cL_draw 15 = .ok (.imul, 1) := by decide +kernel
theorem dL_draw_16 : decode cL_draw 16 = .ok (.sipush 10223, 3) := by decide +kernel
theorem dL_draw_19 : decode cL_draw 19 = .ok (.iadd, 1) := by decide +kernel
theorem dL_draw_20 : decode cL_draw 20 = .ok (.ldc 8, 2) := by decide +kernel
theorem dL_draw_22 : decode cL_draw 22 = .ok (.iand, 1) := by decide +kernel
theorem dL_draw_23 : decode cL_draw 23 = .ok (.ireturn, 1) := by decide +kernel
theorem dL_in_0 : decode cL_in 0 = .ok (.lload_n 0, 1) := by decide +kernel
theorem dL_in_1 : decode cL_in 1 = .ok (.lload_n 2, 1) := by decide +kernel
theorem dL_in_2 : decode cL_in 2 = .ok (.lcmp, 1) := by decide +kernel
theorem dL_in_3 : decode cL_in 3 = .ok (.ifCond .lt 14, 3) := by decide +kernel
theorem dL_in_6 : decode cL_in 6 = .ok (.lload_n 0, 1) := by decide +kernel
theorem dL_in_7 : decode cL_in 7 = .ok (.lload 4, 2) := by decide +kernel
theorem dL_in_9 : decode cL_in 9 = .ok (.lcmp, 1) := by decide +kernel
theorem dL_in_10 : decode cL_in 10 = .ok (.ifCond .gt 7, 3) := by decide +kernel
theorem dL_in_13 : decode cL_in 13 = .ok (.iconst 1, 1) := by decide +kernel
theorem dL_in_14 : decode cL_in 14 = .ok (.goto 4, 3) := by decide +kernel
theorem dL_in_17 : decode cL_in 17 = .ok (.iconst 0, 1) := by decide +kernel
theorem dL_in_18 : decode cL_in 18 = .ok (.ireturn, 1) := by decide +kernel
theorem dL_append_0 : decode cL_append 0 = .ok (.aload_n 0, 1) := by decide +kernel
theorem dL_append_1 : decode cL_append 1 = .ok (.iload_n 1, 1) := by decide +kernel
theorem dL_append_2 : decode cL_append 2 = .ok (.invokevirtual 9, 3) := by decide +kernel
theorem dL_append_5 : decode cL_append 5 = .ok (.i2l, 1) := by decide +kernel
theorem dL_append_6 : decode cL_append 6 = .ok (.lreturn, 1) := by decide +kernel
theorem dL_append_7 : decode cL_append 7 = .ok (.astore_n 2, 1) := by decide +kernel
theorem dL_append_8 : decode cL_append 8 = .ok (.ldc2_w 17, 3) := by decide +kernel
theorem dL_append_11 : decode cL_append 11 = .ok (.lreturn, 1) := by decide +kernel
theorem dL_append_12 : decode cL_append 12 = .ok (.astore_n 2, 1) := by decide +kernel
theorem dL_append_13 : decode cL_append 13 = .ok (.ldc2_w 21, 3) := by decide +kernel
theorem dL_append_16 : decode cL_append 16 = .ok (.lreturn, 1) := by decide +kernel
theorem dL_load_0 : decode cL_load 0 = .ok (.aload_n 0, 1) := by decide +kernel
theorem dL_load_1 : decode cL_load 1 = .ok (.invokevirtual 23, 3) := by decide +kernel
theorem dL_load_4 : decode cL_load 4 = .ok (.i2l, 1) := by decide +kernel
theorem dL_load_5 : decode cL_load 5 = .ok (.lreturn, 1) := by decide +kernel
theorem dL_load_6 : decode cL_load 6 = .ok (.astore_n 1, 1) := by decide +kernel
theorem dL_load_7 : decode cL_load 7 = .ok (.ldc2_w 21, 3) := by decide +kernel
theorem dL_load_10 : decode cL_load 10 = .ok (.lreturn, 1) := by decide +kernel
theorem dL_about_0 : decode cL_about 0 = .ok (.aload_n 0, 1) := by decide +kernel
theorem dL_about_1 : decode cL_about 1 = .ok (.iload_n 1, 1) := by decide +kernel
theorem dL_about_2 : decode cL_about 2 = .ok (.invokevirtual 27, 3) := by decide +kernel
theorem dL_about_5 : decode cL_about 5 = .ok (.i2l, 1) := by decide +kernel
theorem dL_about_6 : decode cL_about 6 = .ok (.lreturn, 1) := by decide +kernel
theorem dL_about_7 : decode cL_about 7 = .ok (.astore_n 2, 1) := by decide +kernel
theorem dL_about_8 : decode cL_about 8 = .ok (.ldc2_w 17, 3) := by decide +kernel
theorem dL_about_11 : decode cL_about 11 = .ok (.lreturn, 1) := by decide +kernel
theorem dL_grip_0 : decode cL_grip 0 = .ok (.aload_n 0, 1) := by decide +kernel
theorem dL_grip_1 : decode cL_grip 1 = .ok (.iload_n 1, 1) := by decide +kernel
theorem dL_grip_2 : decode cL_grip 2 = .ok (.iload_n 2, 1) := by decide +kernel
theorem dL_grip_3 : decode cL_grip 3 = .ok (.invokevirtual 30, 3) := by decide +kernel
theorem dL_grip_6 : decode cL_grip 6 = .ok (.i2l, 1) := by decide +kernel
theorem dL_grip_7 : decode cL_grip 7 = .ok (.lreturn, 1) := by decide +kernel
theorem dL_grip_8 : decode cL_grip 8 = .ok (.astore_n 3, 1) := by decide +kernel
theorem dL_grip_9 : decode cL_grip 9 = .ok (.ldc2_w 36, 3) := by decide +kernel
theorem dL_grip_12 : decode cL_grip 12 = .ok (.lreturn, 1) := by decide +kernel
theorem dL_grip_13 : decode cL_grip 13 = .ok (.astore_n 3, 1) := by decide +kernel
theorem dL_grip_14 : decode cL_grip 14 = .ok (.ldc2_w 17, 3) := by decide +kernel
theorem dL_grip_17 : decode cL_grip 17 = .ok (.lreturn, 1) := by decide +kernel
theorem dL_slot_0 : decode cL_slot 0 = .ok (.aload_n 0, 1) := by decide +kernel
theorem dL_slot_1 : decode cL_slot 1 = .ok (.iload_n 1, 1) := by decide +kernel
theorem dL_slot_2 : decode cL_slot 2 = .ok (.invokevirtual 38, 3) := by decide +kernel
theorem dL_slot_5 : decode cL_slot 5 = .ok (.i2l, 1) := by decide +kernel
theorem dL_slot_6 : decode cL_slot 6 = .ok (.lreturn, 1) := by decide +kernel
theorem dL_slot_7 : decode cL_slot 7 = .ok (.astore_n 2, 1) := by decide +kernel
theorem dL_slot_8 : decode cL_slot 8 = .ok (.ldc2_w 36, 3) := by decide +kernel
theorem dL_slot_11 : decode cL_slot 11 = .ok (.lreturn, 1) := by decide +kernel
theorem dL_report_0 : decode cL_report 0 = .ok (.aload_n 0, 1) := by decide +kernel
theorem dL_report_1 : decode cL_report 1 = .ok (.iload_n 1, 1) := by decide +kernel
theorem dL_report_2 : decode cL_report 2 = .ok (.invokevirtual 41, 3) := by decide +kernel
theorem dL_report_5 : decode cL_report 5 = .ok (.i2l, 1) := by decide +kernel
theorem dL_report_6 : decode cL_report 6 = .ok (.lreturn, 1) := by decide +kernel
theorem dL_report_7 : decode cL_report 7 = .ok (.astore_n 2, 1) := by decide +kernel
theorem dL_report_8 : decode cL_report 8 = .ok (.ldc2_w 17, 3) := by decide +kernel
theorem dL_report_11 : decode cL_report 11 = .ok (.lreturn, 1) := by decide +kernel
theorem dL_step_0 : decode cL_step 0 = .ok (.aload_n 0, 1) := by decide +kernel
theorem dL_step_1 : decode cL_step 1 = .ok (.iload_n 1, 1) := by decide +kernel
theorem dL_step_2 : decode cL_step 2 = .ok (.invokevirtual 44, 3) := by decide +kernel
theorem dL_step_5 : decode cL_step 5 = .ok (.i2l, 1) := by decide +kernel
theorem dL_step_6 : decode cL_step 6 = .ok (.lreturn, 1) := by decide +kernel
theorem dL_step_7 : decode cL_step 7 = .ok (.astore_n 2, 1) := by decide +kernel
theorem dL_step_8 : decode cL_step 8 = .ok (.ldc2_w 17, 3) := by decide +kernel
theorem dL_step_11 : decode cL_step 11 = .ok (.lreturn, 1) := by decide +kernel
theorem dL_addGrip_0 : decode cL_addGrip 0 = .ok (.aload_n 0, 1) := by decide +kernel
theorem dL_addGrip_1 : decode cL_addGrip 1 = .ok (.iload_n 1, 1) := by decide +kernel
theorem dL_addGrip_2 : decode cL_addGrip 2 = .ok (.invokevirtual 47, 3) := by decide +kernel
theorem dL_addGrip_5 : decode cL_addGrip 5 = .ok (.i2l, 1) := by decide +kernel
theorem dL_addGrip_6 : decode cL_addGrip 6 = .ok (.lreturn, 1) := by decide +kernel
theorem dL_addGrip_7 : decode cL_addGrip 7 = .ok (.astore_n 2, 1) := by decide +kernel
theorem dL_addGrip_8 : decode cL_addGrip 8 = .ok (.ldc2_w 17, 3) := by decide +kernel
theorem dL_addGrip_11 : decode cL_addGrip 11 = .ok (.lreturn, 1) := by decide +kernel
theorem dL_addGrip_12 : decode cL_addGrip 12 = .ok (.astore_n 2, 1) := by decide +kernel
theorem dL_addGrip_13 : decode cL_addGrip 13 = .ok (.ldc2_w 21, 3) := by decide +kernel
theorem dL_addGrip_16 : decode cL_addGrip 16 = .ok (.lreturn, 1) := by decide +kernel
theorem dL_putOn_0 : decode cL_putOn 0 = .ok (.aload_n 0, 1) := by decide +kernel
theorem dL_putOn_1 : decode cL_putOn 1 = .ok (.iload_n 1, 1) := by decide +kernel
theorem dL_putOn_2 : decode cL_putOn 2 = .ok (.iload_n 2, 1) := by decide +kernel
theorem dL_putOn_3 : decode cL_putOn 3 = .ok (.invokevirtual 50, 3) := by decide +kernel
theorem dL_putOn_6 : decode cL_putOn 6 = .ok (.i2l, 1) := by decide +kernel
theorem dL_putOn_7 : decode cL_putOn 7 = .ok (.lreturn, 1) := by decide +kernel
theorem dL_putOn_8 : decode cL_putOn 8 = .ok (.astore_n 3, 1) := by decide +kernel
theorem dL_putOn_9 : decode cL_putOn 9 = .ok (.ldc2_w 36, 3) := by decide +kernel
theorem dL_putOn_12 : decode cL_putOn 12 = .ok (.lreturn, 1) := by decide +kernel
theorem dL_putOn_13 : decode cL_putOn 13 = .ok (.astore_n 3, 1) := by decide +kernel
theorem dL_putOn_14 : decode cL_putOn 14 = .ok (.ldc2_w 21, 3) := by decide +kernel
theorem dL_putOn_17 : decode cL_putOn 17 = .ok (.lreturn, 1) := by decide +kernel
theorem dL_takeOff_0 : decode cL_takeOff 0 = .ok (.aload_n 0, 1) := by decide +kernel
theorem dL_takeOff_1 : decode cL_takeOff 1 = .ok (.iload_n 1, 1) := by decide +kernel
theorem dL_takeOff_2 : decode cL_takeOff 2 = .ok (.invokevirtual 53, 3) := by decide +kernel
theorem dL_takeOff_5 : decode cL_takeOff 5 = .ok (.i2l, 1) := by decide +kernel
theorem dL_takeOff_6 : decode cL_takeOff 6 = .ok (.lreturn, 1) := by decide +kernel
theorem dL_takeOff_7 : decode cL_takeOff 7 = .ok (.astore_n 2, 1) := by decide +kernel
theorem dL_takeOff_8 : decode cL_takeOff 8 = .ok (.ldc2_w 36, 3) := by decide +kernel
theorem dL_takeOff_11 : decode cL_takeOff 11 = .ok (.lreturn, 1) := by decide +kernel
theorem dL_takeOff_12 : decode cL_takeOff 12 = .ok (.astore_n 2, 1) := by decide +kernel
theorem dL_takeOff_13 : decode cL_takeOff 13 = .ok (.ldc2_w 21, 3) := by decide +kernel
theorem dL_takeOff_16 : decode cL_takeOff 16 = .ok (.lreturn, 1) := by decide +kernel
theorem dL_scrap_0 : decode cL_scrap 0 = .ok (.aload_n 0, 1) := by decide +kernel
theorem dL_scrap_1 : decode cL_scrap 1 = .ok (.iload_n 1, 1) := by decide +kernel
theorem dL_scrap_2 : decode cL_scrap 2 = .ok (.invokevirtual 56, 3) := by decide +kernel
theorem dL_scrap_5 : decode cL_scrap 5 = .ok (.i2l, 1) := by decide +kernel
theorem dL_scrap_6 : decode cL_scrap 6 = .ok (.lreturn, 1) := by decide +kernel
theorem dL_scrap_7 : decode cL_scrap 7 = .ok (.astore_n 2, 1) := by decide +kernel
theorem dL_scrap_8 : decode cL_scrap 8 = .ok (.ldc2_w 36, 3) := by decide +kernel
theorem dL_scrap_11 : decode cL_scrap 11 = .ok (.lreturn, 1) := by decide +kernel
theorem dL_scrap_12 : decode cL_scrap 12 = .ok (.astore_n 2, 1) := by decide +kernel
theorem dL_scrap_13 : decode cL_scrap 13 = .ok (.ldc2_w 21, 3) := by decide +kernel
theorem dL_scrap_16 : decode cL_scrap 16 = .ok (.lreturn, 1) := by decide +kernel
theorem dL_setLimit_0 : decode cL_setLimit 0 = .ok (.aload_n 0, 1) := by decide +kernel
theorem dL_setLimit_1 : decode cL_setLimit 1 = .ok (.iload_n 1, 1) := by decide +kernel
theorem dL_setLimit_2 : decode cL_setLimit 2 = .ok (.iload_n 2, 1) := by decide +kernel
theorem dL_setLimit_3 : decode cL_setLimit 3 = .ok (.invokevirtual 59, 3) := by decide +kernel
theorem dL_setLimit_6 : decode cL_setLimit 6 = .ok (.i2l, 1) := by decide +kernel
theorem dL_setLimit_7 : decode cL_setLimit 7 = .ok (.lreturn, 1) := by decide +kernel
theorem dL_setLimit_8 : decode cL_setLimit 8 = .ok (.astore_n 3, 1) := by decide +kernel
theorem dL_setLimit_9 : decode cL_setLimit 9 = .ok (.ldc2_w 17, 3) := by decide +kernel
theorem dL_setLimit_12 : decode cL_setLimit 12 = .ok (.lreturn, 1) := by decide +kernel
theorem dL_undo_0 : decode cL_undo 0 = .ok (.aload_n 0, 1) := by decide +kernel
theorem dL_undo_1 : decode cL_undo 1 = .ok (.invokevirtual 62, 3) := by decide +kernel
theorem dL_undo_4 : decode cL_undo 4 = .ok (.i2l, 1) := by decide +kernel
theorem dL_undo_5 : decode cL_undo 5 = .ok (.lreturn, 1) := by decide +kernel
theorem dL_undo_6 : decode cL_undo 6 = .ok (.astore_n 1, 1) := by decide +kernel
theorem dL_undo_7 : decode cL_undo 7 = .ok (.ldc2_w 21, 3) := by decide +kernel
theorem dL_undo_10 : decode cL_undo 10 = .ok (.lreturn, 1) := by decide +kernel
theorem dL_gap_0 : decode cL_gap 0 = .ok (.aload_n 0, 1) := by decide +kernel
theorem dL_gap_1 : decode cL_gap 1 = .ok (.iload_n 1, 1) := by decide +kernel
theorem dL_gap_2 : decode cL_gap 2 = .ok (.invokevirtual 65, 3) := by decide +kernel
theorem dL_gap_5 : decode cL_gap 5 = .ok (.i2l, 1) := by decide +kernel
theorem dL_gap_6 : decode cL_gap 6 = .ok (.lreturn, 1) := by decide +kernel
theorem dL_gap_7 : decode cL_gap 7 = .ok (.astore_n 2, 1) := by decide +kernel
theorem dL_gap_8 : decode cL_gap 8 = .ok (.ldc2_w 36, 3) := by decide +kernel
theorem dL_gap_11 : decode cL_gap 11 = .ok (.lreturn, 1) := by decide +kernel
theorem dL_room_0 : decode cL_room 0 = .ok (.aload_n 0, 1) := by decide +kernel
theorem dL_room_1 : decode cL_room 1 = .ok (.iload_n 1, 1) := by decide +kernel
theorem dL_room_2 : decode cL_room 2 = .ok (.invokevirtual 68, 3) := by decide +kernel
theorem dL_room_5 : decode cL_room 5 = .ok (.i2l, 1) := by decide +kernel
theorem dL_room_6 : decode cL_room 6 = .ok (.lreturn, 1) := by decide +kernel
theorem dL_room_7 : decode cL_room 7 = .ok (.astore_n 2, 1) := by decide +kernel
theorem dL_room_8 : decode cL_room 8 = .ok (.ldc2_w 17, 3) := by decide +kernel
theorem dL_room_11 : decode cL_room 11 = .ok (.lreturn, 1) := by decide +kernel
theorem dL_groups_0 : decode cL_groups 0 = .ok (.aload_n 0, 1) := by decide +kernel
theorem dL_groups_1 : decode cL_groups 1 = .ok (.iload_n 1, 1) := by decide +kernel
theorem dL_groups_2 : decode cL_groups 2 = .ok (.invokevirtual 71, 3) := by decide +kernel
theorem dL_groups_5 : decode cL_groups 5 = .ok (.i2l, 1) := by decide +kernel
theorem dL_groups_6 : decode cL_groups 6 = .ok (.lreturn, 1) := by decide +kernel
theorem dL_groups_7 : decode cL_groups 7 = .ok (.astore_n 2, 1) := by decide +kernel
theorem dL_groups_8 : decode cL_groups 8 = .ok (.ldc2_w 17, 3) := by decide +kernel
theorem dL_groups_11 : decode cL_groups 11 = .ok (.lreturn, 1) := by decide +kernel
theorem dL_dueAfter_0 : decode cL_dueAfter 0 = .ok (.aload_n 0, 1) := by decide +kernel
theorem dL_dueAfter_1 : decode cL_dueAfter 1 = .ok (.iload_n 1, 1) := by decide +kernel
theorem dL_dueAfter_2 : decode cL_dueAfter 2 = .ok (.invokevirtual 74, 3) := by decide +kernel
theorem dL_dueAfter_5 : decode cL_dueAfter 5 = .ok (.i2l, 1) := by decide +kernel
theorem dL_dueAfter_6 : decode cL_dueAfter 6 = .ok (.lreturn, 1) := by decide +kernel
theorem dL_dueAfter_7 : decode cL_dueAfter 7 = .ok (.astore_n 2, 1) := by decide +kernel
theorem dL_dueAfter_8 : decode cL_dueAfter 8 = .ok (.ldc2_w 36, 3) := by decide +kernel
theorem dL_dueAfter_11 : decode cL_dueAfter 11 = .ok (.lreturn, 1) := by decide +kernel
theorem dL_chance_0 : decode cL_chance 0 = .ok (.aload_n 0, 1) := by decide +kernel
theorem dL_chance_1 : decode cL_chance 1 = .ok (.iload_n 1, 1) := by decide +kernel
theorem dL_chance_2 : decode cL_chance 2 = .ok (.iload_n 2, 1) := by decide +kernel
theorem dL_chance_3 : decode cL_chance 3 = .ok (.invokevirtual 77, 3) := by decide +kernel
theorem dL_chance_6 : decode cL_chance 6 = .ok (.i2l, 1) := by decide +kernel
theorem dL_chance_7 : decode cL_chance 7 = .ok (.lreturn, 1) := by decide +kernel
theorem dL_chance_8 : decode cL_chance 8 = .ok (.astore_n 3, 1) := by decide +kernel
theorem dL_chance_9 : decode cL_chance 9 = .ok (.ldc2_w 17, 3) := by decide +kernel
theorem dL_chance_12 : decode cL_chance 12 = .ok (.lreturn, 1) := by decide +kernel
theorem dL_ahead_0 : decode cL_ahead 0 = .ok (.aload_n 0, 1) := by decide +kernel
theorem dL_ahead_1 : decode cL_ahead 1 = .ok (.iload_n 1, 1) := by decide +kernel
theorem dL_ahead_2 : decode cL_ahead 2 = .ok (.iload_n 2, 1) := by decide +kernel
theorem dL_ahead_3 : decode cL_ahead 3 = .ok (.iload_n 3, 1) := by decide +kernel
theorem dL_ahead_4 : decode cL_ahead 4 = .ok (.invokevirtual 81, 3) := by decide +kernel
theorem dL_ahead_7 : decode cL_ahead 7 = .ok (.i2l, 1) := by decide +kernel
theorem dL_ahead_8 : decode cL_ahead 8 = .ok (.lreturn, 1) := by decide +kernel
theorem dL_ahead_9 : decode cL_ahead 9 = .ok (.astore 4, 2) := by decide +kernel
theorem dL_ahead_11 : decode cL_ahead 11 = .ok (.ldc2_w 36, 3) := by decide +kernel
theorem dL_ahead_14 : decode cL_ahead 14 = .ok (.lreturn, 1) := by decide +kernel
theorem dL_ahead_15 : decode cL_ahead 15 = .ok (.astore 4, 2) := by decide +kernel
theorem dL_ahead_17 : decode cL_ahead 17 = .ok (.ldc2_w 17, 3) := by decide +kernel
theorem dL_ahead_20 : decode cL_ahead 20 = .ok (.lreturn, 1) := by decide +kernel
theorem dL_happens_0 : decode cL_happens 0 = .ok (.aload_n 0, 1) := by decide +kernel
theorem dL_happens_1 : decode cL_happens 1 = .ok (.iload_n 1, 1) := by decide +kernel
theorem dL_happens_2 : decode cL_happens 2 = .ok (.iload_n 2, 1) := by decide +kernel
theorem dL_happens_3 : decode cL_happens 3 = .ok (.invokevirtual 85, 3) := by decide +kernel
theorem dL_happens_6 : decode cL_happens 6 = .ok (.i2l, 1) := by decide +kernel
theorem dL_happens_7 : decode cL_happens 7 = .ok (.lreturn, 1) := by decide +kernel
theorem dL_happens_8 : decode cL_happens 8 = .ok (.astore_n 3, 1) := by decide +kernel
theorem dL_happens_9 : decode cL_happens 9 = .ok (.ldc2_w 17, 3) := by decide +kernel
theorem dL_happens_12 : decode cL_happens 12 = .ok (.lreturn, 1) := by decide +kernel
theorem dL_bestLimit_0 : decode cL_bestLimit 0 = .ok (.aload_n 0, 1) := by decide +kernel
theorem dL_bestLimit_1 : decode cL_bestLimit 1 = .ok (.iload_n 1, 1) := by decide +kernel
theorem dL_bestLimit_2 : decode cL_bestLimit 2 = .ok (.invokevirtual 88, 3) := by decide +kernel
theorem dL_bestLimit_5 : decode cL_bestLimit 5 = .ok (.i2l, 1) := by decide +kernel
theorem dL_bestLimit_6 : decode cL_bestLimit 6 = .ok (.lreturn, 1) := by decide +kernel
theorem dL_bestLimit_7 : decode cL_bestLimit 7 = .ok (.astore_n 2, 1) := by decide +kernel
theorem dL_bestLimit_8 : decode cL_bestLimit 8 = .ok (.ldc2_w 17, 3) := by decide +kernel
theorem dL_bestLimit_11 : decode cL_bestLimit 11 = .ok (.lreturn, 1) := by decide +kernel
theorem dL_script_0 : decode cL_script 0 = .ok (.aload_n 0, 1) := by decide +kernel
theorem dL_script_1 : decode cL_script 1 = .ok (.iload_n 1, 1) := by decide +kernel
theorem dL_script_2 : decode cL_script 2 = .ok (.lload_n 2, 1) := by decide +kernel
theorem dL_script_3 : decode cL_script 3 = .ok (.invokevirtual 91, 3) := by decide +kernel
theorem dL_script_6 : decode cL_script 6 = .ok (.i2l, 1) := by decide +kernel
theorem dL_script_7 : decode cL_script 7 = .ok (.lreturn, 1) := by decide +kernel
theorem dL_script_8 : decode cL_script 8 = .ok (.astore 4, 2) := by decide +kernel
theorem dL_script_10 : decode cL_script 10 = .ok (.ldc2_w 17, 3) := by decide +kernel
theorem dL_script_13 : decode cL_script 13 = .ok (.lreturn, 1) := by decide +kernel
theorem dL_simulate_0 : decode cL_simulate 0 = .ok (.aload_n 0, 1) := by decide +kernel
theorem dL_simulate_1 : decode cL_simulate 1 = .ok (.lload_n 1, 1) := by decide +kernel
theorem dL_simulate_2 : decode cL_simulate 2 = .ok (.iload_n 3, 1) := by decide +kernel
theorem dL_simulate_3 : decode cL_simulate 3 = .ok (.invokevirtual 95, 3) := by decide +kernel
theorem dL_simulate_6 : decode cL_simulate 6 = .ok (.i2l, 1) := by decide +kernel
theorem dL_simulate_7 : decode cL_simulate 7 = .ok (.lreturn, 1) := by decide +kernel
theorem dL_simulate_8 : decode cL_simulate 8 = .ok (.astore 4, 2) := by decide +kernel
theorem dL_simulate_10 : decode cL_simulate 10 = .ok (.ldc2_w 17, 3) := by decide +kernel
theorem dL_simulate_13 : decode cL_simulate 13 = .ok (.lreturn, 1) := by decide +kernel
theorem dL_save_0 : decode cL_save 0 = .ok (.aload_n 0, 1) := by decide +kernel
theorem dL_save_1 : decode cL_save 1 = .ok (.iload_n 1, 1) := by decide +kernel
theorem dL_save_2 : decode cL_save 2 = .ok (.invokevirtual 99, 3) := by decide +kernel
theorem dL_save_5 : decode cL_save 5 = .ok (.i2l, 1) := by decide +kernel
theorem dL_save_6 : decode cL_save 6 = .ok (.lreturn, 1) := by decide +kernel
theorem dL_save_7 : decode cL_save 7 = .ok (.astore_n 2, 1) := by decide +kernel
theorem dL_save_8 : decode cL_save 8 = .ok (.ldc2_w 36, 3) := by decide +kernel
theorem dL_save_11 : decode cL_save 11 = .ok (.lreturn, 1) := by decide +kernel
theorem dL_restore_0 : decode cL_restore 0 = .ok (.aload_n 0, 1) := by decide +kernel
theorem dL_restore_1 : decode cL_restore 1 = .ok (.iload_n 1, 1) := by decide +kernel
theorem dL_restore_2 : decode cL_restore 2 = .ok (.invokevirtual 102, 3) := by decide +kernel
theorem dL_restore_5 : decode cL_restore 5 = .ok (.i2l, 1) := by decide +kernel
theorem dL_restore_6 : decode cL_restore 6 = .ok (.lreturn, 1) := by decide +kernel
theorem dL_restore_7 : decode cL_restore 7 = .ok (.astore_n 2, 1) := by decide +kernel
theorem dL_restore_8 : decode cL_restore 8 = .ok (.ldc2_w 36, 3) := by decide +kernel
theorem dL_restore_11 : decode cL_restore 11 = .ok (.lreturn, 1) := by decide +kernel
theorem dL_restore_12 : decode cL_restore 12 = .ok (.astore_n 2, 1) := by decide +kernel
theorem dL_restore_13 : decode cL_restore 13 = .ok (.ldc2_w 21, 3) := by decide +kernel
theorem dL_restore_16 : decode cL_restore 16 = .ok (.lreturn, 1) := by decide +kernel
theorem dL_grips_0 : decode cL_grips 0 = .ok (.aload_n 0, 1) := by decide +kernel
theorem dL_grips_1 : decode cL_grips 1 = .ok (.iconst 1, 1) := by decide +kernel
theorem dL_grips_2 : decode cL_grips 2 = .ok (.invokestatic 105, 3) := by decide +kernel
theorem dL_grips_5 : decode cL_grips 5 = .ok (.l2i, 1) := by decide +kernel
theorem dL_grips_6 : decode cL_grips 6 = .ok (.ireturn, 1) := by decide +kernel
theorem dL_now_0 : decode cL_now 0 = .ok (.ldc2_w 110, 3) := by decide +kernel
