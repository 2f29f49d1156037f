theorem dX2_init_0 : decode cX2_init 0 = .ok (.aload_n 0, 1) := by decide +kernel
theorem dX2_init_1 : decode cX2_init 1 = .ok (.invokespecial 3, 3) := by decide +kernel
theorem dX2_init_4 : decode cX2_init 4 = .ok (.aload_n 0, 1) := by decide +kernel
theorem dX2_init_5 : decode cX2_init 5 = .ok (.bipush 24, 2) := by decide +kernel
theorem dX2_init_7 : decode cX2_init 7 = .ok (.newarray .int, 2) := by decide +kernel
theorem dX2_init_9 : decode cX2_init 9 = .ok (.putfield 9, 3) := by decide +kernel
theorem dX2_init_12 : decode cX2_init 12 = .ok (.return_, 1) := by decide +kernel
theorem dX2_codeAt_0 : decode cX2_codeAt 0 = .ok (.lload_n 0, 1) := by decide +kernel
theorem dX2_codeAt_1 : decode cX2_codeAt 1 = .ok (.bipush 8, 2) := by decide +kernel
theorem dX2_codeAt_3 : decode cX2_codeAt 3 = .ok (.iload_n 2, 1) := by decide +kernel
theorem dX2_codeAt_4 : decode cX2_codeAt 4 = .ok (.imul, 1) := by decide +kernel
theorem dX2_codeAt_5 : decode cX2_codeAt 5 = .ok (.lushr, 1) := by decide +kernel
theorem dX2_codeAt_6 : decode cX2_codeAt 6 = .ok (.ldc2_w 15, 3) := by decide +kernel
theorem dX2_codeAt_9 : decode cX2_codeAt 9 = .ok (.land, 1) := by decide +kernel
theorem dX2_codeAt_10 : decode cX2_codeAt 10 = .ok (.l2i, 1) := by decide +kernel
theorem dX2_codeAt_11 : decode cX2_codeAt 11 = .ok (.ireturn, 1) := by decide +kernel
theorem dX2_lettersIn_0 : decode cX2_lettersIn 0 = .ok (.iconst 0, 1) := by decide +kernel
theorem dX2_lettersIn_1 : decode cX2_lettersIn 1 = .ok (.istore_n 2, 1) := by decide +kernel
theorem dX2_lettersIn_2 : decode cX2_lettersIn 2 = .ok (.iconst 0, 1) := by decide +kernel
theorem dX2_lettersIn_3 : decode cX2_lettersIn 3 = .ok (.istore_n 3, 1) := by decide +kernel
theorem dX2_lettersIn_4 : decode cX2_lettersIn 4 = .ok (.iload_n 3, 1) := by decide +kernel
theorem dX2_lettersIn_5 : decode cX2_lettersIn 5 = .ok (.bipush 8, 2) := by decide +kernel
theorem dX2_lettersIn_7 : decode cX2_lettersIn 7 = .ok (.if_icmp .ge 48, 3) := by decide +kernel
theorem dX2_lettersIn_10 : decode cX2_lettersIn 10 = .ok (.lload_n 0, 1) := by decide +kernel
theorem dX2_lettersIn_11 : decode cX2_lettersIn 11 = .ok (.iload_n 3, 1) := by decide +kernel
theorem dX2_lettersIn_12 : decode cX2_lettersIn 12 = .ok (.invokestatic 17, 3) := by decide +kernel
theorem dX2_lettersIn_15 : decode cX2_lettersIn 15 = .ok (.istore 4, 2) := by decide +kernel
theorem dX2_lettersIn_17 : decode cX2_lettersIn 17 = .ok (.iload 4, 2) := by decide +kernel
theorem dX2_lettersIn_19 : decode cX2_lettersIn 19 = .ok (.bipush 126, 2) := by decide +kernel
theorem dX2_lettersIn_21 : decode cX2_lettersIn 21 = .ok (.if_icmp .gt 13, 3) := by decide +kernel
theorem dX2_lettersIn_24 : decode cX2_lettersIn 24 = .ok (.iload 4, 2) := by decide +kernel
theorem dX2_lettersIn_26 : decode cX2_lettersIn 26 = .ok (.ifCond .eq 10, 3) := by decide +kernel
theorem dX2_lettersIn_29 : decode cX2_lettersIn 29 = .ok (.iload_n 2, 1) := by decide +kernel
theorem dX2_lettersIn_30 : decode cX2_lettersIn 30 = .ok (.iload_n 3, 1) := by decide +kernel
theorem dX2_lettersIn_31 : decode cX2_lettersIn 31 = .ok (.if_icmp .ge 5, 3) := by decide +kernel
theorem dX2_lettersIn_34 : decode cX2_lettersIn 34 = .ok (.iconst (-1), 1) := by decide +kernel
theorem dX2_lettersIn_35 : decode cX2_lettersIn 35 = .ok (.ireturn, 1) := by decide +kernel
theorem dX2_lettersIn_36 : decode cX2_lettersIn 36 = .ok (.iload_n 2, 1) := by decide +kernel
theorem dX2_lettersIn_37 : decode cX2_lettersIn 37 = .ok (.iload 4, 2) := by decide +kernel
theorem dX2_lettersIn_39 : decode cX2_lettersIn 39 = .ok (.ifCond .eq 7, 3) := by decide +kernel
theorem dX2_lettersIn_42 : decode cX2_lettersIn 42 = .ok (.iconst 1, 1) := by decide +kernel
theorem dX2_lettersIn_43 : decode cX2_lettersIn 43 = .ok (.goto 4, 3) := by decide +kernel
theorem dX2_lettersIn_46 : decode cX2_lettersIn 46 = .ok (.iconst 0, 1) := by decide +kernel
theorem dX2_lettersIn_47 : decode cX2_lettersIn 47 = .ok (.iadd, 1) := by decide +kernel
theorem dX2_lettersIn_48 : decode cX2_lettersIn 48 = .ok (.istore_n 2, 1) := by decide +kernel
theorem dX2_lettersIn_49 : decode cX2_lettersIn 49 = .ok (.iinc 3 1, 3) := by decide +kernel
theorem dX2_lettersIn_52 : decode cX2_lettersIn 52 = .ok (.goto (-48), 3) := by decide +kernel
theorem dX2_lettersIn_55 : decode cX2_lettersIn 55 = .ok (.iload_n 2, 1) := by decide +kernel
theorem dX2_lettersIn_56 : decode cX2_lettersIn 56 = .ok (.ireturn, 1) := by decide +kernel
theorem dX2_append_0 : decode cX2_append 0 = .ok (.iconst 0, 1) := by decide +kernel
theorem dX2_append_1 : decode cX2_append 1 = .ok (.istore 4, 2) := by decide +kernel
theorem dX2_append_3 : decode cX2_append 3 = .ok (.iload 4, 2) := by decide +kernel
theorem dX2_append_5 : decode cX2_append 5 = .ok (.iload_n 3, 1) := by decide +kernel
theorem dX2_append_6 : decode cX2_append 6 = .ok (.if_icmp .ge 43, 3) := by decide +kernel
theorem dX2_append_9 : decode cX2_append 9 = .ok (.aload_n 0, 1) := by decide +kernel
theorem dX2_append_10 : decode cX2_append 10 = .ok (.getfield 21, 3) := by decide +kernel
theorem dX2_append_13 : decode cX2_append 13 = .ok (.bipush 24, 2) := by decide +kernel
theorem dX2_append_15 : decode cX2_append 15 = .ok (.if_icmp .ge 34, 3) := by decide +kernel
theorem dX2_append_18 : decode cX2_append 18 = .ok (.aload_n 0, 1) := by decide +kernel
theorem dX2_append_19 : decode cX2_append 19 = .ok (.getfield 9, 3) := by decide +kernel
theorem dX2_append_22 : decode cX2_append 22 = .ok (.aload_n 0, 1) := by decide +kernel
theorem dX2_append_23 : decode cX2_append 23 = .ok (.getfield 21, 3) := by decide +kernel
theorem dX2_append_26 : decode cX2_append 26 = .ok (.lload_n 1, 1) := by decide +kernel
theorem dX2_append_27 : decode cX2_append 27 = .ok (.iload 4, 2) := by decide +kernel
theorem dX2_append_29 : decode cX2_append 29 = .ok (.invokestatic 17, 3) := by decide +kernel
theorem dX2_append_32 : decode cX2_append 32 = .ok (.iastore, 1) := by decide +kernel
theorem dX2_append_33 : decode cX2_append 33 = .ok (.aload_n 0, 1) := by decide +kernel
theorem dX2_append_34 : decode cX2_append 34 = .ok (.dup, 1) := by decide +kernel
theorem dX2_append_35 : decode cX2_append 35 = .ok (.getfield 21, 3) := by decide +kernel
theorem dX2_append_38 : decode cX2_append 38 = .ok (.iconst 1, 1) := by decide +kernel
theorem dX2_append_39 : decode cX2_append 39 = .ok (.iadd, 1) := by decide +kernel
theorem dX2_append_40 : decode cX2_append 40 = .ok (.putfield 21, 3) := by decide +kernel
theorem dX2_append_43 : decode cX2_append 43 = .ok (.iinc 4 1, 3) := by decide +kernel
theorem dX2_append_46 : decode cX2_append 46 = .ok (.goto (-43), 3) := by decide +kernel
theorem dX2_append_49 : decode cX2_append 49 = .ok (.return_, 1) := by decide +kernel
theorem dX2_hasInches_0 : decode cX2_hasInches 0 = .ok (.iload_n 0, 1) := by decide +kernel
theorem dX2_hasInches_1 : decode cX2_hasInches 1 = .ok (.bipush 99, 2) := by decide +kernel
theorem dX2_hasInches_3 : decode cX2_hasInches 3 = .ok (.if_icmp .eq 9, 3) := by decide +kernel
theorem dX2_hasInches_6 : decode cX2_hasInches 6 = .ok (.iload_n 0, 1) := by decide +kernel
theorem dX2_hasInches_7 : decode cX2_hasInches 7 = .ok (.bipush 116, 2) := by decide +kernel
theorem dX2_hasInches_9 : decode cX2_hasInches 9 = .ok (.if_icmp .ne 7, 3) := by decide +kernel
theorem dX2_hasInches_12 : decode cX2_hasInches 12 = .ok (.iconst 1, 1) := by decide +kernel
theorem dX2_hasInches_13 : decode cX2_hasInches 13 = .ok (.goto 4, 3) := by decide +kernel
theorem dX2_hasInches_16 : decode cX2_hasInches 16 = .ok (.iconst 0, 1) := by decide +kernel
theorem dX2_hasInches_17 : decode cX2_hasInches 17 = .ok (.ireturn, 1) := by decide +kernel
theorem dX2_isWholeDay_0 : decode cX2_isWholeDay 0 = .ok (.iload_n 0, 1) := by decide +kernel
theorem dX2_isWholeDay_1 : decode cX2_isWholeDay 1 = .ok (.bipush 115, 2) := by decide +kernel
theorem dX2_isWholeDay_3 : decode cX2_isWholeDay 3 = .ok (.if_icmp .eq 9, 3) := by decide +kernel
theorem dX2_isWholeDay_6 : decode cX2_isWholeDay 6 = .ok (.iload_n 0, 1) := by decide +kernel
theorem dX2_isWholeDay_7 : decode cX2_isWholeDay 7 = .ok (.bipush 119, 2) := by decide +kernel
theorem dX2_isWholeDay_9 : decode cX2_isWholeDay 9 = .ok (.if_icmp .ne 7, 3) := by decide +kernel
theorem dX2_isWholeDay_12 : decode cX2_isWholeDay 12 = .ok (.iconst 1, 1) := by decide +kernel
theorem dX2_isWholeDay_13 : decode cX2_isWholeDay 13 = .ok (.goto 4, 3) := by decide +kernel
theorem dX2_isWholeDay_16 : decode cX2_isWholeDay 16 = .ok (.iconst 0, 1) := by decide +kernel
theorem dX2_isWholeDay_17 : decode cX2_isWholeDay 17 = .ok (.ireturn, 1) := by decide +kernel
theorem dX2_firstWrong_0 : decode cX2_firstWrong 0 = .ok (.iconst 0, 1) := by decide +kernel
theorem dX2_firstWrong_1 : decode cX2_firstWrong 1 = .ok (.istore_n 1, 1) := by decide +kernel
theorem dX2_firstWrong_2 : decode cX2_firstWrong 2 = .ok (.iconst 0, 1) := by decide +kernel
theorem dX2_firstWrong_3 : decode cX2_firstWrong 3 = .ok (.istore_n 2, 1) := by decide +kernel
theorem dX2_firstWrong_4 : decode cX2_firstWrong 4 = .ok (.iconst 0, 1) := by decide +kernel
theorem dX2_firstWrong_5 : decode cX2_firstWrong 5 = .ok (.istore_n 3, 1) := by decide +kernel
theorem dX2_firstWrong_6 : decode cX2_firstWrong 6 = .ok (.iload_n 3, 1) := by decide +kernel
theorem dX2_firstWrong_7 : decode cX2_firstWrong 7 = .ok (.aload_n 0, 1) := by decide +kernel
theorem dX2_firstWrong_8 : decode cX2_firstWrong 8 = .ok (.getfield 21, 3) := by decide +kernel
theorem dX2_firstWrong_11 : decode cX2_firstWrong 11 = .ok (.if_icmp .ge 75, 3) := by decide +kernel
theorem dX2_firstWrong_14 : decode cX2_firstWrong 14 = .ok (.aload_n 0, 1) := by decide +kernel
theorem dX2_firstWrong_15 : decode cX2_firstWrong 15 = .ok (.getfield 9, 3) := by decide +kernel
theorem dX2_firstWrong_18 : decode cX2_firstWrong 18 = .ok (.iload_n 3, 1) := by decide +kernel
theorem dX2_firstWrong_19 : decode cX2_firstWrong 19 = .ok (.iaload, 1) := by decide +kernel
theorem dX2_firstWrong_20 : decode cX2_firstWrong 20 = .ok (.istore 4, 2) := by decide +kernel
theorem dX2_firstWrong_22 : decode cX2_firstWrong 22 = .ok (.iload_n 2, 1) := by decide +kernel
theorem dX2_firstWrong_23 : decode cX2_firstWrong 23 = .ok (.ifCond .eq 24, 3) := by decide +kernel
theorem dX2_firstWrong_26 : decode cX2_firstWrong 26 = .ok (.iload 4, 2) := by decide +kernel
theorem dX2_firstWrong_28 : decode cX2_firstWrong 28 = .ok (.bipush 49, 2) := by decide +kernel
theorem dX2_firstWrong_30 : decode cX2_firstWrong 30 = .ok (.if_icmp .lt 10, 3) := by decide +kernel
theorem dX2_firstWrong_33 : decode cX2_firstWrong 33 = .ok (.iload 4, 2) := by decide +kernel
theorem dX2_firstWrong_35 : decode cX2_firstWrong 35 = .ok (.bipush 57, 2) := by decide +kernel
theorem dX2_firstWrong_37 : decode cX2_firstWrong 37 = .ok (.if_icmp .le 5, 3) := by decide +kernel
theorem dX2_firstWrong_40 : decode cX2_firstWrong 40 = .ok (.iload_n 3, 1) := by decide +kernel
theorem dX2_firstWrong_41 : decode cX2_firstWrong 41 = .ok (.ireturn, 1) := by decide +kernel
theorem dX2_firstWrong_42 : decode cX2_firstWrong 42 = .ok (.iconst 0, 1) := by decide +kernel
theorem dX2_firstWrong_43 : decode cX2_firstWrong 43 = .ok (.istore_n 2, 1) := by decide +kernel
theorem dX2_firstWrong_44 : decode cX2_firstWrong 44 = .ok (.goto 36, 3) := by decide +kernel
theorem dX2_firstWrong_47 : decode cX2_firstWrong 47 = .ok (.iload_n 1, 1) := by decide +kernel
theorem dX2_firstWrong_48 : decode cX2_firstWrong 48 = .ok (.bipush 12, 2) := by decide +kernel
theorem dX2_firstWrong_50 : decode cX2_firstWrong 50 = .ok (.if_icmp .eq 19, 3) := by decide +kernel
theorem dX2_firstWrong_53 : decode cX2_firstWrong 53 = .ok (.iload 4, 2) := by decide +kernel
theorem dX2_firstWrong_55 : decode cX2_firstWrong 55 = .ok (.invokestatic 25, 3) := by decide +kernel
theorem dX2_firstWrong_58 : decode cX2_firstWrong 58 = .ok (.ifCond .ne 13, 3) := by decide +kernel
theorem dX2_firstWrong_61 : decode cX2_firstWrong 61 = .ok (.iload 4, 2) := by decide +kernel
theorem dX2_firstWrong_63 : decode cX2_firstWrong 63 = .ok (.invokestatic 29, 3) := by decide +kernel
theorem dX2_firstWrong_66 : decode cX2_firstWrong 66 = .ok (.ifCond .ne 5, 3) := by decide +kernel
theorem dX2_firstWrong_69 : decode cX2_firstWrong 69 = .ok (.iload_n 3, 1) := by decide +kernel
theorem dX2_firstWrong_70 : decode cX2_firstWrong 70 = .ok (.ireturn, 1) := by decide +kernel
theorem dX2_firstWrong_71 : decode cX2_firstWrong 71 = .ok (.iinc 1 1, 3) := by decide +kernel
theorem dX2_firstWrong_74 : decode cX2_firstWrong 74 = .ok (.iload 4, 2) := by decide +kernel
theorem dX2_firstWrong_76 : decode cX2_firstWrong 76 = .ok (.invokestatic 25, 3) := by decide +kernel
theorem dX2_firstWrong_79 : decode cX2_firstWrong 79 = .ok (.istore_n 2, 1) := by decide +kernel
theorem dX2_firstWrong_80 : decode cX2_firstWrong 80 = .ok (.iinc 3 1, 3) := by decide +kernel
theorem dX2_firstWrong_83 : decode cX2_firstWrong 83 = .ok (.goto (-77), 3) := by decide +kernel
theorem dX2_firstWrong_86 : decode cX2_firstWrong 86 = .ok (.aload_n 0, 1) := by decide +kernel
theorem dX2_firstWrong_87 : decode cX2_firstWrong 87 = .ok (.getfield 21, 3) := by decide +kernel
theorem dX2_firstWrong_90 : decode cX2_firstWrong 90 = .ok (.ireturn, 1) := by decide +kernel
theorem dX2_isDays_0 : decode cX2_isDays 0 = .ok (.aload_n 0, 1) := by decide +kernel
theorem dX2_isDays_1 : decode cX2_isDays 1 = .ok (.getfield 21, 3) := by decide +kernel
theorem dX2_isDays_4 : decode cX2_isDays 4 = .ok (.ifCond .le 35, 3) := by decide +kernel
theorem dX2_isDays_7 : decode cX2_isDays 7 = .ok (.aload_n 0, 1) := by decide +kernel
theorem dX2_isDays_8 : decode cX2_isDays 8 = .ok (.invokevirtual 32, 3) := by decide +kernel
theorem dX2_isDays_11 : decode cX2_isDays 11 = .ok (.aload_n 0, 1) := by decide +kernel
theorem dX2_isDays_12 : decode cX2_isDays 12 = .ok (.getfield 21, 3) := by decide +kernel
theorem dX2_isDays_15 : decode cX2_isDays 15 = .ok (.if_icmp .ne 24, 3) := by decide +kernel
theorem dX2_isDays_18 : decode cX2_isDays 18 = .ok (.aload_n 0, 1) := by decide +kernel
theorem dX2_isDays_19 : decode cX2_isDays 19 = .ok (.getfield 9, 3) := by decide +kernel
theorem dX2_isDays_22 : decode cX2_isDays 22 = .ok (.aload_n 0, 1) := by decide +kernel
theorem dX2_isDays_23 : decode cX2_isDays 23 = .ok (.getfield 21, 3) := by decide +kernel
theorem dX2_isDays_26 : decode cX2_isDays 26 = .ok (.iconst 1, 1) := by decide +kernel
theorem dX2_isDays_27 : decode cX2_isDays 27 = .ok (.isub, 1) := by decide +kernel
theorem dX2_isDays_28 : decode cX2_isDays 28 = .ok (.iaload, 1) := by decide +kernel
theorem dX2_isDays_29 : decode cX2_isDays 29 = .ok (.invokestatic 25, 3) := by decide +kernel
theorem dX2_isDays_32 : decode cX2_isDays 32 = .ok (.ifCond .ne 7, 3) := by decide +kernel
theorem dX2_isDays_35 : decode cX2_isDays 35 = .ok (.iconst 1, 1) := by decide +kernel
theorem dX2_isDays_36 : decode cX2_isDays 36 = .ok (.goto 4, 3) := by decide +kernel
theorem dX2_isDays_39 : decode cX2_isDays 39 = .ok (.iconst 0, 1) := by decide +kernel
theorem dX2_isDays_40 : decode cX2_isDays 40 = .ok (.ireturn, 1) := by decide +kernel
theorem dX2_beginsDay_0 : decode cX2_beginsDay 0 = .ok (.aload_n 0, 1) := by decide +kernel
theorem dX2_beginsDay_1 : decode cX2_beginsDay 1 = .ok (.getfield 9, 3) := by decide +kernel
theorem dX2_beginsDay_4 : decode cX2_beginsDay 4 = .ok (.iload_n 1, 1) := by decide +kernel
theorem dX2_beginsDay_5 : decode cX2_beginsDay 5 = .ok (.iaload, 1) := by decide +kernel
theorem dX2_beginsDay_6 : decode cX2_beginsDay 6 = .ok (.invokestatic 25, 3) := by decide +kernel
theorem dX2_beginsDay_9 : decode cX2_beginsDay 9 = .ok (.ifCond .ne 15, 3) := by decide +kernel
theorem dX2_beginsDay_12 : decode cX2_beginsDay 12 = .ok (.aload_n 0, 1) := by decide +kernel
theorem dX2_beginsDay_13 : decode cX2_beginsDay 13 = .ok (.getfield 9, 3) := by decide +kernel
theorem dX2_beginsDay_16 : decode cX2_beginsDay 16 = .ok (.iload_n 1, 1) := by decide +kernel
theorem dX2_beginsDay_17 : decode cX2_beginsDay 17 = .ok (.iaload, 1) := by decide +kernel
theorem dX2_beginsDay_18 : decode cX2_beginsDay 18 = .ok (.invokestatic 29, 3) := by decide +kernel
theorem dX2_beginsDay_21 : decode cX2_beginsDay 21 = .ok (.ifCond .eq 7, 3) := by decide +kernel
theorem dX2_beginsDay_24 : decode cX2_beginsDay 24 = .ok (.iconst 1, 1) := by decide +kernel
theorem dX2_beginsDay_25 : decode cX2_beginsDay 25 = .ok (.goto 4, 3) := by decide +kernel
theorem dX2_beginsDay_28 : decode cX2_beginsDay 28 = .ok (.iconst 0, 1) := by decide +kernel
theorem dX2_beginsDay_29 : decode cX2_beginsDay 29 = .ok (.ireturn, 1) := by decide +kernel
theorem dX2_dayAt_0 : decode cX2_dayAt 0 = .ok (.aload_n 0, 1) := by decide +kernel
theorem dX2_dayAt_1 : decode cX2_dayAt 1 = .ok (.getfield 9, 3) := by decide +kernel
theorem dX2_dayAt_4 : decode cX2_dayAt 4 = .ok (.iload_n 1, 1) := by decide +kernel
theorem dX2_dayAt_5 : decode cX2_dayAt 5 = .ok (.iaload, 1) := by decide +kernel
theorem dX2_dayAt_6 : decode cX2_dayAt 6 = .ok (.lookupswitch 40 #[(99, 34), (115, 38), (116, 36)], 34) := by decide +kernel
theorem dX2_dayAt_40 : decode cX2_dayAt 40 = .ok (.iconst 0, 1) := by decide +kernel
theorem dX2_dayAt_41 : decode cX2_dayAt 41 = .ok (.ireturn, 1) := by decide +kernel
theorem dX2_dayAt_42 : decode cX2_dayAt 42 = .ok (.iconst 1, 1) := by decide +kernel
theorem dX2_dayAt_43 : decode cX2_dayAt 43 = .ok (.ireturn, 1) := by decide +kernel
theorem dX2_dayAt_44 : decode cX2_dayAt 44 = .ok (.iconst 2, 1) := by decide +kernel
theorem dX2_dayAt_45 : decode cX2_dayAt 45 = .ok (.ireturn, 1) := by decide +kernel
theorem dX2_dayAt_46 : decode cX2_dayAt 46 = .ok (.iconst 3, 1) := by decide +kernel
theorem dX2_dayAt_47 : decode cX2_dayAt 47 = .ok (.ireturn, 1) := by decide +kernel
theorem dX2_inchesAt_0 : decode cX2_inchesAt 0 = .ok (.aload_n 0, 1) := by decide +kernel
theorem dX2_inchesAt_1 : decode cX2_inchesAt 1 = .ok (.getfield 9, 3) := by decide +kernel
theorem dX2_inchesAt_4 : decode cX2_inchesAt 4 = .ok (.iload_n 1, 1) := by decide +kernel
theorem dX2_inchesAt_5 : decode cX2_inchesAt 5 = .ok (.iaload, 1) := by decide +kernel
theorem dX2_inchesAt_6 : decode cX2_inchesAt 6 = .ok (.invokestatic 25, 3) := by decide +kernel
theorem dX2_inchesAt_9 : decode cX2_inchesAt 9 = .ok (.ifCond .eq 27, 3) := by decide +kernel
theorem dX2_inchesAt_12 : decode cX2_inchesAt 12 = .ok (.iload_n 1, 1) := by decide +kernel
theorem dX2_inchesAt_13 : decode cX2_inchesAt 13 = .ok (.iconst 1, 1) := by decide +kernel
theorem dX2_inchesAt_14 : decode cX2_inchesAt 14 = .ok (.iadd, 1) := by decide +kernel
theorem dX2_inchesAt_15 : decode cX2_inchesAt 15 = .ok (.aload_n 0, 1) := by decide +kernel
theorem dX2_inchesAt_16 : decode cX2_inchesAt 16 = .ok (.getfield 21, 3) := by decide +kernel
theorem dX2_inchesAt_19 : decode cX2_inchesAt 19 = .ok (.if_icmp .ge 17, 3) := by decide +kernel
theorem dX2_inchesAt_22 : decode cX2_inchesAt 22 = .ok (.aload_n 0, 1) := by decide +kernel
theorem dX2_inchesAt_23 : decode cX2_inchesAt 23 = .ok (.getfield 9, 3) := by decide +kernel
theorem dX2_inchesAt_26 : decode cX2_inchesAt 26 = .ok (.iload_n 1, 1) := by decide +kernel
theorem dX2_inchesAt_27 : decode cX2_inchesAt 27 = .ok (.iconst 1, 1) := by decide +kernel
theorem dX2_inchesAt_28 : decode cX2_inchesAt 28 = .ok (.iadd, 1) := by decide +kernel
theorem dX2_inchesAt_29 : decode cX2_inchesAt 29 = .ok (.iaload, 1) := by decide +kernel
theorem dX2_inchesAt_30 : decode cX2_inchesAt 30 = .ok (.bipush 48, 2) := by decide +kernel
theorem dX2_inchesAt_32 : decode cX2_inchesAt 32 = .ok (.isub, 1) := by decide +kernel
theorem dX2_inchesAt_33 : decode cX2_inchesAt 33 = .ok (.goto 4, 3) := by decide +kernel
theorem dX2_inchesAt_36 : decode cX2_inchesAt 36 = .ok (.iconst 0, 1) := by decide +kernel
theorem dX2_inchesAt_37 : decode cX2_inchesAt 37 = .ok (.ireturn, 1) := by decide +kernel
theorem dX2_outlasts_0 : decode cX2_outlasts 0 = .ok (.iload_n 3, 1) := by decide +kernel
theorem dX2_outlasts_1 : decode cX2_outlasts 1 = .ok (.istore 4, 2) := by decide +kernel
theorem dX2_outlasts_3 : decode cX2_outlasts 3 = .ok (.iload_n 2, 1) := by decide +kernel
theorem dX2_outlasts_4 : decode cX2_outlasts 4 = .ok (.istore 5, 2) := by decide +kernel
theorem dX2_outlasts_6 : decode cX2_outlasts 6 = .ok (.iconst 0, 1) := by decide +kernel
theorem dX2_outlasts_7 : decode cX2_outlasts 7 = .ok (.istore 6, 2) := by decide +kernel
theorem dX2_outlasts_9 : decode cX2_outlasts 9 = .ok (.iload 6, 2) := by decide +kernel
theorem dX2_outlasts_11 : decode cX2_outlasts 11 = .ok (.aload_n 0, 1) := by decide +kernel
theorem dX2_outlasts_12 : decode cX2_outlasts 12 = .ok (.getfield 21, 3) := by decide +kernel
theorem dX2_outlasts_15 : decode cX2_outlasts 15 = .ok (.if_icmp .ge 73, 3) := by decide +kernel
theorem dX2_outlasts_18 : decode cX2_outlasts 18 = .ok (.iload 5, 2) := by decide +kernel
theorem dX2_outlasts_20 : decode cX2_outlasts 20 = .ok (.ifCond .le 68, 3) := by decide +kernel
theorem dX2_outlasts_23 : decode cX2_outlasts 23 = .ok (.aload_n 0, 1) := by decide +kernel
theorem dX2_outlasts_24 : decode cX2_outlasts 24 = .ok (.iload 6, 2) := by decide +kernel
theorem dX2_outlasts_26 : decode cX2_outlasts 26 = .ok (.invokevirtual 36, 3) := by decide +kernel
theorem dX2_outlasts_29 : decode cX2_outlasts 29 = .ok (.ifCond .eq 53, 3) := by decide +kernel
theorem dX2_outlasts_32 : decode cX2_outlasts 32 = .ok (.aload_n 0, 1) := by decide +kernel
theorem dX2_outlasts_33 : decode cX2_outlasts 33 = .ok (.iload 6, 2) := by decide +kernel
theorem dX2_outlasts_35 : decode cX2_outlasts 35 = .ok (.invokevirtual 39, 3) := by decide +kernel
theorem dX2_outlasts_38 : decode cX2_outlasts 38 = .ok (.aload_n 0, 1) := by decide +kernel
theorem dX2_outlasts_39 : decode cX2_outlasts 39 = .ok (.iload 6, 2) := by decide +kernel
theorem dX2_outlasts_41 : decode cX2_outlasts 41 = .ok (.invokevirtual 43, 3) := by decide +kernel
theorem dX2_outlasts_44 : decode cX2_outlasts 44 = .ok (.iload 4, 2) := by decide +kernel
theorem dX2_outlasts_46 : decode cX2_outlasts 46 = .ok (.invokestatic 46, 3) := by decide +kernel
theorem dX2_outlasts_49 : decode cX2_outlasts 49 = .ok (.istore 4, 2) := by decide +kernel
theorem dX2_outlasts_51 : decode cX2_outlasts 51 = .ok (.aload_n 0, 1) := by decide +kernel
theorem dX2_outlasts_52 : decode cX2_outlasts 52 = .ok (.iload 6, 2) := by decide +kernel
theorem dX2_outlasts_54 : decode cX2_outlasts 54 = .ok (.invokevirtual 39, 3) := by decide +kernel
theorem dX2_outlasts_57 : decode cX2_outlasts 57 = .ok (.iconst 1, 1) := by decide +kernel
theorem dX2_outlasts_58 : decode cX2_outlasts 58 = .ok (.if_icmp .ne 20, 3) := by decide +kernel
theorem dX2_outlasts_61 : decode cX2_outlasts 61 = .ok (.iload_n 1, 1) := by decide +kernel
theorem dX2_outlasts_62 : decode cX2_outlasts 62 = .ok (.iload 5, 2) := by decide +kernel
theorem dX2_outlasts_64 : decode cX2_outlasts 64 = .ok (.aload_n 0, 1) := by decide +kernel
theorem dX2_outlasts_65 : decode cX2_outlasts 65 = .ok (.iload 6, 2) := by decide +kernel
theorem dX2_outlasts_67 : decode cX2_outlasts 67 = .ok (.invokevirtual 43, 3) := by decide +kernel
theorem dX2_outlasts_70 : decode cX2_outlasts 70 = .ok (.iload 4, 2) := by decide +kernel
theorem dX2_outlasts_72 : decode cX2_outlasts 72 = .ok (.invokestatic 50, 3) := by decide +kernel
theorem dX2_outlasts_75 : decode cX2_outlasts 75 = .ok (.goto 5, 3) := by decide +kernel
theorem dX2_outlasts_78 : decode cX2_outlasts 78 = .ok (.iload 5, 2) := by decide +kernel
theorem dX2_outlasts_80 : decode cX2_outlasts 80 = .ok (.istore 5, 2) := by decide +kernel
theorem dX2_outlasts_82 : decode cX2_outlasts 82 = .ok (.iinc 6 1, 3) := by decide +kernel
theorem dX2_outlasts_85 : decode cX2_outlasts 85 = .ok (.goto (-76), 3) := by decide +kernel
theorem dX2_outlasts_88 : decode cX2_outlasts 88 = .ok (.iload 5, 2) := by decide +kernel
theorem dX2_outlasts_90 : decode cX2_outlasts 90 = .ok (.ifCond .le 7, 3) := by decide +kernel
theorem dX2_outlasts_93 : decode cX2_outlasts 93 = .ok (.iconst 1, 1) := by decide +kernel
theorem dX2_outlasts_94 : decode cX2_outlasts 94 = .ok (.goto 4, 3) := by decide +kernel
theorem dX2_outlasts_97 : decode cX2_outlasts 97 = .ok (.iconst 0, 1) := by decide +kernel
theorem dX2_outlasts_98 : decode cX2_outlasts 98 = .ok (.ireturn, 1) := by decide +kernel
theorem dX2_daysUntilBearing_0 : decode cX2_daysUntilBearing 0 = .ok (.iload_n 1, 1) := by decide +kernel
theorem dX2_daysUntilBearing_1 : decode cX2_daysUntilBearing 1 = .ok (.istore_n 2, 1) := by decide +kernel
theorem dX2_daysUntilBearing_2 : decode cX2_daysUntilBearing 2 = .ok (.iconst 0, 1) := by decide +kernel
theorem dX2_daysUntilBearing_3 : decode cX2_daysUntilBearing 3 = .ok (.istore_n 3, 1) := by decide +kernel
theorem dX2_daysUntilBearing_4 : decode cX2_daysUntilBearing 4 = .ok (.iconst 0, 1) := by decide +kernel
theorem dX2_daysUntilBearing_5 : decode cX2_daysUntilBearing 5 = .ok (.istore 4, 2) := by decide +kernel
theorem dX2_daysUntilBearing_7 : decode cX2_daysUntilBearing 7 = .ok (.iload 4, 2) := by decide +kernel
theorem dX2_daysUntilBearing_9 : decode cX2_daysUntilBearing 9 = .ok (.aload_n 0, 1) := by decide +kernel
theorem dX2_daysUntilBearing_10 : decode cX2_daysUntilBearing 10 = .ok (.getfield 21, 3) := by decide +kernel
theorem dX2_daysUntilBearing_13 : decode cX2_daysUntilBearing 13 = .ok (.if_icmp .ge 43, 3) := by decide +kernel
theorem dX2_daysUntilBearing_16 : decode cX2_daysUntilBearing 16 = .ok (.iload_n 2, 1) := by decide +kernel
theorem dX2_daysUntilBearing_17 : decode cX2_daysUntilBearing 17 = .ok (.iconst 4, 1) := by decide +kernel
theorem dX2_daysUntilBearing_18 : decode cX2_daysUntilBearing 18 = .ok (.if_icmp .ge 38, 3) := by decide +kernel
theorem dX2_daysUntilBearing_21 : decode cX2_daysUntilBearing 21 = .ok (.aload_n 0, 1) := by decide +kernel
theorem dX2_daysUntilBearing_22 : decode cX2_daysUntilBearing 22 = .ok (.iload 4, 2) := by decide +kernel
theorem dX2_daysUntilBearing_24 : decode cX2_daysUntilBearing 24 = .ok (.invokevirtual 36, 3) := by decide +kernel
theorem dX2_daysUntilBearing_27 : decode cX2_daysUntilBearing 27 = .ok (.ifCond .eq 23, 3) := by decide +kernel
theorem dX2_daysUntilBearing_30 : decode cX2_daysUntilBearing 30 = .ok (.aload_n 0, 1) := by decide +kernel
theorem dX2_daysUntilBearing_31 : decode cX2_daysUntilBearing 31 = .ok (.iload 4, 2) := by decide +kernel
theorem dX2_daysUntilBearing_33 : decode cX2_daysUntilBearing 33 = .ok (.invokevirtual 39, 3) := by decide +kernel
theorem dX2_daysUntilBearing_36 : decode cX2_daysUntilBearing 36 = .ok (.aload_n 0, 1) := by decide +kernel
theorem dX2_daysUntilBearing_37 : decode cX2_daysUntilBearing 37 = .ok (.iload 4, 2) := by decide +kernel
theorem dX2_daysUntilBearing_39 : decode cX2_daysUntilBearing 39 = .ok (.invokevirtual 43, 3) := by decide +kernel
theorem dX2_daysUntilBearing_42 : decode cX2_daysUntilBearing 42 = .ok (.iload_n 2, 1) := by decide +kernel
theorem dX2_daysUntilBearing_43 : decode cX2_daysUntilBearing 43 = .ok (.invokestatic 46, 3) := by decide +kernel
theorem dX2_daysUntilBearing_46 : decode cX2_daysUntilBearing 46 = .ok (.istore_n 2, 1) := by decide +kernel
theorem dX2_daysUntilBearing_47 : decode cX2_daysUntilBearing 47 = .ok (.iinc 3 1, 3) := by decide +kernel
theorem dX2_daysUntilBearing_50 : decode cX2_daysUntilBearing 50 = .ok (.iinc 4 1, 3) := by decide +kernel
theorem dX2_daysUntilBearing_53 : decode cX2_daysUntilBearing 53 = .ok (.goto (-46), 3) := by decide +kernel
theorem dX2_daysUntilBearing_56 : decode cX2_daysUntilBearing 56 = .ok (.iload_n 2, 1) := by decide +kernel
theorem dX2_daysUntilBearing_57 : decode cX2_daysUntilBearing 57 = .ok (.iconst 4, 1) := by decide +kernel
theorem dX2_daysUntilBearing_58 : decode cX2_daysUntilBearing 58 = .ok (.if_icmp .lt 7, 3) := by decide +kernel
theorem dX2_daysUntilBearing_61 : decode cX2_daysUntilBearing 61 = .ok (.iload_n 3, 1) := by decide +kernel
theorem dX2_daysUntilBearing_62 : decode cX2_daysUntilBearing 62 = .ok (.goto 4, 3) := by decide +kernel
theorem dX2_daysUntilBearing_65 : decode cX2_daysUntilBearing 65 = .ok (.iconst (-1), 1) := by decide +kernel
theorem dX2_daysUntilBearing_66 : decode cX2_daysUntilBearing 66 = .ok (.ireturn, 1) := by decide +kernel
