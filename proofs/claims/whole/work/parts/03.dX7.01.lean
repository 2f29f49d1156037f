theorem dX7_lookOf_42 : decode cX7_lookOf 42 = .ok (.iconst 1, 1) := by decide +kernel
theorem dX7_lookOf_43 : decode cX7_lookOf 43 = .ok (.iadd, 1) := by decide +kernel
theorem dX7_lookOf_44 : decode cX7_lookOf 44 = .ok (.iaload, 1) := by decide +kernel
theorem dX7_lookOf_45 : decode cX7_lookOf 45 = .ok (.iaload, 1) := by decide +kernel
theorem dX7_lookOf_46 : decode cX7_lookOf 46 = .ok (.ifCond .ne 7, 3) := by decide +kernel
theorem dX7_lookOf_49 : decode cX7_lookOf 49 = .ok (.iconst 2, 1) := by decide +kernel
theorem dX7_lookOf_50 : decode cX7_lookOf 50 = .ok (.goto 4, 3) := by decide +kernel
theorem dX7_lookOf_53 : decode cX7_lookOf 53 = .ok (.iconst 1, 1) := by decide +kernel
theorem dX7_lookOf_54 : decode cX7_lookOf 54 = .ok (.ireturn, 1) := by decide +kernel
theorem dX7_tellDebt_0 : decode cX7_tellDebt 0 = .ok (.iload_n 2, 1) := by decide +kernel
theorem dX7_tellDebt_1 : decode cX7_tellDebt 1 = .ok (.bipush 6, 2) := by decide +kernel
theorem dX7_tellDebt_3 : decode cX7_tellDebt 3 = .ok (.if_icmp .ne 11, 3) := by decide +kernel
theorem dX7_tellDebt_6 : decode cX7_tellDebt 6 = .ok (.aload_n 0, 1) := by decide +kernel
theorem dX7_tellDebt_7 : decode cX7_tellDebt 7 = .ok (.iload_n 1, 1) := by decide +kernel
theorem dX7_tellDebt_8 : decode cX7_tellDebt 8 = .ok (.invokevirtual 123, 3) := by decide +kernel
theorem dX7_tellDebt_11 : decode cX7_tellDebt 11 = .ok (.goto 45, 3) := by decide +kernel
theorem dX7_tellDebt_14 : decode cX7_tellDebt 14 = .ok (.iload_n 2, 1) := by decide +kernel
theorem dX7_tellDebt_15 : decode cX7_tellDebt 15 = .ok (.bipush 7, 2) := by decide +kernel
theorem dX7_tellDebt_17 : decode cX7_tellDebt 17 = .ok (.if_icmp .ne 11, 3) := by decide +kernel
theorem dX7_tellDebt_20 : decode cX7_tellDebt 20 = .ok (.aload_n 0, 1) := by decide +kernel
theorem dX7_tellDebt_21 : decode cX7_tellDebt 21 = .ok (.iload_n 1, 1) := by decide +kernel
theorem dX7_tellDebt_22 : decode cX7_tellDebt 22 = .ok (.invokevirtual 126, 3) := by decide +kernel
theorem dX7_tellDebt_25 : decode cX7_tellDebt 25 = .ok (.goto 31, 3) := by decide +kernel
theorem dX7_tellDebt_28 : decode cX7_tellDebt 28 = .ok (.iload_n 2, 1) := by decide +kernel
theorem dX7_tellDebt_29 : decode cX7_tellDebt 29 = .ok (.i2l, 1) := by decide +kernel
theorem dX7_tellDebt_30 : decode cX7_tellDebt 30 = .ok (.lconst 0, 1) := by decide +kernel
theorem dX7_tellDebt_31 : decode cX7_tellDebt 31 = .ok (.ldc2_w 82, 3) := by decide +kernel
theorem dX7_tellDebt_34 : decode cX7_tellDebt 34 = .ok (.invokestatic 75, 3) := by decide +kernel
theorem dX7_tellDebt_37 : decode cX7_tellDebt 37 = .ok (.ifCond .eq 17, 3) := by decide +kernel
theorem dX7_tellDebt_40 : decode cX7_tellDebt 40 = .ok (.aload_n 0, 1) := by decide +kernel
theorem dX7_tellDebt_41 : decode cX7_tellDebt 41 = .ok (.getfield 16, 3) := by decide +kernel
theorem dX7_tellDebt_44 : decode cX7_tellDebt 44 = .ok (.bipush 8, 2) := by decide +kernel
theorem dX7_tellDebt_46 : decode cX7_tellDebt 46 = .ok (.iload_n 1, 1) := by decide +kernel
theorem dX7_tellDebt_47 : decode cX7_tellDebt 47 = .ok (.imul, 1) := by decide +kernel
theorem dX7_tellDebt_48 : decode cX7_tellDebt 48 = .ok (.iload_n 2, 1) := by decide +kernel
theorem dX7_tellDebt_49 : decode cX7_tellDebt 49 = .ok (.iadd, 1) := by decide +kernel
theorem dX7_tellDebt_50 : decode cX7_tellDebt 50 = .ok (.iaload, 1) := by decide +kernel
theorem dX7_tellDebt_51 : decode cX7_tellDebt 51 = .ok (.goto 5, 3) := by decide +kernel
theorem dX7_tellDebt_54 : decode cX7_tellDebt 54 = .ok (.bipush (-102), 2) := by decide +kernel
theorem dX7_tellDebt_56 : decode cX7_tellDebt 56 = .ok (.ireturn, 1) := by decide +kernel
theorem dX7_about_0 : decode cX7_about 0 = .ok (.aload_n 0, 1) := by decide +kernel
theorem dX7_about_1 : decode cX7_about 1 = .ok (.iload_n 1, 1) := by decide +kernel
theorem dX7_about_2 : decode cX7_about 2 = .ok (.invokevirtual 129, 3) := by decide +kernel
theorem dX7_about_5 : decode cX7_about 5 = .ok (.ifCond .eq 12, 3) := by decide +kernel
theorem dX7_about_8 : decode cX7_about 8 = .ok (.aload_n 0, 1) := by decide +kernel
theorem dX7_about_9 : decode cX7_about 9 = .ok (.iload_n 1, 1) := by decide +kernel
theorem dX7_about_10 : decode cX7_about 10 = .ok (.iload_n 2, 1) := by decide +kernel
theorem dX7_about_11 : decode cX7_about 11 = .ok (.invokevirtual 132, 3) := by decide +kernel
theorem dX7_about_14 : decode cX7_about 14 = .ok (.goto 5, 3) := by decide +kernel
theorem dX7_about_17 : decode cX7_about 17 = .ok (.bipush (-101), 2) := by decide +kernel
theorem dX7_about_19 : decode cX7_about 19 = .ok (.ireturn, 1) := by decide +kernel
theorem dX7_as_0 : decode cX7_as 0 = .ok (.aload_n 0, 1) := by decide +kernel
theorem dX7_as_1 : decode cX7_as 1 = .ok (.iload_n 1, 1) := by decide +kernel
theorem dX7_as_2 : decode cX7_as 2 = .ok (.invokevirtual 129, 3) := by decide +kernel
theorem dX7_as_5 : decode cX7_as 5 = .ok (.ifCond .ne 6, 3) := by decide +kernel
theorem dX7_as_8 : decode cX7_as 8 = .ok (.bipush (-101), 2) := by decide +kernel
theorem dX7_as_10 : decode cX7_as 10 = .ok (.ireturn, 1) := by decide +kernel
theorem dX7_as_11 : decode cX7_as 11 = .ok (.iload_n 2, 1) := by decide +kernel
theorem dX7_as_12 : decode cX7_as 12 = .ok (.i2l, 1) := by decide +kernel
theorem dX7_as_13 : decode cX7_as 13 = .ok (.lconst 0, 1) := by decide +kernel
theorem dX7_as_14 : decode cX7_as 14 = .ok (.ldc2_w 86, 3) := by decide +kernel
theorem dX7_as_17 : decode cX7_as 17 = .ok (.invokestatic 75, 3) := by decide +kernel
theorem dX7_as_20 : decode cX7_as 20 = .ok (.ifCond .ne 6, 3) := by decide +kernel
theorem dX7_as_23 : decode cX7_as 23 = .ok (.bipush (-102), 2) := by decide +kernel
theorem dX7_as_25 : decode cX7_as 25 = .ok (.ireturn, 1) := by decide +kernel
theorem dX7_as_26 : decode cX7_as 26 = .ok (.aload_n 0, 1) := by decide +kernel
theorem dX7_as_27 : decode cX7_as 27 = .ok (.getfield 16, 3) := by decide +kernel
theorem dX7_as_30 : decode cX7_as 30 = .ok (.bipush 8, 2) := by decide +kernel
theorem dX7_as_32 : decode cX7_as 32 = .ok (.iload_n 1, 1) := by decide +kernel
theorem dX7_as_33 : decode cX7_as 33 = .ok (.imul, 1) := by decide +kernel
theorem dX7_as_34 : decode cX7_as 34 = .ok (.iaload, 1) := by decide +kernel
theorem dX7_as_35 : decode cX7_as 35 = .ok (.istore_n 3, 1) := by decide +kernel
theorem dX7_as_36 : decode cX7_as 36 = .ok (.iload_n 2, 1) := by decide +kernel
theorem dX7_as_37 : decode cX7_as 37 = .ok (.ifCond .eq 18, 3) := by decide +kernel
theorem dX7_as_40 : decode cX7_as 40 = .ok (.iload_n 2, 1) := by decide +kernel
theorem dX7_as_41 : decode cX7_as 41 = .ok (.iload_n 3, 1) := by decide +kernel
theorem dX7_as_42 : decode cX7_as 42 = .ok (.if_icmp .eq 13, 3) := by decide +kernel
theorem dX7_as_45 : decode cX7_as 45 = .ok (.iload_n 2, 1) := by decide +kernel
theorem dX7_as_46 : decode cX7_as 46 = .ok (.iconst 2, 1) := by decide +kernel
theorem dX7_as_47 : decode cX7_as 47 = .ok (.if_icmp .ne 12, 3) := by decide +kernel
theorem dX7_as_50 : decode cX7_as 50 = .ok (.iload_n 3, 1) := by decide +kernel
theorem dX7_as_51 : decode cX7_as 51 = .ok (.iconst 4, 1) := by decide +kernel
theorem dX7_as_52 : decode cX7_as 52 = .ok (.if_icmp .ne 7, 3) := by decide +kernel
theorem dX7_as_55 : decode cX7_as 55 = .ok (.iconst 1, 1) := by decide +kernel
theorem dX7_as_56 : decode cX7_as 56 = .ok (.goto 4, 3) := by decide +kernel
theorem dX7_as_59 : decode cX7_as 59 = .ok (.iconst 0, 1) := by decide +kernel
theorem dX7_as_60 : decode cX7_as 60 = .ok (.istore 4, 2) := by decide +kernel
theorem dX7_as_62 : decode cX7_as 62 = .ok (.iload 4, 2) := by decide +kernel
theorem dX7_as_64 : decode cX7_as 64 = .ok (.ifCond .eq 7, 3) := by decide +kernel
theorem dX7_as_67 : decode cX7_as 67 = .ok (.iload_n 1, 1) := by decide +kernel
theorem dX7_as_68 : decode cX7_as 68 = .ok (.goto 4, 3) := by decide +kernel
theorem dX7_as_71 : decode cX7_as 71 = .ok (.iconst (-1), 1) := by decide +kernel
theorem dX7_as_72 : decode cX7_as 72 = .ok (.ireturn, 1) := by decide +kernel
theorem dX7_saw_0 : decode cX7_saw 0 = .ok (.aload_n 0, 1) := by decide +kernel
theorem dX7_saw_1 : decode cX7_saw 1 = .ok (.iload_n 1, 1) := by decide +kernel
theorem dX7_saw_2 : decode cX7_saw 2 = .ok (.invokevirtual 129, 3) := by decide +kernel
theorem dX7_saw_5 : decode cX7_saw 5 = .ok (.ifCond .ne 6, 3) := by decide +kernel
theorem dX7_saw_8 : decode cX7_saw 8 = .ok (.bipush (-101), 2) := by decide +kernel
theorem dX7_saw_10 : decode cX7_saw 10 = .ok (.ireturn, 1) := by decide +kernel
theorem dX7_saw_11 : decode cX7_saw 11 = .ok (.aload_n 0, 1) := by decide +kernel
theorem dX7_saw_12 : decode cX7_saw 12 = .ok (.iload_n 1, 1) := by decide +kernel
theorem dX7_saw_13 : decode cX7_saw 13 = .ok (.invokevirtual 94, 3) := by decide +kernel
theorem dX7_saw_16 : decode cX7_saw 16 = .ok (.ifCond .ne 6, 3) := by decide +kernel
theorem dX7_saw_19 : decode cX7_saw 19 = .ok (.bipush (-103), 2) := by decide +kernel
theorem dX7_saw_21 : decode cX7_saw 21 = .ok (.ireturn, 1) := by decide +kernel
theorem dX7_saw_22 : decode cX7_saw 22 = .ok (.aload_n 0, 1) := by decide +kernel
theorem dX7_saw_23 : decode cX7_saw 23 = .ok (.getfield 16, 3) := by decide +kernel
theorem dX7_saw_26 : decode cX7_saw 26 = .ok (.bipush 8, 2) := by decide +kernel
theorem dX7_saw_28 : decode cX7_saw 28 = .ok (.iload_n 1, 1) := by decide +kernel
theorem dX7_saw_29 : decode cX7_saw 29 = .ok (.imul, 1) := by decide +kernel
theorem dX7_saw_30 : decode cX7_saw 30 = .ok (.bipush 7, 2) := by decide +kernel
theorem dX7_saw_32 : decode cX7_saw 32 = .ok (.iadd, 1) := by decide +kernel
theorem dX7_saw_33 : decode cX7_saw 33 = .ok (.aload_n 0, 1) := by decide +kernel
theorem dX7_saw_34 : decode cX7_saw 34 = .ok (.iload_n 1, 1) := by decide +kernel
theorem dX7_saw_35 : decode cX7_saw 35 = .ok (.invokevirtual 123, 3) := by decide +kernel
theorem dX7_saw_38 : decode cX7_saw 38 = .ok (.iastore, 1) := by decide +kernel
theorem dX7_saw_39 : decode cX7_saw 39 = .ok (.aload_n 0, 1) := by decide +kernel
theorem dX7_saw_40 : decode cX7_saw 40 = .ok (.getfield 16, 3) := by decide +kernel
theorem dX7_saw_43 : decode cX7_saw 43 = .ok (.bipush 8, 2) := by decide +kernel
theorem dX7_saw_45 : decode cX7_saw 45 = .ok (.iload_n 1, 1) := by decide +kernel
theorem dX7_saw_46 : decode cX7_saw 46 = .ok (.imul, 1) := by decide +kernel
theorem dX7_saw_47 : decode cX7_saw 47 = .ok (.bipush 6, 2) := by decide +kernel
theorem dX7_saw_49 : decode cX7_saw 49 = .ok (.iadd, 1) := by decide +kernel
theorem dX7_saw_50 : decode cX7_saw 50 = .ok (.iconst 2, 1) := by decide +kernel
theorem dX7_saw_51 : decode cX7_saw 51 = .ok (.iastore, 1) := by decide +kernel
theorem dX7_saw_52 : decode cX7_saw 52 = .ok (.aload_n 0, 1) := by decide +kernel
theorem dX7_saw_53 : decode cX7_saw 53 = .ok (.getfield 7, 3) := by decide +kernel
theorem dX7_saw_56 : decode cX7_saw 56 = .ok (.aload_n 0, 1) := by decide +kernel
theorem dX7_saw_57 : decode cX7_saw 57 = .ok (.getfield 16, 3) := by decide +kernel
theorem dX7_saw_60 : decode cX7_saw 60 = .ok (.bipush 8, 2) := by decide +kernel
theorem dX7_saw_62 : decode cX7_saw 62 = .ok (.iload_n 1, 1) := by decide +kernel
theorem dX7_saw_63 : decode cX7_saw 63 = .ok (.imul, 1) := by decide +kernel
theorem dX7_saw_64 : decode cX7_saw 64 = .ok (.iconst 1, 1) := by decide +kernel
theorem dX7_saw_65 : decode cX7_saw 65 = .ok (.iadd, 1) := by decide +kernel
theorem dX7_saw_66 : decode cX7_saw 66 = .ok (.iaload, 1) := by decide +kernel
theorem dX7_saw_67 : decode cX7_saw 67 = .ok (.iaload, 1) := by decide +kernel
theorem dX7_saw_68 : decode cX7_saw 68 = .ok (.ireturn, 1) := by decide +kernel
theorem dX7_letters_0 : decode cX7_letters 0 = .ok (.iconst 0, 1) := by decide +kernel
theorem dX7_letters_1 : decode cX7_letters 1 = .ok (.istore_n 3, 1) := by decide +kernel
theorem dX7_letters_2 : decode cX7_letters 2 = .ok (.iconst 1, 1) := by decide +kernel
theorem dX7_letters_3 : decode cX7_letters 3 = .ok (.istore 4, 2) := by decide +kernel
theorem dX7_letters_5 : decode cX7_letters 5 = .ok (.lload_n 1, 1) := by decide +kernel
theorem dX7_letters_6 : decode cX7_letters 6 = .ok (.lstore 5, 2) := by decide +kernel
theorem dX7_letters_8 : decode cX7_letters 8 = .ok (.iconst 0, 1) := by decide +kernel
theorem dX7_letters_9 : decode cX7_letters 9 = .ok (.istore 7, 2) := by decide +kernel
theorem dX7_letters_11 : decode cX7_letters 11 = .ok (.iload 7, 2) := by decide +kernel
theorem dX7_letters_13 : decode cX7_letters 13 = .ok (.bipush 8, 2) := by decide +kernel
theorem dX7_letters_15 : decode cX7_letters 15 = .ok (.if_icmp .ge 68, 3) := by decide +kernel
theorem dX7_letters_18 : decode cX7_letters 18 = .ok (.lload 5, 2) := by decide +kernel
theorem dX7_letters_20 : decode cX7_letters 20 = .ok (.ldc2_w 135, 3) := by decide +kernel
theorem dX7_letters_23 : decode cX7_letters 23 = .ok (.land, 1) := by decide +kernel
theorem dX7_letters_24 : decode cX7_letters 24 = .ok (.l2i, 1) := by decide +kernel
theorem dX7_letters_25 : decode cX7_letters 25 = .ok (.istore 8, 2) := by decide +kernel
theorem dX7_letters_27 : decode cX7_letters 27 = .ok (.lload 5, 2) := by decide +kernel
theorem dX7_letters_29 : decode cX7_letters 29 = .ok (.bipush 8, 2) := by decide +kernel
theorem dX7_letters_31 : decode cX7_letters 31 = .ok (.lushr, 1) := by decide +kernel
theorem dX7_letters_32 : decode cX7_letters 32 = .ok (.lstore 5, 2) := by decide +kernel
theorem dX7_letters_34 : decode cX7_letters 34 = .ok (.iload 4, 2) := by decide +kernel
theorem dX7_letters_36 : decode cX7_letters 36 = .ok (.ifCond .eq 25, 3) := by decide +kernel
theorem dX7_letters_39 : decode cX7_letters 39 = .ok (.iload 8, 2) := by decide +kernel
theorem dX7_letters_41 : decode cX7_letters 41 = .ok (.bipush 126, 2) := by decide +kernel
theorem dX7_letters_43 : decode cX7_letters 43 = .ok (.if_icmp .gt 18, 3) := by decide +kernel
theorem dX7_letters_46 : decode cX7_letters 46 = .ok (.iload 8, 2) := by decide +kernel
theorem dX7_letters_48 : decode cX7_letters 48 = .ok (.ifCond .eq 9, 3) := by decide +kernel
theorem dX7_letters_51 : decode cX7_letters 51 = .ok (.iload_n 3, 1) := by decide +kernel
theorem dX7_letters_52 : decode cX7_letters 52 = .ok (.iload 7, 2) := by decide +kernel
theorem dX7_letters_54 : decode cX7_letters 54 = .ok (.if_icmp .ne 7, 3) := by decide +kernel
theorem dX7_letters_57 : decode cX7_letters 57 = .ok (.iconst 1, 1) := by decide +kernel
theorem dX7_letters_58 : decode cX7_letters 58 = .ok (.goto 4, 3) := by decide +kernel
theorem dX7_letters_61 : decode cX7_letters 61 = .ok (.iconst 0, 1) := by decide +kernel
theorem dX7_letters_62 : decode cX7_letters 62 = .ok (.istore 4, 2) := by decide +kernel
theorem dX7_letters_64 : decode cX7_letters 64 = .ok (.iload_n 3, 1) := by decide +kernel
theorem dX7_letters_65 : decode cX7_letters 65 = .ok (.iload 8, 2) := by decide +kernel
theorem dX7_letters_67 : decode cX7_letters 67 = .ok (.ifCond .le 7, 3) := by decide +kernel
theorem dX7_letters_70 : decode cX7_letters 70 = .ok (.iconst 1, 1) := by decide +kernel
theorem dX7_letters_71 : decode cX7_letters 71 = .ok (.goto 4, 3) := by decide +kernel
theorem dX7_letters_74 : decode cX7_letters 74 = .ok (.iconst 0, 1) := by decide +kernel
theorem dX7_letters_75 : decode cX7_letters 75 = .ok (.iadd, 1) := by decide +kernel
theorem dX7_letters_76 : decode cX7_letters 76 = .ok (.istore_n 3, 1) := by decide +kernel
theorem dX7_letters_77 : decode cX7_letters 77 = .ok (.iinc 7 1, 3) := by decide +kernel
theorem dX7_letters_80 : decode cX7_letters 80 = .ok (.goto (-69), 3) := by decide +kernel
theorem dX7_letters_83 : decode cX7_letters 83 = .ok (.iload 4, 2) := by decide +kernel
theorem dX7_letters_85 : decode cX7_letters 85 = .ok (.ifCond .ne 6, 3) := by decide +kernel
theorem dX7_letters_88 : decode cX7_letters 88 = .ok (.bipush (-102), 2) := by decide +kernel
theorem dX7_letters_90 : decode cX7_letters 90 = .ok (.ireturn, 1) := by decide +kernel
theorem dX7_letters_91 : decode cX7_letters 91 = .ok (.aload_n 0, 1) := by decide +kernel
theorem dX7_letters_92 : decode cX7_letters 92 = .ok (.getfield 137, 3) := by decide +kernel
theorem dX7_letters_95 : decode cX7_letters 95 = .ok (.iload_n 3, 1) := by decide +kernel
theorem dX7_letters_96 : decode cX7_letters 96 = .ok (.iadd, 1) := by decide +kernel
theorem dX7_letters_97 : decode cX7_letters 97 = .ok (.bipush 24, 2) := by decide +kernel
theorem dX7_letters_99 : decode cX7_letters 99 = .ok (.if_icmp .le 6, 3) := by decide +kernel
theorem dX7_letters_102 : decode cX7_letters 102 = .ok (.bipush (-104), 2) := by decide +kernel
theorem dX7_letters_104 : decode cX7_letters 104 = .ok (.ireturn, 1) := by decide +kernel
theorem dX7_letters_105 : decode cX7_letters 105 = .ok (.iconst 0, 1) := by decide +kernel
theorem dX7_letters_106 : decode cX7_letters 106 = .ok (.istore 7, 2) := by decide +kernel
theorem dX7_letters_108 : decode cX7_letters 108 = .ok (.iload 7, 2) := by decide +kernel
theorem dX7_letters_110 : decode cX7_letters 110 = .ok (.iload_n 3, 1) := by decide +kernel
theorem dX7_letters_111 : decode cX7_letters 111 = .ok (.if_icmp .ge 40, 3) := by decide +kernel
theorem dX7_letters_114 : decode cX7_letters 114 = .ok (.aload_n 0, 1) := by decide +kernel
theorem dX7_letters_115 : decode cX7_letters 115 = .ok (.getfield 19, 3) := by decide +kernel
theorem dX7_letters_118 : decode cX7_letters 118 = .ok (.aload_n 0, 1) := by decide +kernel
theorem dX7_letters_119 : decode cX7_letters 119 = .ok (.getfield 137, 3) := by decide +kernel
theorem dX7_letters_122 : decode cX7_letters 122 = .ok (.lload_n 1, 1) := by decide +kernel
theorem dX7_letters_123 : decode cX7_letters 123 = .ok (.bipush 8, 2) := by decide +kernel
theorem dX7_letters_125 : decode cX7_letters 125 = .ok (.iload 7, 2) := by decide +kernel
theorem dX7_letters_127 : decode cX7_letters 127 = .ok (.imul, 1) := by decide +kernel
theorem dX7_letters_128 : decode cX7_letters 128 = .ok (.lushr, 1) := by decide +kernel
theorem dX7_letters_129 : decode cX7_letters 129 = .ok (.ldc2_w 135, 3) := by decide +kernel
theorem dX7_letters_132 : decode cX7_letters 132 = .ok (.land, 1) := by decide +kernel
theorem dX7_letters_133 : decode cX7_letters 133 = .ok (.l2i, 1) := by decide +kernel
theorem dX7_letters_134 : decode cX7_letters 134 = .ok (.iastore, 1) := by decide +kernel
theorem dX7_letters_135 : decode cX7_letters 135 = .ok (.aload_n 0, 1) := by decide +kernel
theorem dX7_letters_136 : decode cX7_letters 136 = .ok (.dup, 1) := by decide +kernel
theorem dX7_letters_137 : decode cX7_letters 137 = .ok (.getfield 137, 3) := by decide +kernel
theorem dX7_letters_140 : decode cX7_letters 140 = .ok (.iconst 1, 1) := by decide +kernel
theorem dX7_letters_141 : decode cX7_letters 141 = .ok (.iadd, 1) := by decide +kernel
theorem dX7_letters_142 : decode cX7_letters 142 = .ok (.putfield 137, 3) := by decide +kernel
theorem dX7_letters_145 : decode cX7_letters 145 = .ok (.iinc 7 1, 3) := by decide +kernel
theorem dX7_letters_148 : decode cX7_letters 148 = .ok (.goto (-40), 3) := by decide +kernel
theorem dX7_letters_151 : decode cX7_letters 151 = .ok (.aload_n 0, 1) := by decide +kernel
theorem dX7_letters_152 : decode cX7_letters 152 = .ok (.getfield 137, 3) := by decide +kernel
theorem dX7_letters_155 : decode cX7_letters 155 = .ok (.ireturn, 1) := by decide +kernel
theorem dX7_blank_0 : decode cX7_blank 0 = .ok (.aload_n 0, 1) := by decide +kernel
theorem dX7_blank_1 : decode cX7_blank 1 = .ok (.getfield 137, 3) := by decide +kernel
theorem dX7_blank_4 : decode cX7_blank 4 = .ok (.istore_n 1, 1) := by decide +kernel
theorem dX7_blank_5 : decode cX7_blank 5 = .ok (.aload_n 0, 1) := by decide +kernel
theorem dX7_blank_6 : decode cX7_blank 6 = .ok (.iconst 0, 1) := by decide +kernel
theorem dX7_blank_7 : decode cX7_blank 7 = .ok (.putfield 137, 3) := by decide +kernel
theorem dX7_blank_10 : decode cX7_blank 10 = .ok (.iload_n 1, 1) := by decide +kernel
theorem dX7_blank_11 : decode cX7_blank 11 = .ok (.ireturn, 1) := by decide +kernel
theorem dX7_dayOf_0 : decode cX7_dayOf 0 = .ok (.iload_n 0, 1) := by decide +kernel
theorem dX7_dayOf_1 : decode cX7_dayOf 1 = .ok (.bipush 99, 2) := by decide +kernel
theorem dX7_dayOf_3 : decode cX7_dayOf 3 = .ok (.if_icmp .ne 7, 3) := by decide +kernel
theorem dX7_dayOf_6 : decode cX7_dayOf 6 = .ok (.iconst 0, 1) := by decide +kernel
theorem dX7_dayOf_7 : decode cX7_dayOf 7 = .ok (.goto 34, 3) := by decide +kernel
theorem dX7_dayOf_10 : decode cX7_dayOf 10 = .ok (.iload_n 0, 1) := by decide +kernel
theorem dX7_dayOf_11 : decode cX7_dayOf 11 = .ok (.bipush 116, 2) := by decide +kernel
theorem dX7_dayOf_13 : decode cX7_dayOf 13 = .ok (.if_icmp .ne 7, 3) := by decide +kernel
theorem dX7_dayOf_16 : decode cX7_dayOf 16 = .ok (.iconst 1, 1) := by decide +kernel
theorem dX7_dayOf_17 : decode cX7_dayOf 17 = .ok (.goto 24, 3) := by decide +kernel
theorem dX7_dayOf_20 : decode cX7_dayOf 20 = .ok (.iload_n 0, 1) := by decide +kernel
theorem dX7_dayOf_21 : decode cX7_dayOf 21 = .ok (.bipush 115, 2) := by decide +kernel
theorem dX7_dayOf_23 : decode cX7_dayOf 23 = .ok (.if_icmp .ne 7, 3) := by decide +kernel
theorem dX7_dayOf_26 : decode cX7_dayOf 26 = .ok (.iconst 2, 1) := by decide +kernel
theorem dX7_dayOf_27 : decode cX7_dayOf 27 = .ok (.goto 14, 3) := by decide +kernel
theorem dX7_dayOf_30 : decode cX7_dayOf 30 = .ok (.iload_n 0, 1) := by decide +kernel
theorem dX7_dayOf_31 : decode cX7_dayOf 31 = .ok (.bipush 119, 2) := by decide +kernel
theorem dX7_dayOf_33 : decode cX7_dayOf 33 = .ok (.if_icmp .ne 7, 3) := by decide +kernel
theorem dX7_dayOf_36 : decode cX7_dayOf 36 = .ok (.iconst 3, 1) := by decide +kernel
theorem dX7_dayOf_37 : decode cX7_dayOf 37 = .ok (.goto 4, 3) := by decide +kernel
theorem dX7_dayOf_40 : decode cX7_dayOf 40 = .ok (.iconst (-1), 1) := by decide +kernel
theorem dX7_dayOf_41 : decode cX7_dayOf 41 = .ok (.ireturn, 1) := by decide +kernel
theorem dX7_go_0 : decode cX7_go 0 = .ok (.aload_n 0, 1) := by decide +kernel
theorem dX7_go_1 : decode cX7_go 1 = .ok (.getfield 140, 3) := by decide +kernel
theorem dX7_go_4 : decode cX7_go 4 = .ok (.ifCond .eq 43, 3) := by decide +kernel
theorem dX7_go_7 : decode cX7_go 7 = .ok (.aload_n 0, 1) := by decide +kernel
theorem dX7_go_8 : decode cX7_go 8 = .ok (.getfield 25, 3) := by decide +kernel
theorem dX7_go_11 : decode cX7_go 11 = .ok (.aload_n 0, 1) := by decide +kernel
theorem dX7_go_12 : decode cX7_go 12 = .ok (.getfield 144, 3) := by decide +kernel
theorem dX7_go_15 : decode cX7_go 15 = .ok (.iload_n 1, 1) := by decide +kernel
theorem dX7_go_16 : decode cX7_go 16 = .ok (.bipush 48, 2) := by decide +kernel
theorem dX7_go_18 : decode cX7_go 18 = .ok (.isub, 1) := by decide +kernel
theorem dX7_go_19 : decode cX7_go 19 = .ok (.iastore, 1) := by decide +kernel
theorem dX7_go_20 : decode cX7_go 20 = .ok (.aload_n 0, 1) := by decide +kernel
theorem dX7_go_21 : decode cX7_go 21 = .ok (.dup, 1) := by decide +kernel
theorem dX7_go_22 : decode cX7_go 22 = .ok (.getfield 144, 3) := by decide +kernel
theorem dX7_go_25 : decode cX7_go 25 = .ok (.iconst 1, 1) := by decide +kernel
theorem dX7_go_26 : decode cX7_go 26 = .ok (.iadd, 1) := by decide +kernel
theorem dX7_go_27 : decode cX7_go 27 = .ok (.putfield 144, 3) := by decide +kernel
theorem dX7_go_30 : decode cX7_go 30 = .ok (.aload_n 0, 1) := by decide +kernel
theorem dX7_go_31 : decode cX7_go 31 = .ok (.iconst 0, 1) := by decide +kernel
theorem dX7_go_32 : decode cX7_go 32 = .ok (.putfield 140, 3) := by decide +kernel
theorem dX7_go_35 : decode cX7_go 35 = .ok (.iload_n 1, 1) := by decide +kernel
theorem dX7_go_36 : decode cX7_go 36 = .ok (.i2l, 1) := by decide +kernel
theorem dX7_go_37 : decode cX7_go 37 = .ok (.ldc2_w 147, 3) := by decide +kernel
theorem dX7_go_40 : decode cX7_go 40 = .ok (.ldc2_w 149, 3) := by decide +kernel
theorem dX7_go_43 : decode cX7_go 43 = .ok (.invokestatic 75, 3) := by decide +kernel
theorem dX7_go_46 : decode cX7_go 46 = .ok (.ireturn, 1) := by decide +kernel
theorem dX7_go_47 : decode cX7_go 47 = .ok (.iload_n 1, 1) := by decide +kernel
theorem dX7_go_48 : decode cX7_go 48 = .ok (.invokestatic 151, 3) := by decide +kernel
theorem dX7_go_51 : decode cX7_go 51 = .ok (.iconst (-1), 1) := by decide +kernel
theorem dX7_go_52 : decode cX7_go 52 = .ok (.if_icmp .eq 16, 3) := by decide +kernel
theorem dX7_go_55 : decode cX7_go 55 = .ok (.aload_n 0, 1) := by decide +kernel
theorem dX7_go_56 : decode cX7_go 56 = .ok (.getfield 144, 3) := by decide +kernel
theorem dX7_go_59 : decode cX7_go 59 = .ok (.bipush 12, 2) := by decide +kernel
theorem dX7_go_61 : decode cX7_go 61 = .ok (.if_icmp .ge 7, 3) := by decide +kernel
theorem dX7_go_64 : decode cX7_go 64 = .ok (.iconst 1, 1) := by decide +kernel
theorem dX7_go_65 : decode cX7_go 65 = .ok (.goto 4, 3) := by decide +kernel
theorem dX7_go_68 : decode cX7_go 68 = .ok (.iconst 0, 1) := by decide +kernel
theorem dX7_go_69 : decode cX7_go 69 = .ok (.istore_n 2, 1) := by decide +kernel
theorem dX7_go_70 : decode cX7_go 70 = .ok (.iload_n 2, 1) := by decide +kernel
theorem dX7_go_71 : decode cX7_go 71 = .ok (.ifCond .eq 64, 3) := by decide +kernel
theorem dX7_go_74 : decode cX7_go 74 = .ok (.aload_n 0, 1) := by decide +kernel
theorem dX7_go_75 : decode cX7_go 75 = .ok (.getfield 22, 3) := by decide +kernel
theorem dX7_go_78 : decode cX7_go 78 = .ok (.aload_n 0, 1) := by decide +kernel
theorem dX7_go_79 : decode cX7_go 79 = .ok (.getfield 144, 3) := by decide +kernel
theorem dX7_go_82 : decode cX7_go 82 = .ok (.iload_n 1, 1) := by decide +kernel
theorem dX7_go_83 : decode cX7_go 83 = .ok (.invokestatic 151, 3) := by decide +kernel
theorem dX7_go_86 : decode cX7_go 86 = .ok (.iastore, 1) := by decide +kernel
theorem dX7_go_87 : decode cX7_go 87 = .ok (.aload_n 0, 1) := by decide +kernel
theorem dX7_go_88 : decode cX7_go 88 = .ok (.getfield 25, 3) := by decide +kernel
theorem dX7_go_91 : decode cX7_go 91 = .ok (.aload_n 0, 1) := by decide +kernel
theorem dX7_go_92 : decode cX7_go 92 = .ok (.getfield 144, 3) := by decide +kernel
theorem dX7_go_95 : decode cX7_go 95 = .ok (.iconst 0, 1) := by decide +kernel
theorem dX7_go_96 : decode cX7_go 96 = .ok (.iastore, 1) := by decide +kernel
theorem dX7_go_97 : decode cX7_go 97 = .ok (.aload_n 0, 1) := by decide +kernel
theorem dX7_go_98 : decode cX7_go 98 = .ok (.iload_n 1, 1) := by decide +kernel
theorem dX7_go_99 : decode cX7_go 99 = .ok (.invokestatic 151, 3) := by decide +kernel
theorem dX7_go_102 : decode cX7_go 102 = .ok (.iconst 2, 1) := by decide +kernel
theorem dX7_go_103 : decode cX7_go 103 = .ok (.if_icmp .ge 7, 3) := by decide +kernel
theorem dX7_go_106 : decode cX7_go 106 = .ok (.iconst 1, 1) := by decide +kernel
theorem dX7_go_107 : decode cX7_go 107 = .ok (.goto 4, 3) := by decide +kernel
theorem dX7_go_110 : decode cX7_go 110 = .ok (.iconst 0, 1) := by decide +kernel
theorem dX7_go_111 : decode cX7_go 111 = .ok (.putfield 140, 3) := by decide +kernel
theorem dX7_go_114 : decode cX7_go 114 = .ok (.aload_n 0, 1) := by decide +kernel
theorem dX7_go_115 : decode cX7_go 115 = .ok (.dup, 1) := by decide +kernel
theorem dX7_go_116 : decode cX7_go 116 = .ok (.getfield 144, 3) := by decide +kernel
theorem dX7_go_119 : decode cX7_go 119 = .ok (.aload_n 0, 1) := by decide +kernel
theorem dX7_go_120 : decode cX7_go 120 = .ok (.getfield 140, 3) := by decide +kernel
theorem dX7_go_123 : decode cX7_go 123 = .ok (.ifCond .eq 7, 3) := by decide +kernel
theorem dX7_go_126 : decode cX7_go 126 = .ok (.iconst 0, 1) := by decide +kernel
theorem dX7_go_127 : decode cX7_go 127 = .ok (.goto 4, 3) := by decide +kernel
theorem dX7_go_130 : decode cX7_go 130 = .ok (.iconst 1, 1) := by decide +kernel
theorem dX7_go_131 : decode cX7_go 131 = .ok (.iadd, 1) := by decide +kernel
theorem dX7_go_132 : decode cX7_go 132 = .ok (.putfield 144, 3) := by decide +kernel
theorem dX7_go_135 : decode cX7_go 135 = .ok (.iload_n 2, 1) := by decide +kernel
theorem dX7_go_136 : decode cX7_go 136 = .ok (.ireturn, 1) := by decide +kernel
theorem dX7_faultOf_0 : decode cX7_faultOf 0 = .ok (.aload_n 0, 1) := by decide +kernel
theorem dX7_faultOf_1 : decode cX7_faultOf 1 = .ok (.iconst 0, 1) := by decide +kernel
theorem dX7_faultOf_2 : decode cX7_faultOf 2 = .ok (.putfield 144, 3) := by decide +kernel
theorem dX7_faultOf_5 : decode cX7_faultOf 5 = .ok (.aload_n 0, 1) := by decide +kernel
theorem dX7_faultOf_6 : decode cX7_faultOf 6 = .ok (.iconst 0, 1) := by decide +kernel
theorem dX7_faultOf_7 : decode cX7_faultOf 7 = .ok (.putfield 140, 3) := by decide +kernel
theorem dX7_faultOf_10 : decode cX7_faultOf 10 = .ok (.iconst 0, 1) := by decide +kernel
theorem dX7_faultOf_11 : decode cX7_faultOf 11 = .ok (.istore_n 1, 1) := by decide +kernel
theorem dX7_faultOf_12 : decode cX7_faultOf 12 = .ok (.iload_n 1, 1) := by decide +kernel
theorem dX7_faultOf_13 : decode cX7_faultOf 13 = .ok (.aload_n 0, 1) := by decide +kernel
theorem dX7_faultOf_14 : decode cX7_faultOf 14 = .ok (.getfield 137, 3) := by decide +kernel
theorem dX7_faultOf_17 : decode cX7_faultOf 17 = .ok (.if_icmp .ge 22, 3) := by decide +kernel
theorem dX7_faultOf_20 : decode cX7_faultOf 20 = .ok (.aload_n 0, 1) := by decide +kernel
theorem dX7_faultOf_21 : decode cX7_faultOf 21 = .ok (.aload_n 0, 1) := by decide +kernel
theorem dX7_faultOf_22 : decode cX7_faultOf 22 = .ok (.getfield 19, 3) := by decide +kernel
theorem dX7_faultOf_25 : decode cX7_faultOf 25 = .ok (.iload_n 1, 1) := by decide +kernel
theorem dX7_faultOf_26 : decode cX7_faultOf 26 = .ok (.iaload, 1) := by decide +kernel
theorem dX7_faultOf_27 : decode cX7_faultOf 27 = .ok (.invokevirtual 154, 3) := by decide +kernel
theorem dX7_faultOf_30 : decode cX7_faultOf 30 = .ok (.ifCond .eq 9, 3) := by decide +kernel
theorem dX7_faultOf_33 : decode cX7_faultOf 33 = .ok (.iinc 1 1, 3) := by decide +kernel
theorem dX7_faultOf_36 : decode cX7_faultOf 36 = .ok (.goto (-24), 3) := by decide +kernel
theorem dX7_faultOf_39 : decode cX7_faultOf 39 = .ok (.iload_n 1, 1) := by decide +kernel
theorem dX7_faultOf_40 : decode cX7_faultOf 40 = .ok (.ireturn, 1) := by decide +kernel
theorem dX7_fault_0 : decode cX7_fault 0 = .ok (.aload_n 0, 1) := by decide +kernel
theorem dX7_fault_1 : decode cX7_fault 1 = .ok (.invokevirtual 157, 3) := by decide +kernel
theorem dX7_fault_4 : decode cX7_fault 4 = .ok (.ireturn, 1) := by decide +kernel
theorem dX7_areDays_0 : decode cX7_areDays 0 = .ok (.aload_n 0, 1) := by decide +kernel
theorem dX7_areDays_1 : decode cX7_areDays 1 = .ok (.invokevirtual 157, 3) := by decide +kernel
theorem dX7_areDays_4 : decode cX7_areDays 4 = .ok (.aload_n 0, 1) := by decide +kernel
theorem dX7_areDays_5 : decode cX7_areDays 5 = .ok (.getfield 137, 3) := by decide +kernel
theorem dX7_areDays_8 : decode cX7_areDays 8 = .ok (.if_icmp .ne 21, 3) := by decide +kernel
theorem dX7_areDays_11 : decode cX7_areDays 11 = .ok (.aload_n 0, 1) := by decide +kernel
theorem dX7_areDays_12 : decode cX7_areDays 12 = .ok (.getfield 140, 3) := by decide +kernel
theorem dX7_areDays_15 : decode cX7_areDays 15 = .ok (.ifCond .ne 14, 3) := by decide +kernel
theorem dX7_areDays_18 : decode cX7_areDays 18 = .ok (.aload_n 0, 1) := by decide +kernel
theorem dX7_areDays_19 : decode cX7_areDays 19 = .ok (.getfield 144, 3) := by decide +kernel
theorem dX7_areDays_22 : decode cX7_areDays 22 = .ok (.ifCond .le 7, 3) := by decide +kernel
theorem dX7_areDays_25 : decode cX7_areDays 25 = .ok (.iconst 1, 1) := by decide +kernel
theorem dX7_areDays_26 : decode cX7_areDays 26 = .ok (.goto 4, 3) := by decide +kernel
theorem dX7_areDays_29 : decode cX7_areDays 29 = .ok (.iconst 0, 1) := by decide +kernel
theorem dX7_areDays_30 : decode cX7_areDays 30 = .ok (.ireturn, 1) := by decide +kernel
theorem dX7_less_0 : decode cX7_less 0 = .ok (.iload_n 0, 1) := by decide +kernel
theorem dX7_less_1 : decode cX7_less 1 = .ok (.iload_n 1, 1) := by decide +kernel
theorem dX7_less_2 : decode cX7_less 2 = .ok (.if_icmp .le 9, 3) := by decide +kernel
theorem dX7_less_5 : decode cX7_less 5 = .ok (.iload_n 0, 1) := by decide +kernel
theorem dX7_less_6 : decode cX7_less 6 = .ok (.iload_n 1, 1) := by decide +kernel
theorem dX7_less_7 : decode cX7_less 7 = .ok (.isub, 1) := by decide +kernel
theorem dX7_less_8 : decode cX7_less 8 = .ok (.goto 4, 3) := by decide +kernel
theorem dX7_less_11 : decode cX7_less 11 = .ok (.iconst 0, 1) := by decide +kernel
theorem dX7_less_12 : decode cX7_less 12 = .ok (.ireturn, 1) := by decide +kernel
theorem dX7_thawOf_0 : decode cX7_thawOf 0 = .ok (.iload_n 0, 1) := by decide +kernel
theorem dX7_thawOf_1 : decode cX7_thawOf 1 = .ok (.iconst 4, 1) := by decide +kernel
theorem dX7_thawOf_2 : decode cX7_thawOf 2 = .ok (.if_icmp .ne 11, 3) := by decide +kernel
theorem dX7_thawOf_5 : decode cX7_thawOf 5 = .ok (.iload_n 1, 1) := by decide +kernel
theorem dX7_thawOf_6 : decode cX7_thawOf 6 = .ok (.iconst 1, 1) := by decide +kernel
theorem dX7_thawOf_7 : decode cX7_thawOf 7 = .ok (.iadd, 1) := by decide +kernel
theorem dX7_thawOf_8 : decode cX7_thawOf 8 = .ok (.iconst 2, 1) := by decide +kernel
theorem dX7_thawOf_9 : decode cX7_thawOf 9 = .ok (.idiv, 1) := by decide +kernel
theorem dX7_thawOf_10 : decode cX7_thawOf 10 = .ok (.goto 4, 3) := by decide +kernel
theorem dX7_thawOf_13 : decode cX7_thawOf 13 = .ok (.iload_n 1, 1) := by decide +kernel
theorem dX7_thawOf_14 : decode cX7_thawOf 14 = .ok (.ireturn, 1) := by decide +kernel
theorem dX7_thaw_0 : decode cX7_thaw 0 = .ok (.iconst 0, 1) := by decide +kernel
theorem dX7_thaw_1 : decode cX7_thaw 1 = .ok (.istore_n 2, 1) := by decide +kernel
theorem dX7_thaw_2 : decode cX7_thaw 2 = .ok (.iload_n 2, 1) := by decide +kernel
theorem dX7_thaw_3 : decode cX7_thaw 3 = .ok (.bipush 16, 2) := by decide +kernel
theorem dX7_thaw_5 : decode cX7_thaw 5 = .ok (.if_icmp .ge 32, 3) := by decide +kernel
theorem dX7_thaw_8 : decode cX7_thaw 8 = .ok (.aload_n 0, 1) := by decide +kernel
theorem dX7_thaw_9 : decode cX7_thaw 9 = .ok (.getfield 13, 3) := by decide +kernel
theorem dX7_thaw_12 : decode cX7_thaw 12 = .ok (.iload_n 2, 1) := by decide +kernel
theorem dX7_thaw_13 : decode cX7_thaw 13 = .ok (.iconst 0, 1) := by decide +kernel
theorem dX7_thaw_14 : decode cX7_thaw 14 = .ok (.iastore, 1) := by decide +kernel
theorem dX7_thaw_15 : decode cX7_thaw 15 = .ok (.aload_n 0, 1) := by decide +kernel
theorem dX7_thaw_16 : decode cX7_thaw 16 = .ok (.getfield 7, 3) := by decide +kernel
theorem dX7_thaw_19 : decode cX7_thaw 19 = .ok (.iload_n 2, 1) := by decide +kernel
theorem dX7_thaw_20 : decode cX7_thaw 20 = .ok (.aload_n 0, 1) := by decide +kernel
theorem dX7_thaw_21 : decode cX7_thaw 21 = .ok (.getfield 7, 3) := by decide +kernel
theorem dX7_thaw_24 : decode cX7_thaw 24 = .ok (.iload_n 2, 1) := by decide +kernel
theorem dX7_thaw_25 : decode cX7_thaw 25 = .ok (.iaload, 1) := by decide +kernel
theorem dX7_thaw_26 : decode cX7_thaw 26 = .ok (.iload_n 1, 1) := by decide +kernel
theorem dX7_thaw_27 : decode cX7_thaw 27 = .ok (.invokestatic 160, 3) := by decide +kernel
theorem dX7_thaw_30 : decode cX7_thaw 30 = .ok (.iastore, 1) := by decide +kernel
theorem dX7_thaw_31 : decode cX7_thaw 31 = .ok (.iinc 2 1, 3) := by decide +kernel
theorem dX7_thaw_34 : decode cX7_thaw 34 = .ok (.goto (-32), 3) := by decide +kernel
theorem dX7_thaw_37 : decode cX7_thaw 37 = .ok (.iconst 0, 1) := by decide +kernel
theorem dX7_thaw_38 : decode cX7_thaw 38 = .ok (.istore_n 2, 1) := by decide +kernel
theorem dX7_thaw_39 : decode cX7_thaw 39 = .ok (.iload_n 2, 1) := by decide +kernel
theorem dX7_thaw_40 : decode cX7_thaw 40 = .ok (.aload_n 0, 1) := by decide +kernel
theorem dX7_thaw_41 : decode cX7_thaw 41 = .ok (.getfield 79, 3) := by decide +kernel
theorem dX7_thaw_44 : decode cX7_thaw 44 = .ok (.if_icmp .ge 98, 3) := by decide +kernel
theorem dX7_thaw_47 : decode cX7_thaw 47 = .ok (.aload_n 0, 1) := by decide +kernel
theorem dX7_thaw_48 : decode cX7_thaw 48 = .ok (.iload_n 2, 1) := by decide +kernel
theorem dX7_thaw_49 : decode cX7_thaw 49 = .ok (.invokevirtual 94, 3) := by decide +kernel
theorem dX7_thaw_52 : decode cX7_thaw 52 = .ok (.ifCond .eq 84, 3) := by decide +kernel
theorem dX7_thaw_55 : decode cX7_thaw 55 = .ok (.aload_n 0, 1) := by decide +kernel
theorem dX7_thaw_56 : decode cX7_thaw 56 = .ok (.getfield 16, 3) := by decide +kernel
theorem dX7_thaw_59 : decode cX7_thaw 59 = .ok (.bipush 8, 2) := by decide +kernel
theorem dX7_thaw_61 : decode cX7_thaw 61 = .ok (.iload_n 2, 1) := by decide +kernel
theorem dX7_thaw_62 : decode cX7_thaw 62 = .ok (.imul, 1) := by decide +kernel
theorem dX7_thaw_63 : decode cX7_thaw 63 = .ok (.iconst 5, 1) := by decide +kernel
theorem dX7_thaw_64 : decode cX7_thaw 64 = .ok (.iadd, 1) := by decide +kernel
theorem dX7_thaw_65 : decode cX7_thaw 65 = .ok (.iaload, 1) := by decide +kernel
theorem dX7_thaw_66 : decode cX7_thaw 66 = .ok (.aload_n 0, 1) := by decide +kernel
theorem dX7_thaw_67 : decode cX7_thaw 67 = .ok (.getfield 16, 3) := by decide +kernel
theorem dX7_thaw_70 : decode cX7_thaw 70 = .ok (.bipush 8, 2) := by decide +kernel
theorem dX7_thaw_72 : decode cX7_thaw 72 = .ok (.iload_n 2, 1) := by decide +kernel
theorem dX7_thaw_73 : decode cX7_thaw 73 = .ok (.imul, 1) := by decide +kernel
theorem dX7_thaw_74 : decode cX7_thaw 74 = .ok (.iaload, 1) := by decide +kernel
theorem dX7_thaw_75 : decode cX7_thaw 75 = .ok (.iload_n 1, 1) := by decide +kernel
theorem dX7_thaw_76 : decode cX7_thaw 76 = .ok (.invokestatic 163, 3) := by decide +kernel
theorem dX7_thaw_79 : decode cX7_thaw 79 = .ok (.invokestatic 160, 3) := by decide +kernel
theorem dX7_thaw_82 : decode cX7_thaw 82 = .ok (.istore_n 3, 1) := by decide +kernel
theorem dX7_thaw_83 : decode cX7_thaw 83 = .ok (.aload_n 0, 1) := by decide +kernel
theorem dX7_thaw_84 : decode cX7_thaw 84 = .ok (.getfield 16, 3) := by decide +kernel
theorem dX7_thaw_87 : decode cX7_thaw 87 = .ok (.bipush 8, 2) := by decide +kernel
theorem dX7_thaw_89 : decode cX7_thaw 89 = .ok (.iload_n 2, 1) := by decide +kernel
theorem dX7_thaw_90 : decode cX7_thaw 90 = .ok (.imul, 1) := by decide +kernel
theorem dX7_thaw_91 : decode cX7_thaw 91 = .ok (.iconst 5, 1) := by decide +kernel
theorem dX7_thaw_92 : decode cX7_thaw 92 = .ok (.iadd, 1) := by decide +kernel
theorem dX7_thaw_93 : decode cX7_thaw 93 = .ok (.iload_n 3, 1) := by decide +kernel
theorem dX7_thaw_94 : decode cX7_thaw 94 = .ok (.iastore, 1) := by decide +kernel
theorem dX7_thaw_95 : decode cX7_thaw 95 = .ok (.iload_n 3, 1) := by decide +kernel
theorem dX7_thaw_96 : decode cX7_thaw 96 = .ok (.ifCond .eq 35, 3) := by decide +kernel
theorem dX7_thaw_99 : decode cX7_thaw 99 = .ok (.aload_n 0, 1) := by decide +kernel
theorem dX7_thaw_100 : decode cX7_thaw 100 = .ok (.getfield 7, 3) := by decide +kernel
theorem dX7_thaw_103 : decode cX7_thaw 103 = .ok (.aload_n 0, 1) := by decide +kernel
theorem dX7_thaw_104 : decode cX7_thaw 104 = .ok (.getfield 16, 3) := by decide +kernel
theorem dX7_thaw_107 : decode cX7_thaw 107 = .ok (.bipush 8, 2) := by decide +kernel
theorem dX7_thaw_109 : decode cX7_thaw 109 = .ok (.iload_n 2, 1) := by decide +kernel
theorem dX7_thaw_110 : decode cX7_thaw 110 = .ok (.imul, 1) := by decide +kernel
theorem dX7_thaw_111 : decode cX7_thaw 111 = .ok (.iconst 1, 1) := by decide +kernel
theorem dX7_thaw_112 : decode cX7_thaw 112 = .ok (.iadd, 1) := by decide +kernel
theorem dX7_thaw_113 : decode cX7_thaw 113 = .ok (.iaload, 1) := by decide +kernel
theorem dX7_thaw_114 : decode cX7_thaw 114 = .ok (.iaload, 1) := by decide +kernel
theorem dX7_thaw_115 : decode cX7_thaw 115 = .ok (.ifCond .eq 16, 3) := by decide +kernel
theorem dX7_thaw_118 : decode cX7_thaw 118 = .ok (.aload_n 0, 1) := by decide +kernel
theorem dX7_thaw_119 : decode cX7_thaw 119 = .ok (.getfield 16, 3) := by decide +kernel
theorem dX7_thaw_122 : decode cX7_thaw 122 = .ok (.bipush 8, 2) := by decide +kernel
theorem dX7_thaw_124 : decode cX7_thaw 124 = .ok (.iload_n 2, 1) := by decide +kernel
theorem dX7_thaw_125 : decode cX7_thaw 125 = .ok (.imul, 1) := by decide +kernel
theorem dX7_thaw_126 : decode cX7_thaw 126 = .ok (.iaload, 1) := by decide +kernel
theorem dX7_thaw_127 : decode cX7_thaw 127 = .ok (.iconst 3, 1) := by decide +kernel
theorem dX7_thaw_128 : decode cX7_thaw 128 = .ok (.if_icmp .ne 8, 3) := by decide +kernel
theorem dX7_thaw_131 : decode cX7_thaw 131 = .ok (.aload_n 0, 1) := by decide +kernel
theorem dX7_thaw_132 : decode cX7_thaw 132 = .ok (.iload_n 2, 1) := by decide +kernel
theorem dX7_thaw_133 : decode cX7_thaw 133 = .ok (.invokevirtual 114, 3) := by decide +kernel
theorem dX7_thaw_136 : decode cX7_thaw 136 = .ok (.iinc 2 1, 3) := by decide +kernel
theorem dX7_thaw_139 : decode cX7_thaw 139 = .ok (.goto (-100), 3) := by decide +kernel
theorem dX7_thaw_142 : decode cX7_thaw 142 = .ok (.return_, 1) := by decide +kernel
theorem dX7_day_0 : decode cX7_day 0 = .ok (.iload_n 1, 1) := by decide +kernel
theorem dX7_day_1 : decode cX7_day 1 = .ok (.iconst 1, 1) := by decide +kernel
theorem dX7_day_2 : decode cX7_day 2 = .ok (.if_icmp .ne 8, 3) := by decide +kernel
theorem dX7_day_5 : decode cX7_day 5 = .ok (.aload_n 0, 1) := by decide +kernel
theorem dX7_day_6 : decode cX7_day 6 = .ok (.iload_n 2, 1) := by decide +kernel
theorem dX7_day_7 : decode cX7_day 7 = .ok (.invokevirtual 166, 3) := by decide +kernel
theorem dX7_day_10 : decode cX7_day 10 = .ok (.iconst 0, 1) := by decide +kernel
theorem dX7_day_11 : decode cX7_day 11 = .ok (.istore_n 3, 1) := by decide +kernel
theorem dX7_day_12 : decode cX7_day 12 = .ok (.iload_n 3, 1) := by decide +kernel
theorem dX7_day_13 : decode cX7_day 13 = .ok (.bipush 16, 2) := by decide +kernel
theorem dX7_day_15 : decode cX7_day 15 = .ok (.if_icmp .ge 102, 3) := by decide +kernel
theorem dX7_day_18 : decode cX7_day 18 = .ok (.aload_n 0, 1) := by decide +kernel
theorem dX7_day_19 : decode cX7_day 19 = .ok (.getfield 7, 3) := by decide +kernel
theorem dX7_day_22 : decode cX7_day 22 = .ok (.iload_n 3, 1) := by decide +kernel
theorem dX7_day_23 : decode cX7_day 23 = .ok (.iload_n 1, 1) := by decide +kernel
theorem dX7_day_24 : decode cX7_day 24 = .ok (.ifCond .ne 32, 3) := by decide +kernel
theorem dX7_day_27 : decode cX7_day 27 = .ok (.aload_n 0, 1) := by decide +kernel
theorem dX7_day_28 : decode cX7_day 28 = .ok (.getfield 7, 3) := by decide +kernel
theorem dX7_day_31 : decode cX7_day 31 = .ok (.iload_n 3, 1) := by decide +kernel
theorem dX7_day_32 : decode cX7_day 32 = .ok (.iaload, 1) := by decide +kernel
theorem dX7_day_33 : decode cX7_day 33 = .ok (.iload_n 2, 1) := by decide +kernel
theorem dX7_day_34 : decode cX7_day 34 = .ok (.iadd, 1) := by decide +kernel
theorem dX7_day_35 : decode cX7_day 35 = .ok (.bipush 99, 2) := by decide +kernel
theorem dX7_day_37 : decode cX7_day 37 = .ok (.if_icmp .le 8, 3) := by decide +kernel
theorem dX7_day_40 : decode cX7_day 40 = .ok (.bipush 99, 2) := by decide +kernel
theorem dX7_day_42 : decode cX7_day 42 = .ok (.goto 20, 3) := by decide +kernel
theorem dX7_day_45 : decode cX7_day 45 = .ok (.aload_n 0, 1) := by decide +kernel
theorem dX7_day_46 : decode cX7_day 46 = .ok (.getfield 7, 3) := by decide +kernel
theorem dX7_day_49 : decode cX7_day 49 = .ok (.iload_n 3, 1) := by decide +kernel
theorem dX7_day_50 : decode cX7_day 50 = .ok (.iaload, 1) := by decide +kernel
theorem dX7_day_51 : decode cX7_day 51 = .ok (.iload_n 2, 1) := by decide +kernel
theorem dX7_day_52 : decode cX7_day 52 = .ok (.iadd, 1) := by decide +kernel
theorem dX7_day_53 : decode cX7_day 53 = .ok (.goto 9, 3) := by decide +kernel
theorem dX7_day_56 : decode cX7_day 56 = .ok (.aload_n 0, 1) := by decide +kernel
theorem dX7_day_57 : decode cX7_day 57 = .ok (.getfield 7, 3) := by decide +kernel
theorem dX7_day_60 : decode cX7_day 60 = .ok (.iload_n 3, 1) := by decide +kernel
theorem dX7_day_61 : decode cX7_day 61 = .ok (.iaload, 1) := by decide +kernel
theorem dX7_day_62 : decode cX7_day 62 = .ok (.iastore, 1) := by decide +kernel
theorem dX7_day_63 : decode cX7_day 63 = .ok (.aload_n 0, 1) := by decide +kernel
theorem dX7_day_64 : decode cX7_day 64 = .ok (.getfield 13, 3) := by decide +kernel
theorem dX7_day_67 : decode cX7_day 67 = .ok (.iload_n 3, 1) := by decide +kernel
theorem dX7_day_68 : decode cX7_day 68 = .ok (.iload_n 1, 1) := by decide +kernel
theorem dX7_day_69 : decode cX7_day 69 = .ok (.iconst 3, 1) := by decide +kernel
theorem dX7_day_70 : decode cX7_day 70 = .ok (.if_icmp .ne 7, 3) := by decide +kernel
theorem dX7_day_73 : decode cX7_day 73 = .ok (.iconst 0, 1) := by decide +kernel
theorem dX7_day_74 : decode cX7_day 74 = .ok (.goto 36, 3) := by decide +kernel
theorem dX7_day_77 : decode cX7_day 77 = .ok (.iload_n 1, 1) := by decide +kernel
theorem dX7_day_78 : decode cX7_day 78 = .ok (.iconst 2, 1) := by decide +kernel
theorem dX7_day_79 : decode cX7_day 79 = .ok (.if_icmp .ne 25, 3) := by decide +kernel
theorem dX7_day_82 : decode cX7_day 82 = .ok (.aload_n 0, 1) := by decide +kernel
theorem dX7_day_83 : decode cX7_day 83 = .ok (.getfield 13, 3) := by decide +kernel
theorem dX7_day_86 : decode cX7_day 86 = .ok (.iload_n 3, 1) := by decide +kernel
theorem dX7_day_87 : decode cX7_day 87 = .ok (.iaload, 1) := by decide +kernel
theorem dX7_day_88 : decode cX7_day 88 = .ok (.bipush 9, 2) := by decide +kernel
theorem dX7_day_90 : decode cX7_day 90 = .ok (.if_icmp .ge 14, 3) := by decide +kernel
theorem dX7_day_93 : decode cX7_day 93 = .ok (.aload_n 0, 1) := by decide +kernel
theorem dX7_day_94 : decode cX7_day 94 = .ok (.getfield 13, 3) := by decide +kernel
theorem dX7_day_97 : decode cX7_day 97 = .ok (.iload_n 3, 1) := by decide +kernel
theorem dX7_day_98 : decode cX7_day 98 = .ok (.iaload, 1) := by decide +kernel
theorem dX7_day_99 : decode cX7_day 99 = .ok (.iconst 1, 1) := by decide +kernel
theorem dX7_day_100 : decode cX7_day 100 = .ok (.iadd, 1) := by decide +kernel
theorem dX7_day_101 : decode cX7_day 101 = .ok (.goto 9, 3) := by decide +kernel
theorem dX7_day_104 : decode cX7_day 104 = .ok (.aload_n 0, 1) := by decide +kernel
theorem dX7_day_105 : decode cX7_day 105 = .ok (.getfield 13, 3) := by decide +kernel
theorem dX7_day_108 : decode cX7_day 108 = .ok (.iload_n 3, 1) := by decide +kernel
theorem dX7_day_109 : decode cX7_day 109 = .ok (.iaload, 1) := by decide +kernel
theorem dX7_day_110 : decode cX7_day 110 = .ok (.iastore, 1) := by decide +kernel
theorem dX7_day_111 : decode cX7_day 111 = .ok (.iinc 3 1, 3) := by decide +kernel
theorem dX7_day_114 : decode cX7_day 114 = .ok (.goto (-102), 3) := by decide +kernel
theorem dX7_day_117 : decode cX7_day 117 = .ok (.return_, 1) := by decide +kernel
theorem dX7_thereMany_0 : decode cX7_thereMany 0 = .ok (.iconst 0, 1) := by decide +kernel
theorem dX7_thereMany_1 : decode cX7_thereMany 1 = .ok (.istore_n 1, 1) := by decide +kernel
theorem dX7_thereMany_2 : decode cX7_thereMany 2 = .ok (.iconst 0, 1) := by decide +kernel
theorem dX7_thereMany_3 : decode cX7_thereMany 3 = .ok (.istore_n 2, 1) := by decide +kernel
theorem dX7_thereMany_4 : decode cX7_thereMany 4 = .ok (.iload_n 2, 1) := by decide +kernel
theorem dX7_thereMany_5 : decode cX7_thereMany 5 = .ok (.aload_n 0, 1) := by decide +kernel
theorem dX7_thereMany_6 : decode cX7_thereMany 6 = .ok (.getfield 79, 3) := by decide +kernel
theorem dX7_thereMany_9 : decode cX7_thereMany 9 = .ok (.if_icmp .ge 32, 3) := by decide +kernel
theorem dX7_thereMany_12 : decode cX7_thereMany 12 = .ok (.iload_n 1, 1) := by decide +kernel
theorem dX7_thereMany_13 : decode cX7_thereMany 13 = .ok (.aload_n 0, 1) := by decide +kernel
theorem dX7_thereMany_14 : decode cX7_thereMany 14 = .ok (.getfield 16, 3) := by decide +kernel
theorem dX7_thereMany_17 : decode cX7_thereMany 17 = .ok (.bipush 8, 2) := by decide +kernel
theorem dX7_thereMany_19 : decode cX7_thereMany 19 = .ok (.iload_n 2, 1) := by decide +kernel
theorem dX7_thereMany_20 : decode cX7_thereMany 20 = .ok (.imul, 1) := by decide +kernel
theorem dX7_thereMany_21 : decode cX7_thereMany 21 = .ok (.bipush 6, 2) := by decide +kernel
theorem dX7_thereMany_23 : decode cX7_thereMany 23 = .ok (.iadd, 1) := by decide +kernel
theorem dX7_thereMany_24 : decode cX7_thereMany 24 = .ok (.iaload, 1) := by decide +kernel
theorem dX7_thereMany_25 : decode cX7_thereMany 25 = .ok (.ifCond .le 7, 3) := by decide +kernel
theorem dX7_thereMany_28 : decode cX7_thereMany 28 = .ok (.iconst 1, 1) := by decide +kernel
theorem dX7_thereMany_29 : decode cX7_thereMany 29 = .ok (.goto 4, 3) := by decide +kernel
theorem dX7_thereMany_32 : decode cX7_thereMany 32 = .ok (.iconst 0, 1) := by decide +kernel
theorem dX7_thereMany_33 : decode cX7_thereMany 33 = .ok (.iadd, 1) := by decide +kernel
theorem dX7_thereMany_34 : decode cX7_thereMany 34 = .ok (.istore_n 1, 1) := by decide +kernel
theorem dX7_thereMany_35 : decode cX7_thereMany 35 = .ok (.iinc 2 1, 3) := by decide +kernel
theorem dX7_thereMany_38 : decode cX7_thereMany 38 = .ok (.goto (-34), 3) := by decide +kernel
theorem dX7_thereMany_41 : decode cX7_thereMany 41 = .ok (.iload_n 1, 1) := by decide +kernel
theorem dX7_thereMany_42 : decode cX7_thereMany 42 = .ok (.ireturn, 1) := by decide +kernel
theorem dX7_days_0 : decode cX7_days 0 = .ok (.aload_n 0, 1) := by decide +kernel
theorem dX7_days_1 : decode cX7_days 1 = .ok (.invokevirtual 169, 3) := by decide +kernel
theorem dX7_days_4 : decode cX7_days 4 = .ok (.ifCond .ne 6, 3) := by decide +kernel
theorem dX7_days_7 : decode cX7_days 7 = .ok (.bipush (-103), 2) := by decide +kernel
theorem dX7_days_9 : decode cX7_days 9 = .ok (.ireturn, 1) := by decide +kernel
theorem dX7_days_10 : decode cX7_days 10 = .ok (.aload_n 0, 1) := by decide +kernel
theorem dX7_days_11 : decode cX7_days 11 = .ok (.invokevirtual 173, 3) := by decide +kernel
theorem dX7_days_14 : decode cX7_days 14 = .ok (.istore_n 1, 1) := by decide +kernel
theorem dX7_days_15 : decode cX7_days 15 = .ok (.iconst 0, 1) := by decide +kernel
theorem dX7_days_16 : decode cX7_days 16 = .ok (.istore_n 2, 1) := by decide +kernel
theorem dX7_days_17 : decode cX7_days 17 = .ok (.iload_n 2, 1) := by decide +kernel
theorem dX7_days_18 : decode cX7_days 18 = .ok (.aload_n 0, 1) := by decide +kernel
theorem dX7_days_19 : decode cX7_days 19 = .ok (.getfield 144, 3) := by decide +kernel
theorem dX7_days_22 : decode cX7_days 22 = .ok (.if_icmp .ge 25, 3) := by decide +kernel
theorem dX7_days_25 : decode cX7_days 25 = .ok (.aload_n 0, 1) := by decide +kernel
theorem dX7_days_26 : decode cX7_days 26 = .ok (.aload_n 0, 1) := by decide +kernel
theorem dX7_days_27 : decode cX7_days 27 = .ok (.getfield 22, 3) := by decide +kernel
theorem dX7_days_30 : decode cX7_days 30 = .ok (.iload_n 2, 1) := by decide +kernel
theorem dX7_days_31 : decode cX7_days 31 = .ok (.iaload, 1) := by decide +kernel
theorem dX7_days_32 : decode cX7_days 32 = .ok (.aload_n 0, 1) := by decide +kernel
theorem dX7_days_33 : decode cX7_days 33 = .ok (.getfield 25, 3) := by decide +kernel
theorem dX7_days_36 : decode cX7_days 36 = .ok (.iload_n 2, 1) := by decide +kernel
theorem dX7_days_37 : decode cX7_days 37 = .ok (.iaload, 1) := by decide +kernel
theorem dX7_days_38 : decode cX7_days 38 = .ok (.invokevirtual 176, 3) := by decide +kernel
theorem dX7_days_41 : decode cX7_days 41 = .ok (.iinc 2 1, 3) := by decide +kernel
theorem dX7_days_44 : decode cX7_days 44 = .ok (.goto (-27), 3) := by decide +kernel
theorem dX7_days_47 : decode cX7_days 47 = .ok (.aload_n 0, 1) := by decide +kernel
theorem dX7_days_48 : decode cX7_days 48 = .ok (.dup, 1) := by decide +kernel
