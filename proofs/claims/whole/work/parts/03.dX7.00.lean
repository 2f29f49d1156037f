theorem dX7_init_0 : decode cX7_init 0 = .ok (.aload_n 0, 1) := by decide +kernel
theorem dX7_init_1 : decode cX7_init 1 = .ok (.invokespecial 1, 3) := by decide +kernel
theorem dX7_init_4 : decode cX7_init 4 = .ok (.aload_n 0, 1) := by decide +kernel
theorem dX7_init_5 : decode cX7_init 5 = .ok (.bipush 16, 2) := by decide +kernel
theorem dX7_init_7 : decode cX7_init 7 = .ok (.newarray .int, 2) := by decide +kernel
theorem dX7_init_9 : decode cX7_init 9 = .ok (.putfield 7, 3) := by decide +kernel
theorem dX7_init_12 : decode cX7_init 12 = .ok (.aload_n 0, 1) := by decide +kernel
theorem dX7_init_13 : decode cX7_init 13 = .ok (.bipush 16, 2) := by decide +kernel
theorem dX7_init_15 : decode cX7_init 15 = .ok (.newarray .int, 2) := by decide +kernel
theorem dX7_init_17 : decode cX7_init 17 = .ok (.putfield 13, 3) := by decide +kernel
theorem dX7_init_20 : decode cX7_init 20 = .ok (.aload_n 0, 1) := by decide +kernel
theorem dX7_init_21 : decode cX7_init 21 = .ok (.bipush 80, 2) := by decide +kernel
theorem dX7_init_23 : decode cX7_init 23 = .ok (.newarray .int, 2) := by decide +kernel
theorem dX7_init_25 : decode cX7_init 25 = .ok (.putfield 16, 3) := by decide +kernel
theorem dX7_init_28 : decode cX7_init 28 = .ok (.aload_n 0, 1) := by decide +kernel
theorem dX7_init_29 : decode cX7_init 29 = .ok (.bipush 24, 2) := by decide +kernel
theorem dX7_init_31 : decode cX7_init 31 = .ok (.newarray .int, 2) := by decide +kernel
theorem dX7_init_33 : decode cX7_init 33 = .ok (.putfield 19, 3) := by decide +kernel
theorem dX7_init_36 : decode cX7_init 36 = .ok (.aload_n 0, 1) := by decide +kernel
theorem dX7_init_37 : decode cX7_init 37 = .ok (.bipush 12, 2) := by decide +kernel
theorem dX7_init_39 : decode cX7_init 39 = .ok (.newarray .int, 2) := by decide +kernel
theorem dX7_init_41 : decode cX7_init 41 = .ok (.putfield 22, 3) := by decide +kernel
theorem dX7_init_44 : decode cX7_init 44 = .ok (.aload_n 0, 1) := by decide +kernel
theorem dX7_init_45 : decode cX7_init 45 = .ok (.bipush 12, 2) := by decide +kernel
theorem dX7_init_47 : decode cX7_init 47 = .ok (.newarray .int, 2) := by decide +kernel
theorem dX7_init_49 : decode cX7_init 49 = .ok (.putfield 25, 3) := by decide +kernel
theorem dX7_init_52 : decode cX7_init 52 = .ok (.aload_n 0, 1) := by decide +kernel
theorem dX7_init_53 : decode cX7_init 53 = .ok (.sipush 1024, 3) := by decide +kernel
theorem dX7_init_56 : decode cX7_init 56 = .ok (.newarray .int, 2) := by decide +kernel
theorem dX7_init_58 : decode cX7_init 58 = .ok (.putfield 28, 3) := by decide +kernel
theorem dX7_init_61 : decode cX7_init 61 = .ok (.aload_n 0, 1) := by decide +kernel
theorem dX7_init_62 : decode cX7_init 62 = .ok (.bipush 64, 2) := by decide +kernel
theorem dX7_init_64 : decode cX7_init 64 = .ok (.newarray .int, 2) := by decide +kernel
theorem dX7_init_66 : decode cX7_init 66 = .ok (.putfield 31, 3) := by decide +kernel
theorem dX7_init_69 : decode cX7_init 69 = .ok (.aload_n 0, 1) := by decide +kernel
theorem dX7_init_70 : decode cX7_init 70 = .ok (.bipush 6, 2) := by decide +kernel
theorem dX7_init_72 : decode cX7_init 72 = .ok (.newarray .int, 2) := by decide +kernel
theorem dX7_init_74 : decode cX7_init 74 = .ok (.putfield 34, 3) := by decide +kernel
theorem dX7_init_77 : decode cX7_init 77 = .ok (.aload_n 0, 1) := by decide +kernel
theorem dX7_init_78 : decode cX7_init 78 = .ok (.bipush 16, 2) := by decide +kernel
theorem dX7_init_80 : decode cX7_init 80 = .ok (.newarray .int, 2) := by decide +kernel
theorem dX7_init_82 : decode cX7_init 82 = .ok (.putfield 37, 3) := by decide +kernel
theorem dX7_init_85 : decode cX7_init 85 = .ok (.aload_n 0, 1) := by decide +kernel
theorem dX7_init_86 : decode cX7_init 86 = .ok (.bipush 16, 2) := by decide +kernel
theorem dX7_init_88 : decode cX7_init 88 = .ok (.newarray .int, 2) := by decide +kernel
theorem dX7_init_90 : decode cX7_init 90 = .ok (.putfield 40, 3) := by decide +kernel
theorem dX7_init_93 : decode cX7_init 93 = .ok (.aload_n 0, 1) := by decide +kernel
theorem dX7_init_94 : decode cX7_init 94 = .ok (.bipush 16, 2) := by decide +kernel
theorem dX7_init_96 : decode cX7_init 96 = .ok (.newarray .int, 2) := by decide +kernel
theorem dX7_init_98 : decode cX7_init 98 = .ok (.putfield 43, 3) := by decide +kernel
theorem dX7_init_101 : decode cX7_init 101 = .ok (.aload_n 0, 1) := by decide +kernel
theorem dX7_init_102 : decode cX7_init 102 = .ok (.bipush 16, 2) := by decide +kernel
theorem dX7_init_104 : decode cX7_init 104 = .ok (.newarray .int, 2) := by decide +kernel
theorem dX7_init_106 : decode cX7_init 106 = .ok (.putfield 46, 3) := by decide +kernel
theorem dX7_init_109 : decode cX7_init 109 = .ok (.aload_n 0, 1) := by decide +kernel
theorem dX7_init_110 : decode cX7_init 110 = .ok (.bipush 80, 2) := by decide +kernel
theorem dX7_init_112 : decode cX7_init 112 = .ok (.newarray .int, 2) := by decide +kernel
theorem dX7_init_114 : decode cX7_init 114 = .ok (.putfield 49, 3) := by decide +kernel
theorem dX7_init_117 : decode cX7_init 117 = .ok (.aload_n 0, 1) := by decide +kernel
theorem dX7_init_118 : decode cX7_init 118 = .ok (.bipush 16, 2) := by decide +kernel
theorem dX7_init_120 : decode cX7_init 120 = .ok (.newarray .int, 2) := by decide +kernel
theorem dX7_init_122 : decode cX7_init 122 = .ok (.putfield 52, 3) := by decide +kernel
theorem dX7_init_125 : decode cX7_init 125 = .ok (.aload_n 0, 1) := by decide +kernel
theorem dX7_init_126 : decode cX7_init 126 = .ok (.bipush 16, 2) := by decide +kernel
theorem dX7_init_128 : decode cX7_init 128 = .ok (.newarray .int, 2) := by decide +kernel
theorem dX7_init_130 : decode cX7_init 130 = .ok (.putfield 55, 3) := by decide +kernel
theorem dX7_init_133 : decode cX7_init 133 = .ok (.aload_n 0, 1) := by decide +kernel
theorem dX7_init_134 : decode cX7_init 134 = .ok (.bipush 80, 2) := by decide +kernel
theorem dX7_init_136 : decode cX7_init 136 = .ok (.newarray .int, 2) := by decide +kernel
theorem dX7_init_138 : decode cX7_init 138 = .ok (.putfield 58, 3) := by decide +kernel
theorem dX7_init_141 : decode cX7_init 141 = .ok (.aload_n 0, 1) := by decide +kernel
theorem dX7_init_142 : decode cX7_init 142 = .ok (.iconst (-1), 1) := by decide +kernel
theorem dX7_init_143 : decode cX7_init 143 = .ok (.putfield 61, 3) := by decide +kernel
theorem dX7_init_146 : decode cX7_init 146 = .ok (.aload_n 0, 1) := by decide +kernel
theorem dX7_init_147 : decode cX7_init 147 = .ok (.iconst 3, 1) := by decide +kernel
theorem dX7_init_148 : decode cX7_init 148 = .ok (.putfield 65, 3) := by decide +kernel
theorem dX7_init_151 : decode cX7_init 151 = .ok (.aload_n 0, 1) := by decide +kernel
theorem dX7_init_152 : decode cX7_init 152 = .ok (.iconst 3, 1) := by decide +kernel
theorem dX7_init_153 : decode cX7_init 153 = .ok (.putfield 68, 3) := by decide +kernel
theorem dX7_init_156 : decode cX7_init 156 = .ok (.iconst 0, 1) := by decide +kernel
theorem dX7_init_157 : decode cX7_init 157 = .ok (.istore_n 1, 1) := by decide +kernel
theorem dX7_init_158 : decode cX7_init 158 = .ok (.iload_n 1, 1) := by decide +kernel
theorem dX7_init_159 : decode cX7_init 159 = .ok (.bipush 16, 2) := by decide +kernel
theorem dX7_init_161 : decode cX7_init 161 = .ok (.if_icmp .ge 17, 3) := by decide +kernel
theorem dX7_init_164 : decode cX7_init 164 = .ok (.aload_n 0, 1) := by decide +kernel
theorem dX7_init_165 : decode cX7_init 165 = .ok (.getfield 7, 3) := by decide +kernel
theorem dX7_init_168 : decode cX7_init 168 = .ok (.iload_n 1, 1) := by decide +kernel
theorem dX7_init_169 : decode cX7_init 169 = .ok (.bipush 10, 2) := by decide +kernel
theorem dX7_init_171 : decode cX7_init 171 = .ok (.iastore, 1) := by decide +kernel
theorem dX7_init_172 : decode cX7_init 172 = .ok (.iinc 1 1, 3) := by decide +kernel
theorem dX7_init_175 : decode cX7_init 175 = .ok (.goto (-17), 3) := by decide +kernel
theorem dX7_init_178 : decode cX7_init 178 = .ok (.return_, 1) := by decide +kernel
theorem dX7_in_0 : decode cX7_in 0 = .ok (.lload_n 0, 1) := by decide +kernel
theorem dX7_in_1 : decode cX7_in 1 = .ok (.lload_n 2, 1) := by decide +kernel
theorem dX7_in_2 : decode cX7_in 2 = .ok (.lcmp, 1) := by decide +kernel
theorem dX7_in_3 : decode cX7_in 3 = .ok (.ifCond .lt 14, 3) := by decide +kernel
theorem dX7_in_6 : decode cX7_in 6 = .ok (.lload_n 0, 1) := by decide +kernel
theorem dX7_in_7 : decode cX7_in 7 = .ok (.lload 4, 2) := by decide +kernel
theorem dX7_in_9 : decode cX7_in 9 = .ok (.lcmp, 1) := by decide +kernel
theorem dX7_in_10 : decode cX7_in 10 = .ok (.ifCond .gt 7, 3) := by decide +kernel
theorem dX7_in_13 : decode cX7_in 13 = .ok (.iconst 1, 1) := by decide +kernel
theorem dX7_in_14 : decode cX7_in 14 = .ok (.goto 4, 3) := by decide +kernel
theorem dX7_in_17 : decode cX7_in 17 = .ok (.iconst 0, 1) := by decide +kernel
theorem dX7_in_18 : decode cX7_in 18 = .ok (.ireturn, 1) := by decide +kernel
theorem dX7_squares_0 : decode cX7_squares 0 = .ok (.aload_n 0, 1) := by decide +kernel
theorem dX7_squares_1 : decode cX7_squares 1 = .ok (.getfield 65, 3) := by decide +kernel
theorem dX7_squares_4 : decode cX7_squares 4 = .ok (.aload_n 0, 1) := by decide +kernel
theorem dX7_squares_5 : decode cX7_squares 5 = .ok (.getfield 68, 3) := by decide +kernel
theorem dX7_squares_8 : decode cX7_squares 8 = .ok (.imul, 1) := by decide +kernel
theorem dX7_squares_9 : decode cX7_squares 9 = .ok (.ireturn, 1) := by decide +kernel
theorem dX7_isSquare_0 : decode cX7_isSquare 0 = .ok (.iload_n 1, 1) := by decide +kernel
theorem dX7_isSquare_1 : decode cX7_isSquare 1 = .ok (.i2l, 1) := by decide +kernel
theorem dX7_isSquare_2 : decode cX7_isSquare 2 = .ok (.lconst 0, 1) := by decide +kernel
theorem dX7_isSquare_3 : decode cX7_isSquare 3 = .ok (.aload_n 0, 1) := by decide +kernel
theorem dX7_isSquare_4 : decode cX7_isSquare 4 = .ok (.invokevirtual 71, 3) := by decide +kernel
theorem dX7_isSquare_7 : decode cX7_isSquare 7 = .ok (.iconst 1, 1) := by decide +kernel
theorem dX7_isSquare_8 : decode cX7_isSquare 8 = .ok (.isub, 1) := by decide +kernel
theorem dX7_isSquare_9 : decode cX7_isSquare 9 = .ok (.i2l, 1) := by decide +kernel
theorem dX7_isSquare_10 : decode cX7_isSquare 10 = .ok (.invokestatic 75, 3) := by decide +kernel
theorem dX7_isSquare_13 : decode cX7_isSquare 13 = .ok (.ireturn, 1) := by decide +kernel
theorem dX7_isDebt_0 : decode cX7_isDebt 0 = .ok (.iload_n 1, 1) := by decide +kernel
theorem dX7_isDebt_1 : decode cX7_isDebt 1 = .ok (.i2l, 1) := by decide +kernel
theorem dX7_isDebt_2 : decode cX7_isDebt 2 = .ok (.lconst 0, 1) := by decide +kernel
theorem dX7_isDebt_3 : decode cX7_isDebt 3 = .ok (.aload_n 0, 1) := by decide +kernel
theorem dX7_isDebt_4 : decode cX7_isDebt 4 = .ok (.getfield 79, 3) := by decide +kernel
theorem dX7_isDebt_7 : decode cX7_isDebt 7 = .ok (.iconst 1, 1) := by decide +kernel
theorem dX7_isDebt_8 : decode cX7_isDebt 8 = .ok (.isub, 1) := by decide +kernel
theorem dX7_isDebt_9 : decode cX7_isDebt 9 = .ok (.i2l, 1) := by decide +kernel
theorem dX7_isDebt_10 : decode cX7_isDebt 10 = .ok (.invokestatic 75, 3) := by decide +kernel
theorem dX7_isDebt_13 : decode cX7_isDebt 13 = .ok (.ireturn, 1) := by decide +kernel
theorem dX7_isPerson_0 : decode cX7_isPerson 0 = .ok (.iload_n 0, 1) := by decide +kernel
theorem dX7_isPerson_1 : decode cX7_isPerson 1 = .ok (.i2l, 1) := by decide +kernel
theorem dX7_isPerson_2 : decode cX7_isPerson 2 = .ok (.lconst 0, 1) := by decide +kernel
theorem dX7_isPerson_3 : decode cX7_isPerson 3 = .ok (.ldc2_w 82, 3) := by decide +kernel
theorem dX7_isPerson_6 : decode cX7_isPerson 6 = .ok (.invokestatic 75, 3) := by decide +kernel
theorem dX7_isPerson_9 : decode cX7_isPerson 9 = .ok (.ireturn, 1) := by decide +kernel
theorem dX7_lake_0 : decode cX7_lake 0 = .ok (.iload_n 1, 1) := by decide +kernel
theorem dX7_lake_1 : decode cX7_lake 1 = .ok (.i2l, 1) := by decide +kernel
theorem dX7_lake_2 : decode cX7_lake 2 = .ok (.ldc2_w 84, 3) := by decide +kernel
theorem dX7_lake_5 : decode cX7_lake 5 = .ok (.ldc2_w 86, 3) := by decide +kernel
theorem dX7_lake_8 : decode cX7_lake 8 = .ok (.invokestatic 75, 3) := by decide +kernel
theorem dX7_lake_11 : decode cX7_lake 11 = .ok (.ifCond .eq 17, 3) := by decide +kernel
theorem dX7_lake_14 : decode cX7_lake 14 = .ok (.iload_n 2, 1) := by decide +kernel
theorem dX7_lake_15 : decode cX7_lake 15 = .ok (.i2l, 1) := by decide +kernel
theorem dX7_lake_16 : decode cX7_lake 16 = .ok (.ldc2_w 84, 3) := by decide +kernel
theorem dX7_lake_19 : decode cX7_lake 19 = .ok (.ldc2_w 86, 3) := by decide +kernel
theorem dX7_lake_22 : decode cX7_lake 22 = .ok (.invokestatic 75, 3) := by decide +kernel
theorem dX7_lake_25 : decode cX7_lake 25 = .ok (.ifCond .ne 6, 3) := by decide +kernel
theorem dX7_lake_28 : decode cX7_lake 28 = .ok (.bipush (-102), 2) := by decide +kernel
theorem dX7_lake_30 : decode cX7_lake 30 = .ok (.ireturn, 1) := by decide +kernel
theorem dX7_lake_31 : decode cX7_lake 31 = .ok (.aload_n 0, 1) := by decide +kernel
theorem dX7_lake_32 : decode cX7_lake 32 = .ok (.iload_n 1, 1) := by decide +kernel
theorem dX7_lake_33 : decode cX7_lake 33 = .ok (.putfield 65, 3) := by decide +kernel
theorem dX7_lake_36 : decode cX7_lake 36 = .ok (.aload_n 0, 1) := by decide +kernel
theorem dX7_lake_37 : decode cX7_lake 37 = .ok (.iload_n 2, 1) := by decide +kernel
theorem dX7_lake_38 : decode cX7_lake 38 = .ok (.putfield 68, 3) := by decide +kernel
theorem dX7_lake_41 : decode cX7_lake 41 = .ok (.iconst 0, 1) := by decide +kernel
theorem dX7_lake_42 : decode cX7_lake 42 = .ok (.istore_n 3, 1) := by decide +kernel
theorem dX7_lake_43 : decode cX7_lake 43 = .ok (.iload_n 3, 1) := by decide +kernel
theorem dX7_lake_44 : decode cX7_lake 44 = .ok (.bipush 16, 2) := by decide +kernel
theorem dX7_lake_46 : decode cX7_lake 46 = .ok (.if_icmp .ge 24, 3) := by decide +kernel
theorem dX7_lake_49 : decode cX7_lake 49 = .ok (.aload_n 0, 1) := by decide +kernel
theorem dX7_lake_50 : decode cX7_lake 50 = .ok (.getfield 7, 3) := by decide +kernel
theorem dX7_lake_53 : decode cX7_lake 53 = .ok (.iload_n 3, 1) := by decide +kernel
theorem dX7_lake_54 : decode cX7_lake 54 = .ok (.bipush 10, 2) := by decide +kernel
theorem dX7_lake_56 : decode cX7_lake 56 = .ok (.iastore, 1) := by decide +kernel
theorem dX7_lake_57 : decode cX7_lake 57 = .ok (.aload_n 0, 1) := by decide +kernel
theorem dX7_lake_58 : decode cX7_lake 58 = .ok (.getfield 13, 3) := by decide +kernel
theorem dX7_lake_61 : decode cX7_lake 61 = .ok (.iload_n 3, 1) := by decide +kernel
theorem dX7_lake_62 : decode cX7_lake 62 = .ok (.iconst 0, 1) := by decide +kernel
theorem dX7_lake_63 : decode cX7_lake 63 = .ok (.iastore, 1) := by decide +kernel
theorem dX7_lake_64 : decode cX7_lake 64 = .ok (.iinc 3 1, 3) := by decide +kernel
theorem dX7_lake_67 : decode cX7_lake 67 = .ok (.goto (-24), 3) := by decide +kernel
theorem dX7_lake_70 : decode cX7_lake 70 = .ok (.aload_n 0, 1) := by decide +kernel
theorem dX7_lake_71 : decode cX7_lake 71 = .ok (.iconst 0, 1) := by decide +kernel
theorem dX7_lake_72 : decode cX7_lake 72 = .ok (.putfield 79, 3) := by decide +kernel
theorem dX7_lake_75 : decode cX7_lake 75 = .ok (.aload_n 0, 1) := by decide +kernel
theorem dX7_lake_76 : decode cX7_lake 76 = .ok (.iconst 0, 1) := by decide +kernel
theorem dX7_lake_77 : decode cX7_lake 77 = .ok (.putfield 88, 3) := by decide +kernel
theorem dX7_lake_80 : decode cX7_lake 80 = .ok (.aload_n 0, 1) := by decide +kernel
theorem dX7_lake_81 : decode cX7_lake 81 = .ok (.dup, 1) := by decide +kernel
theorem dX7_lake_82 : decode cX7_lake 82 = .ok (.getfield 91, 3) := by decide +kernel
theorem dX7_lake_85 : decode cX7_lake 85 = .ok (.iconst 1, 1) := by decide +kernel
theorem dX7_lake_86 : decode cX7_lake 86 = .ok (.iadd, 1) := by decide +kernel
theorem dX7_lake_87 : decode cX7_lake 87 = .ok (.putfield 91, 3) := by decide +kernel
theorem dX7_lake_90 : decode cX7_lake 90 = .ok (.aload_n 0, 1) := by decide +kernel
theorem dX7_lake_91 : decode cX7_lake 91 = .ok (.invokevirtual 71, 3) := by decide +kernel
theorem dX7_lake_94 : decode cX7_lake 94 = .ok (.ireturn, 1) := by decide +kernel
theorem dX7_isThere_0 : decode cX7_isThere 0 = .ok (.aload_n 0, 1) := by decide +kernel
theorem dX7_isThere_1 : decode cX7_isThere 1 = .ok (.getfield 16, 3) := by decide +kernel
theorem dX7_isThere_4 : decode cX7_isThere 4 = .ok (.bipush 8, 2) := by decide +kernel
theorem dX7_isThere_6 : decode cX7_isThere 6 = .ok (.iload_n 1, 1) := by decide +kernel
theorem dX7_isThere_7 : decode cX7_isThere 7 = .ok (.imul, 1) := by decide +kernel
theorem dX7_isThere_8 : decode cX7_isThere 8 = .ok (.bipush 6, 2) := by decide +kernel
theorem dX7_isThere_10 : decode cX7_isThere 10 = .ok (.iadd, 1) := by decide +kernel
theorem dX7_isThere_11 : decode cX7_isThere 11 = .ok (.iaload, 1) := by decide +kernel
theorem dX7_isThere_12 : decode cX7_isThere 12 = .ok (.iconst 1, 1) := by decide +kernel
theorem dX7_isThere_13 : decode cX7_isThere 13 = .ok (.if_icmp .ne 7, 3) := by decide +kernel
theorem dX7_isThere_16 : decode cX7_isThere 16 = .ok (.iconst 1, 1) := by decide +kernel
theorem dX7_isThere_17 : decode cX7_isThere 17 = .ok (.goto 4, 3) := by decide +kernel
theorem dX7_isThere_20 : decode cX7_isThere 20 = .ok (.iconst 0, 1) := by decide +kernel
theorem dX7_isThere_21 : decode cX7_isThere 21 = .ok (.ireturn, 1) := by decide +kernel
theorem dX7_thereIn_0 : decode cX7_thereIn 0 = .ok (.iconst 0, 1) := by decide +kernel
theorem dX7_thereIn_1 : decode cX7_thereIn 1 = .ok (.istore_n 2, 1) := by decide +kernel
theorem dX7_thereIn_2 : decode cX7_thereIn 2 = .ok (.iconst 0, 1) := by decide +kernel
theorem dX7_thereIn_3 : decode cX7_thereIn 3 = .ok (.istore_n 3, 1) := by decide +kernel
theorem dX7_thereIn_4 : decode cX7_thereIn 4 = .ok (.iload_n 3, 1) := by decide +kernel
theorem dX7_thereIn_5 : decode cX7_thereIn 5 = .ok (.aload_n 0, 1) := by decide +kernel
theorem dX7_thereIn_6 : decode cX7_thereIn 6 = .ok (.getfield 79, 3) := by decide +kernel
theorem dX7_thereIn_9 : decode cX7_thereIn 9 = .ok (.if_icmp .ge 40, 3) := by decide +kernel
theorem dX7_thereIn_12 : decode cX7_thereIn 12 = .ok (.iload_n 2, 1) := by decide +kernel
theorem dX7_thereIn_13 : decode cX7_thereIn 13 = .ok (.aload_n 0, 1) := by decide +kernel
theorem dX7_thereIn_14 : decode cX7_thereIn 14 = .ok (.iload_n 3, 1) := by decide +kernel
theorem dX7_thereIn_15 : decode cX7_thereIn 15 = .ok (.invokevirtual 94, 3) := by decide +kernel
theorem dX7_thereIn_18 : decode cX7_thereIn 18 = .ok (.ifCond .eq 22, 3) := by decide +kernel
theorem dX7_thereIn_21 : decode cX7_thereIn 21 = .ok (.aload_n 0, 1) := by decide +kernel
theorem dX7_thereIn_22 : decode cX7_thereIn 22 = .ok (.getfield 16, 3) := by decide +kernel
theorem dX7_thereIn_25 : decode cX7_thereIn 25 = .ok (.bipush 8, 2) := by decide +kernel
theorem dX7_thereIn_27 : decode cX7_thereIn 27 = .ok (.iload_n 3, 1) := by decide +kernel
theorem dX7_thereIn_28 : decode cX7_thereIn 28 = .ok (.imul, 1) := by decide +kernel
theorem dX7_thereIn_29 : decode cX7_thereIn 29 = .ok (.iconst 1, 1) := by decide +kernel
theorem dX7_thereIn_30 : decode cX7_thereIn 30 = .ok (.iadd, 1) := by decide +kernel
theorem dX7_thereIn_31 : decode cX7_thereIn 31 = .ok (.iaload, 1) := by decide +kernel
theorem dX7_thereIn_32 : decode cX7_thereIn 32 = .ok (.iload_n 1, 1) := by decide +kernel
theorem dX7_thereIn_33 : decode cX7_thereIn 33 = .ok (.if_icmp .ne 7, 3) := by decide +kernel
theorem dX7_thereIn_36 : decode cX7_thereIn 36 = .ok (.iconst 1, 1) := by decide +kernel
theorem dX7_thereIn_37 : decode cX7_thereIn 37 = .ok (.goto 4, 3) := by decide +kernel
theorem dX7_thereIn_40 : decode cX7_thereIn 40 = .ok (.iconst 0, 1) := by decide +kernel
theorem dX7_thereIn_41 : decode cX7_thereIn 41 = .ok (.iadd, 1) := by decide +kernel
theorem dX7_thereIn_42 : decode cX7_thereIn 42 = .ok (.istore_n 2, 1) := by decide +kernel
theorem dX7_thereIn_43 : decode cX7_thereIn 43 = .ok (.iinc 3 1, 3) := by decide +kernel
theorem dX7_thereIn_46 : decode cX7_thereIn 46 = .ok (.goto (-42), 3) := by decide +kernel
theorem dX7_thereIn_49 : decode cX7_thereIn 49 = .ok (.iload_n 2, 1) := by decide +kernel
theorem dX7_thereIn_50 : decode cX7_thereIn 50 = .ok (.ireturn, 1) := by decide +kernel
theorem dX7_ice_0 : decode cX7_ice 0 = .ok (.aload_n 0, 1) := by decide +kernel
theorem dX7_ice_1 : decode cX7_ice 1 = .ok (.iload_n 1, 1) := by decide +kernel
theorem dX7_ice_2 : decode cX7_ice 2 = .ok (.invokevirtual 98, 3) := by decide +kernel
theorem dX7_ice_5 : decode cX7_ice 5 = .ok (.ifCond .ne 6, 3) := by decide +kernel
theorem dX7_ice_8 : decode cX7_ice 8 = .ok (.bipush (-101), 2) := by decide +kernel
theorem dX7_ice_10 : decode cX7_ice 10 = .ok (.ireturn, 1) := by decide +kernel
theorem dX7_ice_11 : decode cX7_ice 11 = .ok (.iload_n 2, 1) := by decide +kernel
theorem dX7_ice_12 : decode cX7_ice 12 = .ok (.i2l, 1) := by decide +kernel
theorem dX7_ice_13 : decode cX7_ice 13 = .ok (.lconst 0, 1) := by decide +kernel
theorem dX7_ice_14 : decode cX7_ice 14 = .ok (.ldc2_w 101, 3) := by decide +kernel
theorem dX7_ice_17 : decode cX7_ice 17 = .ok (.invokestatic 75, 3) := by decide +kernel
theorem dX7_ice_20 : decode cX7_ice 20 = .ok (.ifCond .ne 6, 3) := by decide +kernel
theorem dX7_ice_23 : decode cX7_ice 23 = .ok (.bipush (-102), 2) := by decide +kernel
theorem dX7_ice_25 : decode cX7_ice 25 = .ok (.ireturn, 1) := by decide +kernel
theorem dX7_ice_26 : decode cX7_ice 26 = .ok (.aload_n 0, 1) := by decide +kernel
theorem dX7_ice_27 : decode cX7_ice 27 = .ok (.iload_n 1, 1) := by decide +kernel
theorem dX7_ice_28 : decode cX7_ice 28 = .ok (.invokevirtual 103, 3) := by decide +kernel
theorem dX7_ice_31 : decode cX7_ice 31 = .ok (.ifCond .le 6, 3) := by decide +kernel
theorem dX7_ice_34 : decode cX7_ice 34 = .ok (.bipush (-103), 2) := by decide +kernel
theorem dX7_ice_36 : decode cX7_ice 36 = .ok (.ireturn, 1) := by decide +kernel
theorem dX7_ice_37 : decode cX7_ice 37 = .ok (.aload_n 0, 1) := by decide +kernel
theorem dX7_ice_38 : decode cX7_ice 38 = .ok (.getfield 7, 3) := by decide +kernel
theorem dX7_ice_41 : decode cX7_ice 41 = .ok (.iload_n 1, 1) := by decide +kernel
theorem dX7_ice_42 : decode cX7_ice 42 = .ok (.iaload, 1) := by decide +kernel
theorem dX7_ice_43 : decode cX7_ice 43 = .ok (.istore_n 3, 1) := by decide +kernel
theorem dX7_ice_44 : decode cX7_ice 44 = .ok (.aload_n 0, 1) := by decide +kernel
theorem dX7_ice_45 : decode cX7_ice 45 = .ok (.getfield 7, 3) := by decide +kernel
theorem dX7_ice_48 : decode cX7_ice 48 = .ok (.iload_n 1, 1) := by decide +kernel
theorem dX7_ice_49 : decode cX7_ice 49 = .ok (.iload_n 2, 1) := by decide +kernel
theorem dX7_ice_50 : decode cX7_ice 50 = .ok (.iastore, 1) := by decide +kernel
theorem dX7_ice_51 : decode cX7_ice 51 = .ok (.iload_n 3, 1) := by decide +kernel
theorem dX7_ice_52 : decode cX7_ice 52 = .ok (.ireturn, 1) := by decide +kernel
theorem dX7_bearsOne_0 : decode cX7_bearsOne 0 = .ok (.aload_n 0, 1) := by decide +kernel
theorem dX7_bearsOne_1 : decode cX7_bearsOne 1 = .ok (.getfield 7, 3) := by decide +kernel
theorem dX7_bearsOne_4 : decode cX7_bearsOne 4 = .ok (.iload_n 1, 1) := by decide +kernel
theorem dX7_bearsOne_5 : decode cX7_bearsOne 5 = .ok (.iaload, 1) := by decide +kernel
theorem dX7_bearsOne_6 : decode cX7_bearsOne 6 = .ok (.iconst 3, 1) := by decide +kernel
theorem dX7_bearsOne_7 : decode cX7_bearsOne 7 = .ok (.if_icmp .le 7, 3) := by decide +kernel
theorem dX7_bearsOne_10 : decode cX7_bearsOne 10 = .ok (.iconst 1, 1) := by decide +kernel
theorem dX7_bearsOne_11 : decode cX7_bearsOne 11 = .ok (.goto 4, 3) := by decide +kernel
theorem dX7_bearsOne_14 : decode cX7_bearsOne 14 = .ok (.iconst 0, 1) := by decide +kernel
theorem dX7_bearsOne_15 : decode cX7_bearsOne 15 = .ok (.ireturn, 1) := by decide +kernel
theorem dX7_tellSquare_0 : decode cX7_tellSquare 0 = .ok (.iload_n 2, 1) := by decide +kernel
theorem dX7_tellSquare_1 : decode cX7_tellSquare 1 = .ok (.tableswitch 65 0 3 #[31, 38, 45, 51], 31) := by decide +kernel
theorem dX7_tellSquare_32 : decode cX7_tellSquare 32 = .ok (.aload_n 0, 1) := by decide +kernel
theorem dX7_tellSquare_33 : decode cX7_tellSquare 33 = .ok (.getfield 7, 3) := by decide +kernel
theorem dX7_tellSquare_36 : decode cX7_tellSquare 36 = .ok (.iload_n 1, 1) := by decide +kernel
theorem dX7_tellSquare_37 : decode cX7_tellSquare 37 = .ok (.iaload, 1) := by decide +kernel
theorem dX7_tellSquare_38 : decode cX7_tellSquare 38 = .ok (.ireturn, 1) := by decide +kernel
theorem dX7_tellSquare_39 : decode cX7_tellSquare 39 = .ok (.aload_n 0, 1) := by decide +kernel
theorem dX7_tellSquare_40 : decode cX7_tellSquare 40 = .ok (.getfield 13, 3) := by decide +kernel
theorem dX7_tellSquare_43 : decode cX7_tellSquare 43 = .ok (.iload_n 1, 1) := by decide +kernel
theorem dX7_tellSquare_44 : decode cX7_tellSquare 44 = .ok (.iaload, 1) := by decide +kernel
theorem dX7_tellSquare_45 : decode cX7_tellSquare 45 = .ok (.ireturn, 1) := by decide +kernel
theorem dX7_tellSquare_46 : decode cX7_tellSquare 46 = .ok (.aload_n 0, 1) := by decide +kernel
theorem dX7_tellSquare_47 : decode cX7_tellSquare 47 = .ok (.iload_n 1, 1) := by decide +kernel
theorem dX7_tellSquare_48 : decode cX7_tellSquare 48 = .ok (.invokevirtual 103, 3) := by decide +kernel
theorem dX7_tellSquare_51 : decode cX7_tellSquare 51 = .ok (.ireturn, 1) := by decide +kernel
theorem dX7_tellSquare_52 : decode cX7_tellSquare 52 = .ok (.aload_n 0, 1) := by decide +kernel
theorem dX7_tellSquare_53 : decode cX7_tellSquare 53 = .ok (.iload_n 1, 1) := by decide +kernel
theorem dX7_tellSquare_54 : decode cX7_tellSquare 54 = .ok (.invokevirtual 107, 3) := by decide +kernel
theorem dX7_tellSquare_57 : decode cX7_tellSquare 57 = .ok (.ifCond .eq 7, 3) := by decide +kernel
theorem dX7_tellSquare_60 : decode cX7_tellSquare 60 = .ok (.iconst 1, 1) := by decide +kernel
theorem dX7_tellSquare_61 : decode cX7_tellSquare 61 = .ok (.goto 4, 3) := by decide +kernel
theorem dX7_tellSquare_64 : decode cX7_tellSquare 64 = .ok (.iconst 0, 1) := by decide +kernel
theorem dX7_tellSquare_65 : decode cX7_tellSquare 65 = .ok (.ireturn, 1) := by decide +kernel
theorem dX7_tellSquare_66 : decode cX7_tellSquare 66 = .ok (.bipush (-102), 2) := by decide +kernel
theorem dX7_tellSquare_68 : decode cX7_tellSquare 68 = .ok (.ireturn, 1) := by decide +kernel
theorem dX7_square_0 : decode cX7_square 0 = .ok (.aload_n 0, 1) := by decide +kernel
theorem dX7_square_1 : decode cX7_square 1 = .ok (.iload_n 1, 1) := by decide +kernel
theorem dX7_square_2 : decode cX7_square 2 = .ok (.invokevirtual 98, 3) := by decide +kernel
theorem dX7_square_5 : decode cX7_square 5 = .ok (.ifCond .eq 12, 3) := by decide +kernel
theorem dX7_square_8 : decode cX7_square 8 = .ok (.aload_n 0, 1) := by decide +kernel
theorem dX7_square_9 : decode cX7_square 9 = .ok (.iload_n 1, 1) := by decide +kernel
theorem dX7_square_10 : decode cX7_square 10 = .ok (.iload_n 2, 1) := by decide +kernel
theorem dX7_square_11 : decode cX7_square 11 = .ok (.invokevirtual 110, 3) := by decide +kernel
theorem dX7_square_14 : decode cX7_square 14 = .ok (.goto 5, 3) := by decide +kernel
theorem dX7_square_17 : decode cX7_square 17 = .ok (.bipush (-101), 2) := by decide +kernel
theorem dX7_square_19 : decode cX7_square 19 = .ok (.ireturn, 1) := by decide +kernel
theorem dX7_lose_0 : decode cX7_lose 0 = .ok (.aload_n 0, 1) := by decide +kernel
theorem dX7_lose_1 : decode cX7_lose 1 = .ok (.getfield 16, 3) := by decide +kernel
theorem dX7_lose_4 : decode cX7_lose 4 = .ok (.bipush 8, 2) := by decide +kernel
theorem dX7_lose_6 : decode cX7_lose 6 = .ok (.iload_n 1, 1) := by decide +kernel
theorem dX7_lose_7 : decode cX7_lose 7 = .ok (.imul, 1) := by decide +kernel
theorem dX7_lose_8 : decode cX7_lose 8 = .ok (.bipush 6, 2) := by decide +kernel
theorem dX7_lose_10 : decode cX7_lose 10 = .ok (.iadd, 1) := by decide +kernel
theorem dX7_lose_11 : decode cX7_lose 11 = .ok (.iconst 0, 1) := by decide +kernel
theorem dX7_lose_12 : decode cX7_lose 12 = .ok (.iastore, 1) := by decide +kernel
theorem dX7_lose_13 : decode cX7_lose 13 = .ok (.aload_n 0, 1) := by decide +kernel
theorem dX7_lose_14 : decode cX7_lose 14 = .ok (.getfield 16, 3) := by decide +kernel
theorem dX7_lose_17 : decode cX7_lose 17 = .ok (.bipush 8, 2) := by decide +kernel
theorem dX7_lose_19 : decode cX7_lose 19 = .ok (.iload_n 1, 1) := by decide +kernel
theorem dX7_lose_20 : decode cX7_lose 20 = .ok (.imul, 1) := by decide +kernel
theorem dX7_lose_21 : decode cX7_lose 21 = .ok (.iconst 5, 1) := by decide +kernel
theorem dX7_lose_22 : decode cX7_lose 22 = .ok (.iadd, 1) := by decide +kernel
theorem dX7_lose_23 : decode cX7_lose 23 = .ok (.iconst 0, 1) := by decide +kernel
theorem dX7_lose_24 : decode cX7_lose 24 = .ok (.iastore, 1) := by decide +kernel
theorem dX7_lose_25 : decode cX7_lose 25 = .ok (.return_, 1) := by decide +kernel
theorem dX7_fish_0 : decode cX7_fish 0 = .ok (.aload_n 0, 1) := by decide +kernel
theorem dX7_fish_1 : decode cX7_fish 1 = .ok (.iload_n 1, 1) := by decide +kernel
theorem dX7_fish_2 : decode cX7_fish 2 = .ok (.invokevirtual 98, 3) := by decide +kernel
theorem dX7_fish_5 : decode cX7_fish 5 = .ok (.ifCond .ne 6, 3) := by decide +kernel
theorem dX7_fish_8 : decode cX7_fish 8 = .ok (.bipush (-101), 2) := by decide +kernel
theorem dX7_fish_10 : decode cX7_fish 10 = .ok (.ireturn, 1) := by decide +kernel
theorem dX7_fish_11 : decode cX7_fish 11 = .ok (.aload_n 0, 1) := by decide +kernel
theorem dX7_fish_12 : decode cX7_fish 12 = .ok (.getfield 7, 3) := by decide +kernel
theorem dX7_fish_15 : decode cX7_fish 15 = .ok (.iload_n 1, 1) := by decide +kernel
theorem dX7_fish_16 : decode cX7_fish 16 = .ok (.iaload, 1) := by decide +kernel
theorem dX7_fish_17 : decode cX7_fish 17 = .ok (.ifCond .ne 6, 3) := by decide +kernel
theorem dX7_fish_20 : decode cX7_fish 20 = .ok (.bipush (-103), 2) := by decide +kernel
theorem dX7_fish_22 : decode cX7_fish 22 = .ok (.ireturn, 1) := by decide +kernel
theorem dX7_fish_23 : decode cX7_fish 23 = .ok (.aload_n 0, 1) := by decide +kernel
theorem dX7_fish_24 : decode cX7_fish 24 = .ok (.iload_n 1, 1) := by decide +kernel
theorem dX7_fish_25 : decode cX7_fish 25 = .ok (.invokevirtual 103, 3) := by decide +kernel
theorem dX7_fish_28 : decode cX7_fish 28 = .ok (.istore_n 2, 1) := by decide +kernel
theorem dX7_fish_29 : decode cX7_fish 29 = .ok (.iconst 0, 1) := by decide +kernel
theorem dX7_fish_30 : decode cX7_fish 30 = .ok (.istore_n 3, 1) := by decide +kernel
theorem dX7_fish_31 : decode cX7_fish 31 = .ok (.iload_n 3, 1) := by decide +kernel
theorem dX7_fish_32 : decode cX7_fish 32 = .ok (.aload_n 0, 1) := by decide +kernel
theorem dX7_fish_33 : decode cX7_fish 33 = .ok (.getfield 79, 3) := by decide +kernel
theorem dX7_fish_36 : decode cX7_fish 36 = .ok (.if_icmp .ge 37, 3) := by decide +kernel
theorem dX7_fish_39 : decode cX7_fish 39 = .ok (.aload_n 0, 1) := by decide +kernel
theorem dX7_fish_40 : decode cX7_fish 40 = .ok (.iload_n 3, 1) := by decide +kernel
theorem dX7_fish_41 : decode cX7_fish 41 = .ok (.invokevirtual 94, 3) := by decide +kernel
theorem dX7_fish_44 : decode cX7_fish 44 = .ok (.ifCond .eq 23, 3) := by decide +kernel
theorem dX7_fish_47 : decode cX7_fish 47 = .ok (.aload_n 0, 1) := by decide +kernel
theorem dX7_fish_48 : decode cX7_fish 48 = .ok (.getfield 16, 3) := by decide +kernel
theorem dX7_fish_51 : decode cX7_fish 51 = .ok (.bipush 8, 2) := by decide +kernel
theorem dX7_fish_53 : decode cX7_fish 53 = .ok (.iload_n 3, 1) := by decide +kernel
theorem dX7_fish_54 : decode cX7_fish 54 = .ok (.imul, 1) := by decide +kernel
theorem dX7_fish_55 : decode cX7_fish 55 = .ok (.iconst 1, 1) := by decide +kernel
theorem dX7_fish_56 : decode cX7_fish 56 = .ok (.iadd, 1) := by decide +kernel
theorem dX7_fish_57 : decode cX7_fish 57 = .ok (.iaload, 1) := by decide +kernel
theorem dX7_fish_58 : decode cX7_fish 58 = .ok (.iload_n 1, 1) := by decide +kernel
theorem dX7_fish_59 : decode cX7_fish 59 = .ok (.if_icmp .ne 8, 3) := by decide +kernel
theorem dX7_fish_62 : decode cX7_fish 62 = .ok (.aload_n 0, 1) := by decide +kernel
theorem dX7_fish_63 : decode cX7_fish 63 = .ok (.iload_n 3, 1) := by decide +kernel
theorem dX7_fish_64 : decode cX7_fish 64 = .ok (.invokevirtual 114, 3) := by decide +kernel
theorem dX7_fish_67 : decode cX7_fish 67 = .ok (.iinc 3 1, 3) := by decide +kernel
theorem dX7_fish_70 : decode cX7_fish 70 = .ok (.goto (-39), 3) := by decide +kernel
theorem dX7_fish_73 : decode cX7_fish 73 = .ok (.aload_n 0, 1) := by decide +kernel
theorem dX7_fish_74 : decode cX7_fish 74 = .ok (.getfield 7, 3) := by decide +kernel
theorem dX7_fish_77 : decode cX7_fish 77 = .ok (.iload_n 1, 1) := by decide +kernel
theorem dX7_fish_78 : decode cX7_fish 78 = .ok (.iconst 0, 1) := by decide +kernel
theorem dX7_fish_79 : decode cX7_fish 79 = .ok (.iastore, 1) := by decide +kernel
theorem dX7_fish_80 : decode cX7_fish 80 = .ok (.iload_n 2, 1) := by decide +kernel
theorem dX7_fish_81 : decode cX7_fish 81 = .ok (.ireturn, 1) := by decide +kernel
theorem dX7_write_0 : decode cX7_write 0 = .ok (.aload_n 0, 1) := by decide +kernel
theorem dX7_write_1 : decode cX7_write 1 = .ok (.iload_n 2, 1) := by decide +kernel
theorem dX7_write_2 : decode cX7_write 2 = .ok (.invokevirtual 98, 3) := by decide +kernel
theorem dX7_write_5 : decode cX7_write 5 = .ok (.ifCond .eq 24, 3) := by decide +kernel
theorem dX7_write_8 : decode cX7_write 8 = .ok (.iload_n 3, 1) := by decide +kernel
theorem dX7_write_9 : decode cX7_write 9 = .ok (.invokestatic 118, 3) := by decide +kernel
theorem dX7_write_12 : decode cX7_write 12 = .ok (.ifCond .eq 17, 3) := by decide +kernel
theorem dX7_write_15 : decode cX7_write 15 = .ok (.iload 4, 2) := by decide +kernel
theorem dX7_write_17 : decode cX7_write 17 = .ok (.invokestatic 118, 3) := by decide +kernel
theorem dX7_write_20 : decode cX7_write 20 = .ok (.ifCond .eq 9, 3) := by decide +kernel
theorem dX7_write_23 : decode cX7_write 23 = .ok (.iload_n 3, 1) := by decide +kernel
theorem dX7_write_24 : decode cX7_write 24 = .ok (.iload 4, 2) := by decide +kernel
theorem dX7_write_26 : decode cX7_write 26 = .ok (.if_icmp .ne 6, 3) := by decide +kernel
theorem dX7_write_29 : decode cX7_write 29 = .ok (.bipush (-101), 2) := by decide +kernel
theorem dX7_write_31 : decode cX7_write 31 = .ok (.ireturn, 1) := by decide +kernel
theorem dX7_write_32 : decode cX7_write 32 = .ok (.iload_n 1, 1) := by decide +kernel
theorem dX7_write_33 : decode cX7_write 33 = .ok (.i2l, 1) := by decide +kernel
theorem dX7_write_34 : decode cX7_write 34 = .ok (.lconst 0, 1) := by decide +kernel
theorem dX7_write_35 : decode cX7_write 35 = .ok (.ldc2_w 86, 3) := by decide +kernel
theorem dX7_write_38 : decode cX7_write 38 = .ok (.invokestatic 75, 3) := by decide +kernel
theorem dX7_write_41 : decode cX7_write 41 = .ok (.ifCond .eq 29, 3) := by decide +kernel
theorem dX7_write_44 : decode cX7_write 44 = .ok (.iload 5, 2) := by decide +kernel
theorem dX7_write_46 : decode cX7_write 46 = .ok (.i2l, 1) := by decide +kernel
theorem dX7_write_47 : decode cX7_write 47 = .ok (.lconst 1, 1) := by decide +kernel
theorem dX7_write_48 : decode cX7_write 48 = .ok (.ldc2_w 101, 3) := by decide +kernel
theorem dX7_write_51 : decode cX7_write 51 = .ok (.invokestatic 75, 3) := by decide +kernel
theorem dX7_write_54 : decode cX7_write 54 = .ok (.ifCond .eq 16, 3) := by decide +kernel
theorem dX7_write_57 : decode cX7_write 57 = .ok (.iload 6, 2) := by decide +kernel
theorem dX7_write_59 : decode cX7_write 59 = .ok (.i2l, 1) := by decide +kernel
theorem dX7_write_60 : decode cX7_write 60 = .ok (.lconst 1, 1) := by decide +kernel
theorem dX7_write_61 : decode cX7_write 61 = .ok (.ldc2_w 121, 3) := by decide +kernel
theorem dX7_write_64 : decode cX7_write 64 = .ok (.invokestatic 75, 3) := by decide +kernel
theorem dX7_write_67 : decode cX7_write 67 = .ok (.ifCond .ne 6, 3) := by decide +kernel
theorem dX7_write_70 : decode cX7_write 70 = .ok (.bipush (-102), 2) := by decide +kernel
theorem dX7_write_72 : decode cX7_write 72 = .ok (.ireturn, 1) := by decide +kernel
theorem dX7_write_73 : decode cX7_write 73 = .ok (.iload_n 1, 1) := by decide +kernel
theorem dX7_write_74 : decode cX7_write 74 = .ok (.iconst 1, 1) := by decide +kernel
theorem dX7_write_75 : decode cX7_write 75 = .ok (.if_icmp .ne 10, 3) := by decide +kernel
theorem dX7_write_78 : decode cX7_write 78 = .ok (.iconst 2, 1) := by decide +kernel
theorem dX7_write_79 : decode cX7_write 79 = .ok (.iload 6, 2) := by decide +kernel
theorem dX7_write_81 : decode cX7_write 81 = .ok (.imul, 1) := by decide +kernel
theorem dX7_write_82 : decode cX7_write 82 = .ok (.goto 5, 3) := by decide +kernel
theorem dX7_write_85 : decode cX7_write 85 = .ok (.iload 6, 2) := by decide +kernel
theorem dX7_write_87 : decode cX7_write 87 = .ok (.istore 7, 2) := by decide +kernel
theorem dX7_write_89 : decode cX7_write 89 = .ok (.iload 7, 2) := by decide +kernel
theorem dX7_write_91 : decode cX7_write 91 = .ok (.aload_n 0, 1) := by decide +kernel
theorem dX7_write_92 : decode cX7_write 92 = .ok (.getfield 7, 3) := by decide +kernel
theorem dX7_write_95 : decode cX7_write 95 = .ok (.iload_n 2, 1) := by decide +kernel
theorem dX7_write_96 : decode cX7_write 96 = .ok (.iaload, 1) := by decide +kernel
theorem dX7_write_97 : decode cX7_write 97 = .ok (.if_icmp .le 6, 3) := by decide +kernel
theorem dX7_write_100 : decode cX7_write 100 = .ok (.bipush (-103), 2) := by decide +kernel
theorem dX7_write_102 : decode cX7_write 102 = .ok (.ireturn, 1) := by decide +kernel
theorem dX7_write_103 : decode cX7_write 103 = .ok (.aload_n 0, 1) := by decide +kernel
theorem dX7_write_104 : decode cX7_write 104 = .ok (.getfield 79, 3) := by decide +kernel
theorem dX7_write_107 : decode cX7_write 107 = .ok (.bipush 10, 2) := by decide +kernel
theorem dX7_write_109 : decode cX7_write 109 = .ok (.if_icmp .ne 6, 3) := by decide +kernel
theorem dX7_write_112 : decode cX7_write 112 = .ok (.bipush (-104), 2) := by decide +kernel
theorem dX7_write_114 : decode cX7_write 114 = .ok (.ireturn, 1) := by decide +kernel
theorem dX7_write_115 : decode cX7_write 115 = .ok (.bipush 8, 2) := by decide +kernel
theorem dX7_write_117 : decode cX7_write 117 = .ok (.aload_n 0, 1) := by decide +kernel
theorem dX7_write_118 : decode cX7_write 118 = .ok (.getfield 79, 3) := by decide +kernel
theorem dX7_write_121 : decode cX7_write 121 = .ok (.imul, 1) := by decide +kernel
theorem dX7_write_122 : decode cX7_write 122 = .ok (.istore 8, 2) := by decide +kernel
theorem dX7_write_124 : decode cX7_write 124 = .ok (.aload_n 0, 1) := by decide +kernel
theorem dX7_write_125 : decode cX7_write 125 = .ok (.getfield 16, 3) := by decide +kernel
theorem dX7_write_128 : decode cX7_write 128 = .ok (.iload 8, 2) := by decide +kernel
theorem dX7_write_130 : decode cX7_write 130 = .ok (.iload_n 1, 1) := by decide +kernel
theorem dX7_write_131 : decode cX7_write 131 = .ok (.iastore, 1) := by decide +kernel
theorem dX7_write_132 : decode cX7_write 132 = .ok (.aload_n 0, 1) := by decide +kernel
theorem dX7_write_133 : decode cX7_write 133 = .ok (.getfield 16, 3) := by decide +kernel
theorem dX7_write_136 : decode cX7_write 136 = .ok (.iload 8, 2) := by decide +kernel
theorem dX7_write_138 : decode cX7_write 138 = .ok (.iconst 1, 1) := by decide +kernel
theorem dX7_write_139 : decode cX7_write 139 = .ok (.iadd, 1) := by decide +kernel
theorem dX7_write_140 : decode cX7_write 140 = .ok (.iload_n 2, 1) := by decide +kernel
theorem dX7_write_141 : decode cX7_write 141 = .ok (.iastore, 1) := by decide +kernel
theorem dX7_write_142 : decode cX7_write 142 = .ok (.aload_n 0, 1) := by decide +kernel
theorem dX7_write_143 : decode cX7_write 143 = .ok (.getfield 16, 3) := by decide +kernel
theorem dX7_write_146 : decode cX7_write 146 = .ok (.iload 8, 2) := by decide +kernel
theorem dX7_write_148 : decode cX7_write 148 = .ok (.iconst 2, 1) := by decide +kernel
theorem dX7_write_149 : decode cX7_write 149 = .ok (.iadd, 1) := by decide +kernel
theorem dX7_write_150 : decode cX7_write 150 = .ok (.iload_n 3, 1) := by decide +kernel
theorem dX7_write_151 : decode cX7_write 151 = .ok (.iastore, 1) := by decide +kernel
theorem dX7_write_152 : decode cX7_write 152 = .ok (.aload_n 0, 1) := by decide +kernel
theorem dX7_write_153 : decode cX7_write 153 = .ok (.getfield 16, 3) := by decide +kernel
theorem dX7_write_156 : decode cX7_write 156 = .ok (.iload 8, 2) := by decide +kernel
theorem dX7_write_158 : decode cX7_write 158 = .ok (.iconst 3, 1) := by decide +kernel
theorem dX7_write_159 : decode cX7_write 159 = .ok (.iadd, 1) := by decide +kernel
theorem dX7_write_160 : decode cX7_write 160 = .ok (.iload 4, 2) := by decide +kernel
theorem dX7_write_162 : decode cX7_write 162 = .ok (.iastore, 1) := by decide +kernel
theorem dX7_write_163 : decode cX7_write 163 = .ok (.aload_n 0, 1) := by decide +kernel
theorem dX7_write_164 : decode cX7_write 164 = .ok (.getfield 16, 3) := by decide +kernel
theorem dX7_write_167 : decode cX7_write 167 = .ok (.iload 8, 2) := by decide +kernel
theorem dX7_write_169 : decode cX7_write 169 = .ok (.iconst 4, 1) := by decide +kernel
theorem dX7_write_170 : decode cX7_write 170 = .ok (.iadd, 1) := by decide +kernel
theorem dX7_write_171 : decode cX7_write 171 = .ok (.iload 5, 2) := by decide +kernel
theorem dX7_write_173 : decode cX7_write 173 = .ok (.iastore, 1) := by decide +kernel
theorem dX7_write_174 : decode cX7_write 174 = .ok (.aload_n 0, 1) := by decide +kernel
theorem dX7_write_175 : decode cX7_write 175 = .ok (.getfield 16, 3) := by decide +kernel
theorem dX7_write_178 : decode cX7_write 178 = .ok (.iload 8, 2) := by decide +kernel
theorem dX7_write_180 : decode cX7_write 180 = .ok (.iconst 5, 1) := by decide +kernel
theorem dX7_write_181 : decode cX7_write 181 = .ok (.iadd, 1) := by decide +kernel
theorem dX7_write_182 : decode cX7_write 182 = .ok (.iload 7, 2) := by decide +kernel
theorem dX7_write_184 : decode cX7_write 184 = .ok (.iastore, 1) := by decide +kernel
theorem dX7_write_185 : decode cX7_write 185 = .ok (.aload_n 0, 1) := by decide +kernel
theorem dX7_write_186 : decode cX7_write 186 = .ok (.getfield 16, 3) := by decide +kernel
theorem dX7_write_189 : decode cX7_write 189 = .ok (.iload 8, 2) := by decide +kernel
theorem dX7_write_191 : decode cX7_write 191 = .ok (.bipush 6, 2) := by decide +kernel
theorem dX7_write_193 : decode cX7_write 193 = .ok (.iadd, 1) := by decide +kernel
theorem dX7_write_194 : decode cX7_write 194 = .ok (.iconst 1, 1) := by decide +kernel
theorem dX7_write_195 : decode cX7_write 195 = .ok (.iastore, 1) := by decide +kernel
theorem dX7_write_196 : decode cX7_write 196 = .ok (.aload_n 0, 1) := by decide +kernel
theorem dX7_write_197 : decode cX7_write 197 = .ok (.getfield 16, 3) := by decide +kernel
theorem dX7_write_200 : decode cX7_write 200 = .ok (.iload 8, 2) := by decide +kernel
theorem dX7_write_202 : decode cX7_write 202 = .ok (.bipush 7, 2) := by decide +kernel
theorem dX7_write_204 : decode cX7_write 204 = .ok (.iadd, 1) := by decide +kernel
theorem dX7_write_205 : decode cX7_write 205 = .ok (.iconst 0, 1) := by decide +kernel
theorem dX7_write_206 : decode cX7_write 206 = .ok (.iastore, 1) := by decide +kernel
theorem dX7_write_207 : decode cX7_write 207 = .ok (.aload_n 0, 1) := by decide +kernel
theorem dX7_write_208 : decode cX7_write 208 = .ok (.dup, 1) := by decide +kernel
theorem dX7_write_209 : decode cX7_write 209 = .ok (.getfield 79, 3) := by decide +kernel
theorem dX7_write_212 : decode cX7_write 212 = .ok (.iconst 1, 1) := by decide +kernel
theorem dX7_write_213 : decode cX7_write 213 = .ok (.iadd, 1) := by decide +kernel
theorem dX7_write_214 : decode cX7_write 214 = .ok (.putfield 79, 3) := by decide +kernel
theorem dX7_write_217 : decode cX7_write 217 = .ok (.aload_n 0, 1) := by decide +kernel
theorem dX7_write_218 : decode cX7_write 218 = .ok (.getfield 79, 3) := by decide +kernel
theorem dX7_write_221 : decode cX7_write 221 = .ok (.iconst 1, 1) := by decide +kernel
theorem dX7_write_222 : decode cX7_write 222 = .ok (.isub, 1) := by decide +kernel
theorem dX7_write_223 : decode cX7_write 223 = .ok (.ireturn, 1) := by decide +kernel
theorem dX7_worthOf_0 : decode cX7_worthOf 0 = .ok (.bipush 8, 2) := by decide +kernel
theorem dX7_worthOf_2 : decode cX7_worthOf 2 = .ok (.iload_n 1, 1) := by decide +kernel
theorem dX7_worthOf_3 : decode cX7_worthOf 3 = .ok (.imul, 1) := by decide +kernel
theorem dX7_worthOf_4 : decode cX7_worthOf 4 = .ok (.istore_n 2, 1) := by decide +kernel
theorem dX7_worthOf_5 : decode cX7_worthOf 5 = .ok (.aload_n 0, 1) := by decide +kernel
theorem dX7_worthOf_6 : decode cX7_worthOf 6 = .ok (.getfield 16, 3) := by decide +kernel
theorem dX7_worthOf_9 : decode cX7_worthOf 9 = .ok (.iload_n 2, 1) := by decide +kernel
theorem dX7_worthOf_10 : decode cX7_worthOf 10 = .ok (.bipush 6, 2) := by decide +kernel
theorem dX7_worthOf_12 : decode cX7_worthOf 12 = .ok (.iadd, 1) := by decide +kernel
theorem dX7_worthOf_13 : decode cX7_worthOf 13 = .ok (.iaload, 1) := by decide +kernel
theorem dX7_worthOf_14 : decode cX7_worthOf 14 = .ok (.istore_n 3, 1) := by decide +kernel
theorem dX7_worthOf_15 : decode cX7_worthOf 15 = .ok (.aload_n 0, 1) := by decide +kernel
theorem dX7_worthOf_16 : decode cX7_worthOf 16 = .ok (.getfield 16, 3) := by decide +kernel
theorem dX7_worthOf_19 : decode cX7_worthOf 19 = .ok (.iload_n 2, 1) := by decide +kernel
theorem dX7_worthOf_20 : decode cX7_worthOf 20 = .ok (.iaload, 1) := by decide +kernel
theorem dX7_worthOf_21 : decode cX7_worthOf 21 = .ok (.iconst 2, 1) := by decide +kernel
theorem dX7_worthOf_22 : decode cX7_worthOf 22 = .ok (.if_icmp .eq 13, 3) := by decide +kernel
theorem dX7_worthOf_25 : decode cX7_worthOf 25 = .ok (.aload_n 0, 1) := by decide +kernel
theorem dX7_worthOf_26 : decode cX7_worthOf 26 = .ok (.getfield 16, 3) := by decide +kernel
theorem dX7_worthOf_29 : decode cX7_worthOf 29 = .ok (.iload_n 2, 1) := by decide +kernel
theorem dX7_worthOf_30 : decode cX7_worthOf 30 = .ok (.iaload, 1) := by decide +kernel
theorem dX7_worthOf_31 : decode cX7_worthOf 31 = .ok (.iconst 4, 1) := by decide +kernel
theorem dX7_worthOf_32 : decode cX7_worthOf 32 = .ok (.if_icmp .ne 7, 3) := by decide +kernel
theorem dX7_worthOf_35 : decode cX7_worthOf 35 = .ok (.iconst 1, 1) := by decide +kernel
theorem dX7_worthOf_36 : decode cX7_worthOf 36 = .ok (.goto 4, 3) := by decide +kernel
theorem dX7_worthOf_39 : decode cX7_worthOf 39 = .ok (.iconst 0, 1) := by decide +kernel
theorem dX7_worthOf_40 : decode cX7_worthOf 40 = .ok (.istore 4, 2) := by decide +kernel
theorem dX7_worthOf_42 : decode cX7_worthOf 42 = .ok (.aload_n 0, 1) := by decide +kernel
theorem dX7_worthOf_43 : decode cX7_worthOf 43 = .ok (.getfield 16, 3) := by decide +kernel
theorem dX7_worthOf_46 : decode cX7_worthOf 46 = .ok (.iload_n 2, 1) := by decide +kernel
theorem dX7_worthOf_47 : decode cX7_worthOf 47 = .ok (.iconst 4, 1) := by decide +kernel
theorem dX7_worthOf_48 : decode cX7_worthOf 48 = .ok (.iadd, 1) := by decide +kernel
theorem dX7_worthOf_49 : decode cX7_worthOf 49 = .ok (.iaload, 1) := by decide +kernel
theorem dX7_worthOf_50 : decode cX7_worthOf 50 = .ok (.iload 4, 2) := by decide +kernel
theorem dX7_worthOf_52 : decode cX7_worthOf 52 = .ok (.ifCond .eq 22, 3) := by decide +kernel
theorem dX7_worthOf_55 : decode cX7_worthOf 55 = .ok (.aload_n 0, 1) := by decide +kernel
theorem dX7_worthOf_56 : decode cX7_worthOf 56 = .ok (.getfield 7, 3) := by decide +kernel
theorem dX7_worthOf_59 : decode cX7_worthOf 59 = .ok (.aload_n 0, 1) := by decide +kernel
theorem dX7_worthOf_60 : decode cX7_worthOf 60 = .ok (.getfield 16, 3) := by decide +kernel
theorem dX7_worthOf_63 : decode cX7_worthOf 63 = .ok (.iload_n 2, 1) := by decide +kernel
theorem dX7_worthOf_64 : decode cX7_worthOf 64 = .ok (.iconst 1, 1) := by decide +kernel
theorem dX7_worthOf_65 : decode cX7_worthOf 65 = .ok (.iadd, 1) := by decide +kernel
theorem dX7_worthOf_66 : decode cX7_worthOf 66 = .ok (.iaload, 1) := by decide +kernel
theorem dX7_worthOf_67 : decode cX7_worthOf 67 = .ok (.iaload, 1) := by decide +kernel
theorem dX7_worthOf_68 : decode cX7_worthOf 68 = .ok (.bipush 10, 2) := by decide +kernel
theorem dX7_worthOf_70 : decode cX7_worthOf 70 = .ok (.idiv, 1) := by decide +kernel
theorem dX7_worthOf_71 : decode cX7_worthOf 71 = .ok (.goto 4, 3) := by decide +kernel
theorem dX7_worthOf_74 : decode cX7_worthOf 74 = .ok (.iconst 0, 1) := by decide +kernel
theorem dX7_worthOf_75 : decode cX7_worthOf 75 = .ok (.iadd, 1) := by decide +kernel
theorem dX7_worthOf_76 : decode cX7_worthOf 76 = .ok (.istore 5, 2) := by decide +kernel
theorem dX7_worthOf_78 : decode cX7_worthOf 78 = .ok (.iload_n 3, 1) := by decide +kernel
theorem dX7_worthOf_79 : decode cX7_worthOf 79 = .ok (.ifCond .ne 7, 3) := by decide +kernel
theorem dX7_worthOf_82 : decode cX7_worthOf 82 = .ok (.iconst 0, 1) := by decide +kernel
theorem dX7_worthOf_83 : decode cX7_worthOf 83 = .ok (.goto 22, 3) := by decide +kernel
theorem dX7_worthOf_86 : decode cX7_worthOf 86 = .ok (.iload_n 3, 1) := by decide +kernel
theorem dX7_worthOf_87 : decode cX7_worthOf 87 = .ok (.iconst 2, 1) := by decide +kernel
theorem dX7_worthOf_88 : decode cX7_worthOf 88 = .ok (.if_icmp .ne 15, 3) := by decide +kernel
theorem dX7_worthOf_91 : decode cX7_worthOf 91 = .ok (.aload_n 0, 1) := by decide +kernel
theorem dX7_worthOf_92 : decode cX7_worthOf 92 = .ok (.getfield 16, 3) := by decide +kernel
theorem dX7_worthOf_95 : decode cX7_worthOf 95 = .ok (.iload_n 2, 1) := by decide +kernel
theorem dX7_worthOf_96 : decode cX7_worthOf 96 = .ok (.bipush 7, 2) := by decide +kernel
theorem dX7_worthOf_98 : decode cX7_worthOf 98 = .ok (.iadd, 1) := by decide +kernel
theorem dX7_worthOf_99 : decode cX7_worthOf 99 = .ok (.iaload, 1) := by decide +kernel
theorem dX7_worthOf_100 : decode cX7_worthOf 100 = .ok (.goto 5, 3) := by decide +kernel
theorem dX7_worthOf_103 : decode cX7_worthOf 103 = .ok (.iload 5, 2) := by decide +kernel
theorem dX7_worthOf_105 : decode cX7_worthOf 105 = .ok (.ireturn, 1) := by decide +kernel
theorem dX7_lookOf_0 : decode cX7_lookOf 0 = .ok (.aload_n 0, 1) := by decide +kernel
theorem dX7_lookOf_1 : decode cX7_lookOf 1 = .ok (.getfield 16, 3) := by decide +kernel
theorem dX7_lookOf_4 : decode cX7_lookOf 4 = .ok (.bipush 8, 2) := by decide +kernel
theorem dX7_lookOf_6 : decode cX7_lookOf 6 = .ok (.iload_n 1, 1) := by decide +kernel
theorem dX7_lookOf_7 : decode cX7_lookOf 7 = .ok (.imul, 1) := by decide +kernel
theorem dX7_lookOf_8 : decode cX7_lookOf 8 = .ok (.bipush 6, 2) := by decide +kernel
theorem dX7_lookOf_10 : decode cX7_lookOf 10 = .ok (.iadd, 1) := by decide +kernel
theorem dX7_lookOf_11 : decode cX7_lookOf 11 = .ok (.iaload, 1) := by decide +kernel
theorem dX7_lookOf_12 : decode cX7_lookOf 12 = .ok (.istore_n 2, 1) := by decide +kernel
theorem dX7_lookOf_13 : decode cX7_lookOf 13 = .ok (.iload_n 2, 1) := by decide +kernel
theorem dX7_lookOf_14 : decode cX7_lookOf 14 = .ok (.ifCond .ne 7, 3) := by decide +kernel
theorem dX7_lookOf_17 : decode cX7_lookOf 17 = .ok (.iconst 0, 1) := by decide +kernel
theorem dX7_lookOf_18 : decode cX7_lookOf 18 = .ok (.goto 36, 3) := by decide +kernel
theorem dX7_lookOf_21 : decode cX7_lookOf 21 = .ok (.iload_n 2, 1) := by decide +kernel
theorem dX7_lookOf_22 : decode cX7_lookOf 22 = .ok (.iconst 2, 1) := by decide +kernel
theorem dX7_lookOf_23 : decode cX7_lookOf 23 = .ok (.if_icmp .ne 7, 3) := by decide +kernel
theorem dX7_lookOf_26 : decode cX7_lookOf 26 = .ok (.iconst 3, 1) := by decide +kernel
theorem dX7_lookOf_27 : decode cX7_lookOf 27 = .ok (.goto 27, 3) := by decide +kernel
theorem dX7_lookOf_30 : decode cX7_lookOf 30 = .ok (.aload_n 0, 1) := by decide +kernel
theorem dX7_lookOf_31 : decode cX7_lookOf 31 = .ok (.getfield 13, 3) := by decide +kernel
theorem dX7_lookOf_34 : decode cX7_lookOf 34 = .ok (.aload_n 0, 1) := by decide +kernel
theorem dX7_lookOf_35 : decode cX7_lookOf 35 = .ok (.getfield 16, 3) := by decide +kernel
theorem dX7_lookOf_38 : decode cX7_lookOf 38 = .ok (.bipush 8, 2) := by decide +kernel
theorem dX7_lookOf_40 : decode cX7_lookOf 40 = .ok (.iload_n 1, 1) := by decide +kernel
theorem dX7_lookOf_41 : decode cX7_lookOf 41 = .ok (.imul, 1) := by decide +kernel
