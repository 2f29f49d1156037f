theorem dX6_sledges_51 : decode cX6_sledges 51 = .ok (.putfield 202, 3) := by decide +kernel
theorem dX6_sledges_54 : decode cX6_sledges 54 = .ok (.aload_n 0, 1) := by decide +kernel
theorem dX6_sledges_55 : decode cX6_sledges 55 = .ok (.getfield 39, 3) := by decide +kernel
theorem dX6_sledges_58 : decode cX6_sledges 58 = .ok (.aload_n 0, 1) := by decide +kernel
theorem dX6_sledges_59 : decode cX6_sledges 59 = .ok (.getfield 10, 3) := by decide +kernel
theorem dX6_sledges_62 : decode cX6_sledges 62 = .ok (.iload_n 1, 1) := by decide +kernel
theorem dX6_sledges_63 : decode cX6_sledges 63 = .ok (.iload_n 2, 1) := by decide +kernel
theorem dX6_sledges_64 : decode cX6_sledges 64 = .ok (.invokevirtual 205, 3) := by decide +kernel
theorem dX6_sledges_67 : decode cX6_sledges 67 = .ok (.iload_n 3, 1) := by decide +kernel
theorem dX6_sledges_68 : decode cX6_sledges 68 = .ok (.ifCond .ne 13, 3) := by decide +kernel
theorem dX6_sledges_71 : decode cX6_sledges 71 = .ok (.aload_n 0, 1) := by decide +kernel
theorem dX6_sledges_72 : decode cX6_sledges 72 = .ok (.getfield 39, 3) := by decide +kernel
theorem dX6_sledges_75 : decode cX6_sledges 75 = .ok (.getfield 209, 3) := by decide +kernel
theorem dX6_sledges_78 : decode cX6_sledges 78 = .ok (.goto 10, 3) := by decide +kernel
theorem dX6_sledges_81 : decode cX6_sledges 81 = .ok (.aload_n 0, 1) := by decide +kernel
theorem dX6_sledges_82 : decode cX6_sledges 82 = .ok (.getfield 39, 3) := by decide +kernel
theorem dX6_sledges_85 : decode cX6_sledges 85 = .ok (.getfield 212, 3) := by decide +kernel
theorem dX6_sledges_88 : decode cX6_sledges 88 = .ok (.ireturn, 1) := by decide +kernel
theorem dX6_settled_0 : decode cX6_settled 0 = .ok (.iload_n 1, 1) := by decide +kernel
theorem dX6_settled_1 : decode cX6_settled 1 = .ok (.iconst 0, 1) := by decide +kernel
theorem dX6_settled_2 : decode cX6_settled 2 = .ok (.iconst 1, 1) := by decide +kernel
theorem dX6_settled_3 : decode cX6_settled 3 = .ok (.invokestatic 54, 3) := by decide +kernel
theorem dX6_settled_6 : decode cX6_settled 6 = .ok (.ifCond .ne 6, 3) := by decide +kernel
theorem dX6_settled_9 : decode cX6_settled 9 = .ok (.bipush (-102), 2) := by decide +kernel
theorem dX6_settled_11 : decode cX6_settled 11 = .ok (.ireturn, 1) := by decide +kernel
theorem dX6_settled_12 : decode cX6_settled 12 = .ok (.aload_n 0, 1) := by decide +kernel
theorem dX6_settled_13 : decode cX6_settled 13 = .ok (.getfield 46, 3) := by decide +kernel
theorem dX6_settled_16 : decode cX6_settled 16 = .ok (.aload_n 0, 1) := by decide +kernel
theorem dX6_settled_17 : decode cX6_settled 17 = .ok (.getfield 10, 3) := by decide +kernel
theorem dX6_settled_20 : decode cX6_settled 20 = .ok (.invokevirtual 215, 3) := by decide +kernel
theorem dX6_settled_23 : decode cX6_settled 23 = .ok (.istore_n 2, 1) := by decide +kernel
theorem dX6_settled_24 : decode cX6_settled 24 = .ok (.iload_n 1, 1) := by decide +kernel
theorem dX6_settled_25 : decode cX6_settled 25 = .ok (.ifCond .ne 10, 3) := by decide +kernel
theorem dX6_settled_28 : decode cX6_settled 28 = .ok (.bipush 6, 2) := by decide +kernel
theorem dX6_settled_30 : decode cX6_settled 30 = .ok (.iload_n 2, 1) := by decide +kernel
theorem dX6_settled_31 : decode cX6_settled 31 = .ok (.isub, 1) := by decide +kernel
theorem dX6_settled_32 : decode cX6_settled 32 = .ok (.goto 4, 3) := by decide +kernel
theorem dX6_settled_35 : decode cX6_settled 35 = .ok (.iload_n 2, 1) := by decide +kernel
theorem dX6_settled_36 : decode cX6_settled 36 = .ok (.ireturn, 1) := by decide +kernel
theorem dX6_skate_0 : decode cX6_skate 0 = .ok (.aload_n 0, 1) := by decide +kernel
theorem dX6_skate_1 : decode cX6_skate 1 = .ok (.getfield 10, 3) := by decide +kernel
theorem dX6_skate_4 : decode cX6_skate 4 = .ok (.iload_n 1, 1) := by decide +kernel
theorem dX6_skate_5 : decode cX6_skate 5 = .ok (.invokevirtual 66, 3) := by decide +kernel
theorem dX6_skate_8 : decode cX6_skate 8 = .ok (.ifCond .eq 14, 3) := by decide +kernel
theorem dX6_skate_11 : decode cX6_skate 11 = .ok (.aload_n 0, 1) := by decide +kernel
theorem dX6_skate_12 : decode cX6_skate 12 = .ok (.getfield 10, 3) := by decide +kernel
theorem dX6_skate_15 : decode cX6_skate 15 = .ok (.iload_n 2, 1) := by decide +kernel
theorem dX6_skate_16 : decode cX6_skate 16 = .ok (.invokevirtual 66, 3) := by decide +kernel
theorem dX6_skate_19 : decode cX6_skate 19 = .ok (.ifCond .ne 6, 3) := by decide +kernel
theorem dX6_skate_22 : decode cX6_skate 22 = .ok (.bipush (-101), 2) := by decide +kernel
theorem dX6_skate_24 : decode cX6_skate 24 = .ok (.ireturn, 1) := by decide +kernel
theorem dX6_skate_25 : decode cX6_skate 25 = .ok (.iload_n 3, 1) := by decide +kernel
theorem dX6_skate_26 : decode cX6_skate 26 = .ok (.iconst 0, 1) := by decide +kernel
theorem dX6_skate_27 : decode cX6_skate 27 = .ok (.iconst 1, 1) := by decide +kernel
theorem dX6_skate_28 : decode cX6_skate 28 = .ok (.invokestatic 54, 3) := by decide +kernel
theorem dX6_skate_31 : decode cX6_skate 31 = .ok (.ifCond .ne 6, 3) := by decide +kernel
theorem dX6_skate_34 : decode cX6_skate 34 = .ok (.bipush (-102), 2) := by decide +kernel
theorem dX6_skate_36 : decode cX6_skate 36 = .ok (.ireturn, 1) := by decide +kernel
theorem dX6_skate_37 : decode cX6_skate 37 = .ok (.aload_n 0, 1) := by decide +kernel
theorem dX6_skate_38 : decode cX6_skate 38 = .ok (.getfield 32, 3) := by decide +kernel
theorem dX6_skate_41 : decode cX6_skate 41 = .ok (.aload_n 0, 1) := by decide +kernel
theorem dX6_skate_42 : decode cX6_skate 42 = .ok (.getfield 10, 3) := by decide +kernel
theorem dX6_skate_45 : decode cX6_skate 45 = .ok (.iload_n 1, 1) := by decide +kernel
theorem dX6_skate_46 : decode cX6_skate 46 = .ok (.invokevirtual 219, 3) := by decide +kernel
theorem dX6_skate_49 : decode cX6_skate 49 = .ok (.aload_n 0, 1) := by decide +kernel
theorem dX6_skate_50 : decode cX6_skate 50 = .ok (.getfield 32, 3) := by decide +kernel
theorem dX6_skate_53 : decode cX6_skate 53 = .ok (.getfield 223, 3) := by decide +kernel
theorem dX6_skate_56 : decode cX6_skate 56 = .ok (.iload_n 2, 1) := by decide +kernel
theorem dX6_skate_57 : decode cX6_skate 57 = .ok (.iaload, 1) := by decide +kernel
theorem dX6_skate_58 : decode cX6_skate 58 = .ok (.ifCond .ge 5, 3) := by decide +kernel
theorem dX6_skate_61 : decode cX6_skate 61 = .ok (.iconst (-1), 1) := by decide +kernel
theorem dX6_skate_62 : decode cX6_skate 62 = .ok (.ireturn, 1) := by decide +kernel
theorem dX6_skate_63 : decode cX6_skate 63 = .ok (.iload_n 3, 1) := by decide +kernel
theorem dX6_skate_64 : decode cX6_skate 64 = .ok (.ifCond .ne 15, 3) := by decide +kernel
theorem dX6_skate_67 : decode cX6_skate 67 = .ok (.aload_n 0, 1) := by decide +kernel
theorem dX6_skate_68 : decode cX6_skate 68 = .ok (.getfield 32, 3) := by decide +kernel
theorem dX6_skate_71 : decode cX6_skate 71 = .ok (.getfield 223, 3) := by decide +kernel
theorem dX6_skate_74 : decode cX6_skate 74 = .ok (.iload_n 2, 1) := by decide +kernel
theorem dX6_skate_75 : decode cX6_skate 75 = .ok (.iaload, 1) := by decide +kernel
theorem dX6_skate_76 : decode cX6_skate 76 = .ok (.goto 12, 3) := by decide +kernel
theorem dX6_skate_79 : decode cX6_skate 79 = .ok (.aload_n 0, 1) := by decide +kernel
theorem dX6_skate_80 : decode cX6_skate 80 = .ok (.getfield 32, 3) := by decide +kernel
theorem dX6_skate_83 : decode cX6_skate 83 = .ok (.getfield 226, 3) := by decide +kernel
theorem dX6_skate_86 : decode cX6_skate 86 = .ok (.iload_n 2, 1) := by decide +kernel
theorem dX6_skate_87 : decode cX6_skate 87 = .ok (.iaload, 1) := by decide +kernel
theorem dX6_skate_88 : decode cX6_skate 88 = .ok (.ireturn, 1) := by decide +kernel
theorem dX6_odds_0 : decode cX6_odds 0 = .ok (.aload_n 0, 1) := by decide +kernel
theorem dX6_odds_1 : decode cX6_odds 1 = .ok (.getfield 10, 3) := by decide +kernel
theorem dX6_odds_4 : decode cX6_odds 4 = .ok (.iload_n 1, 1) := by decide +kernel
theorem dX6_odds_5 : decode cX6_odds 5 = .ok (.invokevirtual 111, 3) := by decide +kernel
theorem dX6_odds_8 : decode cX6_odds 8 = .ok (.ifCond .ne 7, 3) := by decide +kernel
theorem dX6_odds_11 : decode cX6_odds 11 = .ok (.ldc2_w 229, 3) := by decide +kernel
theorem dX6_odds_14 : decode cX6_odds 14 = .ok (.lreturn, 1) := by decide +kernel
theorem dX6_odds_15 : decode cX6_odds 15 = .ok (.iload_n 2, 1) := by decide +kernel
theorem dX6_odds_16 : decode cX6_odds 16 = .ok (.iconst 1, 1) := by decide +kernel
theorem dX6_odds_17 : decode cX6_odds 17 = .ok (.bipush 9, 2) := by decide +kernel
theorem dX6_odds_19 : decode cX6_odds 19 = .ok (.invokestatic 54, 3) := by decide +kernel
theorem dX6_odds_22 : decode cX6_odds 22 = .ok (.ifCond .eq 34, 3) := by decide +kernel
theorem dX6_odds_25 : decode cX6_odds 25 = .ok (.iload_n 3, 1) := by decide +kernel
theorem dX6_odds_26 : decode cX6_odds 26 = .ok (.iconst 0, 1) := by decide +kernel
theorem dX6_odds_27 : decode cX6_odds 27 = .ok (.bipush 9, 2) := by decide +kernel
theorem dX6_odds_29 : decode cX6_odds 29 = .ok (.invokestatic 54, 3) := by decide +kernel
theorem dX6_odds_32 : decode cX6_odds 32 = .ok (.ifCond .eq 24, 3) := by decide +kernel
theorem dX6_odds_35 : decode cX6_odds 35 = .ok (.iload 4, 2) := by decide +kernel
theorem dX6_odds_37 : decode cX6_odds 37 = .ok (.iconst 1, 1) := by decide +kernel
theorem dX6_odds_38 : decode cX6_odds 38 = .ok (.bipush 9, 2) := by decide +kernel
theorem dX6_odds_40 : decode cX6_odds 40 = .ok (.invokestatic 54, 3) := by decide +kernel
theorem dX6_odds_43 : decode cX6_odds 43 = .ok (.ifCond .eq 13, 3) := by decide +kernel
theorem dX6_odds_46 : decode cX6_odds 46 = .ok (.iload 5, 2) := by decide +kernel
theorem dX6_odds_48 : decode cX6_odds 48 = .ok (.iconst 0, 1) := by decide +kernel
theorem dX6_odds_49 : decode cX6_odds 49 = .ok (.iconst 1, 1) := by decide +kernel
theorem dX6_odds_50 : decode cX6_odds 50 = .ok (.invokestatic 54, 3) := by decide +kernel
theorem dX6_odds_53 : decode cX6_odds 53 = .ok (.ifCond .ne 7, 3) := by decide +kernel
theorem dX6_odds_56 : decode cX6_odds 56 = .ok (.ldc2_w 231, 3) := by decide +kernel
theorem dX6_odds_59 : decode cX6_odds 59 = .ok (.lreturn, 1) := by decide +kernel
theorem dX6_odds_60 : decode cX6_odds 60 = .ok (.lconst 0, 1) := by decide +kernel
theorem dX6_odds_61 : decode cX6_odds 61 = .ok (.lstore 6, 2) := by decide +kernel
theorem dX6_odds_63 : decode cX6_odds 63 = .ok (.aload_n 0, 1) := by decide +kernel
theorem dX6_odds_64 : decode cX6_odds 64 = .ok (.iload_n 1, 1) := by decide +kernel
theorem dX6_odds_65 : decode cX6_odds 65 = .ok (.iload_n 2, 1) := by decide +kernel
theorem dX6_odds_66 : decode cX6_odds 66 = .ok (.iload 4, 2) := by decide +kernel
theorem dX6_odds_68 : decode cX6_odds 68 = .ok (.invokevirtual 233, 3) := by decide +kernel
theorem dX6_odds_71 : decode cX6_odds 71 = .ok (.istore 8, 2) := by decide +kernel
theorem dX6_odds_73 : decode cX6_odds 73 = .ok (.iconst 0, 1) := by decide +kernel
theorem dX6_odds_74 : decode cX6_odds 74 = .ok (.istore 9, 2) := by decide +kernel
theorem dX6_odds_76 : decode cX6_odds 76 = .ok (.iload 9, 2) := by decide +kernel
theorem dX6_odds_78 : decode cX6_odds 78 = .ok (.iload 8, 2) := by decide +kernel
theorem dX6_odds_80 : decode cX6_odds 80 = .ok (.if_icmp .gt 39, 3) := by decide +kernel
theorem dX6_odds_83 : decode cX6_odds 83 = .ok (.lload 6, 2) := by decide +kernel
theorem dX6_odds_85 : decode cX6_odds 85 = .ok (.iload_n 2, 1) := by decide +kernel
theorem dX6_odds_86 : decode cX6_odds 86 = .ok (.iload 9, 2) := by decide +kernel
theorem dX6_odds_88 : decode cX6_odds 88 = .ok (.invokestatic 237, 3) := by decide +kernel
theorem dX6_odds_91 : decode cX6_odds 91 = .ok (.iload_n 3, 1) := by decide +kernel
theorem dX6_odds_92 : decode cX6_odds 92 = .ok (.iload 9, 2) := by decide +kernel
theorem dX6_odds_94 : decode cX6_odds 94 = .ok (.invokestatic 240, 3) := by decide +kernel
theorem dX6_odds_97 : decode cX6_odds 97 = .ok (.lmul, 1) := by decide +kernel
theorem dX6_odds_98 : decode cX6_odds 98 = .ok (.bipush 10, 2) := by decide +kernel
theorem dX6_odds_100 : decode cX6_odds 100 = .ok (.iload_n 3, 1) := by decide +kernel
theorem dX6_odds_101 : decode cX6_odds 101 = .ok (.isub, 1) := by decide +kernel
theorem dX6_odds_102 : decode cX6_odds 102 = .ok (.iload_n 2, 1) := by decide +kernel
theorem dX6_odds_103 : decode cX6_odds 103 = .ok (.iload 9, 2) := by decide +kernel
theorem dX6_odds_105 : decode cX6_odds 105 = .ok (.isub, 1) := by decide +kernel
theorem dX6_odds_106 : decode cX6_odds 106 = .ok (.invokestatic 240, 3) := by decide +kernel
theorem dX6_odds_109 : decode cX6_odds 109 = .ok (.lmul, 1) := by decide +kernel
theorem dX6_odds_110 : decode cX6_odds 110 = .ok (.ladd, 1) := by decide +kernel
theorem dX6_odds_111 : decode cX6_odds 111 = .ok (.lstore 6, 2) := by decide +kernel
theorem dX6_odds_113 : decode cX6_odds 113 = .ok (.iinc 9 1, 3) := by decide +kernel
theorem dX6_odds_116 : decode cX6_odds 116 = .ok (.goto (-40), 3) := by decide +kernel
theorem dX6_odds_119 : decode cX6_odds 119 = .ok (.bipush 10, 2) := by decide +kernel
theorem dX6_odds_121 : decode cX6_odds 121 = .ok (.iload_n 2, 1) := by decide +kernel
theorem dX6_odds_122 : decode cX6_odds 122 = .ok (.invokestatic 240, 3) := by decide +kernel
theorem dX6_odds_125 : decode cX6_odds 125 = .ok (.lstore 9, 2) := by decide +kernel
theorem dX6_odds_127 : decode cX6_odds 127 = .ok (.lload 6, 2) := by decide +kernel
theorem dX6_odds_129 : decode cX6_odds 129 = .ok (.lload 9, 2) := by decide +kernel
theorem dX6_odds_131 : decode cX6_odds 131 = .ok (.invokestatic 243, 3) := by decide +kernel
theorem dX6_odds_134 : decode cX6_odds 134 = .ok (.lstore 11, 2) := by decide +kernel
theorem dX6_odds_136 : decode cX6_odds 136 = .ok (.lload 11, 2) := by decide +kernel
theorem dX6_odds_138 : decode cX6_odds 138 = .ok (.lconst 0, 1) := by decide +kernel
theorem dX6_odds_139 : decode cX6_odds 139 = .ok (.lcmp, 1) := by decide +kernel
theorem dX6_odds_140 : decode cX6_odds 140 = .ok (.ifCond .gt 7, 3) := by decide +kernel
theorem dX6_odds_143 : decode cX6_odds 143 = .ok (.ldc2_w 247, 3) := by decide +kernel
theorem dX6_odds_146 : decode cX6_odds 146 = .ok (.lreturn, 1) := by decide +kernel
theorem dX6_odds_147 : decode cX6_odds 147 = .ok (.iload 5, 2) := by decide +kernel
theorem dX6_odds_149 : decode cX6_odds 149 = .ok (.ifCond .ne 8, 3) := by decide +kernel
theorem dX6_odds_152 : decode cX6_odds 152 = .ok (.lload 6, 2) := by decide +kernel
theorem dX6_odds_154 : decode cX6_odds 154 = .ok (.goto 5, 3) := by decide +kernel
theorem dX6_odds_157 : decode cX6_odds 157 = .ok (.lload 9, 2) := by decide +kernel
theorem dX6_odds_159 : decode cX6_odds 159 = .ok (.lload 11, 2) := by decide +kernel
theorem dX6_odds_161 : decode cX6_odds 161 = .ok (.ldiv, 1) := by decide +kernel
theorem dX6_odds_162 : decode cX6_odds 162 = .ok (.lreturn, 1) := by decide +kernel
theorem dX6_thawsOutlasted_0 : decode cX6_thawsOutlasted 0 = .ok (.aload_n 0, 1) := by decide +kernel
theorem dX6_thawsOutlasted_1 : decode cX6_thawsOutlasted 1 = .ok (.getfield 10, 3) := by decide +kernel
theorem dX6_thawsOutlasted_4 : decode cX6_thawsOutlasted 4 = .ok (.getfield 100, 3) := by decide +kernel
theorem dX6_thawsOutlasted_7 : decode cX6_thawsOutlasted 7 = .ok (.iload_n 1, 1) := by decide +kernel
theorem dX6_thawsOutlasted_8 : decode cX6_thawsOutlasted 8 = .ok (.aaload, 1) := by decide +kernel
theorem dX6_thawsOutlasted_9 : decode cX6_thawsOutlasted 9 = .ok (.astore 4, 2) := by decide +kernel
theorem dX6_thawsOutlasted_11 : decode cX6_thawsOutlasted 11 = .ok (.aload 4, 2) := by decide +kernel
theorem dX6_thawsOutlasted_13 : decode cX6_thawsOutlasted 13 = .ok (.getfield 139, 3) := by decide +kernel
theorem dX6_thawsOutlasted_16 : decode cX6_thawsOutlasted 16 = .ok (.ifCond .eq 5, 3) := by decide +kernel
theorem dX6_thawsOutlasted_19 : decode cX6_thawsOutlasted 19 = .ok (.iload_n 2, 1) := by decide +kernel
theorem dX6_thawsOutlasted_20 : decode cX6_thawsOutlasted 20 = .ok (.ireturn, 1) := by decide +kernel
theorem dX6_thawsOutlasted_21 : decode cX6_thawsOutlasted 21 = .ok (.aload_n 0, 1) := by decide +kernel
theorem dX6_thawsOutlasted_22 : decode cX6_thawsOutlasted 22 = .ok (.getfield 10, 3) := by decide +kernel
theorem dX6_thawsOutlasted_25 : decode cX6_thawsOutlasted 25 = .ok (.iload_n 1, 1) := by decide +kernel
theorem dX6_thawsOutlasted_26 : decode cX6_thawsOutlasted 26 = .ok (.invokevirtual 149, 3) := by decide +kernel
theorem dX6_thawsOutlasted_29 : decode cX6_thawsOutlasted 29 = .ok (.istore 5, 2) := by decide +kernel
theorem dX6_thawsOutlasted_31 : decode cX6_thawsOutlasted 31 = .ok (.aload 4, 2) := by decide +kernel
theorem dX6_thawsOutlasted_33 : decode cX6_thawsOutlasted 33 = .ok (.getfield 129, 3) := by decide +kernel
theorem dX6_thawsOutlasted_36 : decode cX6_thawsOutlasted 36 = .ok (.istore 6, 2) := by decide +kernel
theorem dX6_thawsOutlasted_38 : decode cX6_thawsOutlasted 38 = .ok (.iconst (-1), 1) := by decide +kernel
theorem dX6_thawsOutlasted_39 : decode cX6_thawsOutlasted 39 = .ok (.istore 7, 2) := by decide +kernel
theorem dX6_thawsOutlasted_41 : decode cX6_thawsOutlasted 41 = .ok (.iconst 0, 1) := by decide +kernel
theorem dX6_thawsOutlasted_42 : decode cX6_thawsOutlasted 42 = .ok (.istore 8, 2) := by decide +kernel
theorem dX6_thawsOutlasted_44 : decode cX6_thawsOutlasted 44 = .ok (.iload 8, 2) := by decide +kernel
theorem dX6_thawsOutlasted_46 : decode cX6_thawsOutlasted 46 = .ok (.iload_n 2, 1) := by decide +kernel
theorem dX6_thawsOutlasted_47 : decode cX6_thawsOutlasted 47 = .ok (.if_icmp .gt 42, 3) := by decide +kernel
theorem dX6_thawsOutlasted_50 : decode cX6_thawsOutlasted 50 = .ok (.iload 6, 2) := by decide +kernel
theorem dX6_thawsOutlasted_52 : decode cX6_thawsOutlasted 52 = .ok (.ifCond .le 37, 3) := by decide +kernel
theorem dX6_thawsOutlasted_55 : decode cX6_thawsOutlasted 55 = .ok (.iload 8, 2) := by decide +kernel
theorem dX6_thawsOutlasted_57 : decode cX6_thawsOutlasted 57 = .ok (.istore 7, 2) := by decide +kernel
theorem dX6_thawsOutlasted_59 : decode cX6_thawsOutlasted 59 = .ok (.iconst 1, 1) := by decide +kernel
theorem dX6_thawsOutlasted_60 : decode cX6_thawsOutlasted 60 = .ok (.iload_n 3, 1) := by decide +kernel
theorem dX6_thawsOutlasted_61 : decode cX6_thawsOutlasted 61 = .ok (.iload 5, 2) := by decide +kernel
theorem dX6_thawsOutlasted_63 : decode cX6_thawsOutlasted 63 = .ok (.invokestatic 249, 3) := by decide +kernel
theorem dX6_thawsOutlasted_66 : decode cX6_thawsOutlasted 66 = .ok (.istore 5, 2) := by decide +kernel
theorem dX6_thawsOutlasted_68 : decode cX6_thawsOutlasted 68 = .ok (.aload 4, 2) := by decide +kernel
theorem dX6_thawsOutlasted_70 : decode cX6_thawsOutlasted 70 = .ok (.getfield 114, 3) := by decide +kernel
theorem dX6_thawsOutlasted_73 : decode cX6_thawsOutlasted 73 = .ok (.iload 6, 2) := by decide +kernel
theorem dX6_thawsOutlasted_75 : decode cX6_thawsOutlasted 75 = .ok (.iload_n 3, 1) := by decide +kernel
theorem dX6_thawsOutlasted_76 : decode cX6_thawsOutlasted 76 = .ok (.iload 5, 2) := by decide +kernel
theorem dX6_thawsOutlasted_78 : decode cX6_thawsOutlasted 78 = .ok (.invokestatic 252, 3) := by decide +kernel
theorem dX6_thawsOutlasted_81 : decode cX6_thawsOutlasted 81 = .ok (.istore 6, 2) := by decide +kernel
theorem dX6_thawsOutlasted_83 : decode cX6_thawsOutlasted 83 = .ok (.iinc 8 1, 3) := by decide +kernel
theorem dX6_thawsOutlasted_86 : decode cX6_thawsOutlasted 86 = .ok (.goto (-42), 3) := by decide +kernel
theorem dX6_thawsOutlasted_89 : decode cX6_thawsOutlasted 89 = .ok (.iload 7, 2) := by decide +kernel
theorem dX6_thawsOutlasted_91 : decode cX6_thawsOutlasted 91 = .ok (.ireturn, 1) := by decide +kernel
theorem dX6_winter_0 : decode cX6_winter 0 = .ok (.iload_n 1, 1) := by decide +kernel
theorem dX6_winter_1 : decode cX6_winter 1 = .ok (.iconst 1, 1) := by decide +kernel
theorem dX6_winter_2 : decode cX6_winter 2 = .ok (.bipush 60, 2) := by decide +kernel
theorem dX6_winter_4 : decode cX6_winter 4 = .ok (.invokestatic 54, 3) := by decide +kernel
theorem dX6_winter_7 : decode cX6_winter 7 = .ok (.ifCond .eq 16, 3) := by decide +kernel
theorem dX6_winter_10 : decode cX6_winter 10 = .ok (.iload_n 2, 1) := by decide +kernel
theorem dX6_winter_11 : decode cX6_winter 11 = .ok (.ifCond .lt 12, 3) := by decide +kernel
theorem dX6_winter_14 : decode cX6_winter 14 = .ok (.iload_n 3, 1) := by decide +kernel
theorem dX6_winter_15 : decode cX6_winter 15 = .ok (.iconst 0, 1) := by decide +kernel
theorem dX6_winter_16 : decode cX6_winter 16 = .ok (.iconst 2, 1) := by decide +kernel
theorem dX6_winter_17 : decode cX6_winter 17 = .ok (.invokestatic 54, 3) := by decide +kernel
theorem dX6_winter_20 : decode cX6_winter 20 = .ok (.ifCond .ne 6, 3) := by decide +kernel
theorem dX6_winter_23 : decode cX6_winter 23 = .ok (.bipush (-102), 2) := by decide +kernel
theorem dX6_winter_25 : decode cX6_winter 25 = .ok (.ireturn, 1) := by decide +kernel
theorem dX6_winter_26 : decode cX6_winter 26 = .ok (.aload_n 0, 1) := by decide +kernel
theorem dX6_winter_27 : decode cX6_winter 27 = .ok (.getfield 19, 3) := by decide +kernel
theorem dX6_winter_30 : decode cX6_winter 30 = .ok (.aload_n 0, 1) := by decide +kernel
theorem dX6_winter_31 : decode cX6_winter 31 = .ok (.getfield 10, 3) := by decide +kernel
theorem dX6_winter_34 : decode cX6_winter 34 = .ok (.invokevirtual 256, 3) := by decide +kernel
theorem dX6_winter_37 : decode cX6_winter 37 = .ok (.iload_n 2, 1) := by decide +kernel
theorem dX6_winter_38 : decode cX6_winter 38 = .ok (.istore 4, 2) := by decide +kernel
theorem dX6_winter_40 : decode cX6_winter 40 = .ok (.iconst 0, 1) := by decide +kernel
theorem dX6_winter_41 : decode cX6_winter 41 = .ok (.istore 5, 2) := by decide +kernel
theorem dX6_winter_43 : decode cX6_winter 43 = .ok (.iload 5, 2) := by decide +kernel
theorem dX6_winter_45 : decode cX6_winter 45 = .ok (.iload_n 1, 1) := by decide +kernel
theorem dX6_winter_46 : decode cX6_winter 46 = .ok (.if_icmp .ge 68, 3) := by decide +kernel
theorem dX6_winter_49 : decode cX6_winter 49 = .ok (.iload 4, 2) := by decide +kernel
theorem dX6_winter_51 : decode cX6_winter 51 = .ok (.invokestatic 260, 3) := by decide +kernel
theorem dX6_winter_54 : decode cX6_winter 54 = .ok (.istore 4, 2) := by decide +kernel
theorem dX6_winter_56 : decode cX6_winter 56 = .ok (.iload 4, 2) := by decide +kernel
theorem dX6_winter_58 : decode cX6_winter 58 = .ok (.iconst 4, 1) := by decide +kernel
theorem dX6_winter_59 : decode cX6_winter 59 = .ok (.invokestatic 263, 3) := by decide +kernel
theorem dX6_winter_62 : decode cX6_winter 62 = .ok (.istore 6, 2) := by decide +kernel
theorem dX6_winter_64 : decode cX6_winter 64 = .ok (.iconst 0, 1) := by decide +kernel
theorem dX6_winter_65 : decode cX6_winter 65 = .ok (.istore 7, 2) := by decide +kernel
theorem dX6_winter_67 : decode cX6_winter 67 = .ok (.iload 6, 2) := by decide +kernel
theorem dX6_winter_69 : decode cX6_winter 69 = .ok (.ifCond .eq 9, 3) := by decide +kernel
theorem dX6_winter_72 : decode cX6_winter 72 = .ok (.iload 6, 2) := by decide +kernel
theorem dX6_winter_74 : decode cX6_winter 74 = .ok (.iconst 1, 1) := by decide +kernel
theorem dX6_winter_75 : decode cX6_winter 75 = .ok (.if_icmp .ne 21, 3) := by decide +kernel
theorem dX6_winter_78 : decode cX6_winter 78 = .ok (.iload 4, 2) := by decide +kernel
theorem dX6_winter_80 : decode cX6_winter 80 = .ok (.invokestatic 260, 3) := by decide +kernel
theorem dX6_winter_83 : decode cX6_winter 83 = .ok (.istore 4, 2) := by decide +kernel
theorem dX6_winter_85 : decode cX6_winter 85 = .ok (.iload 4, 2) := by decide +kernel
theorem dX6_winter_87 : decode cX6_winter 87 = .ok (.bipush 9, 2) := by decide +kernel
theorem dX6_winter_89 : decode cX6_winter 89 = .ok (.invokestatic 263, 3) := by decide +kernel
theorem dX6_winter_92 : decode cX6_winter 92 = .ok (.iconst 1, 1) := by decide +kernel
theorem dX6_winter_93 : decode cX6_winter 93 = .ok (.iadd, 1) := by decide +kernel
theorem dX6_winter_94 : decode cX6_winter 94 = .ok (.istore 7, 2) := by decide +kernel
theorem dX6_winter_96 : decode cX6_winter 96 = .ok (.aload_n 0, 1) := by decide +kernel
theorem dX6_winter_97 : decode cX6_winter 97 = .ok (.getfield 19, 3) := by decide +kernel
theorem dX6_winter_100 : decode cX6_winter 100 = .ok (.iload 6, 2) := by decide +kernel
theorem dX6_winter_102 : decode cX6_winter 102 = .ok (.iload 7, 2) := by decide +kernel
theorem dX6_winter_104 : decode cX6_winter 104 = .ok (.invokevirtual 183, 3) := by decide +kernel
theorem dX6_winter_107 : decode cX6_winter 107 = .ok (.pop, 1) := by decide +kernel
theorem dX6_winter_108 : decode cX6_winter 108 = .ok (.iinc 5 1, 3) := by decide +kernel
theorem dX6_winter_111 : decode cX6_winter 111 = .ok (.goto (-68), 3) := by decide +kernel
theorem dX6_winter_114 : decode cX6_winter 114 = .ok (.iload_n 3, 1) := by decide +kernel
theorem dX6_winter_115 : decode cX6_winter 115 = .ok (.iconst 2, 1) := by decide +kernel
theorem dX6_winter_116 : decode cX6_winter 116 = .ok (.if_icmp .ne 6, 3) := by decide +kernel
theorem dX6_winter_119 : decode cX6_winter 119 = .ok (.iload 4, 2) := by decide +kernel
theorem dX6_winter_121 : decode cX6_winter 121 = .ok (.ireturn, 1) := by decide +kernel
theorem dX6_winter_122 : decode cX6_winter 122 = .ok (.iload_n 3, 1) := by decide +kernel
theorem dX6_winter_123 : decode cX6_winter 123 = .ok (.ifCond .ne 13, 3) := by decide +kernel
theorem dX6_winter_126 : decode cX6_winter 126 = .ok (.aload_n 0, 1) := by decide +kernel
theorem dX6_winter_127 : decode cX6_winter 127 = .ok (.getfield 19, 3) := by decide +kernel
theorem dX6_winter_130 : decode cX6_winter 130 = .ok (.invokevirtual 266, 3) := by decide +kernel
theorem dX6_winter_133 : decode cX6_winter 133 = .ok (.goto 10, 3) := by decide +kernel
theorem dX6_winter_136 : decode cX6_winter 136 = .ok (.aload_n 0, 1) := by decide +kernel
theorem dX6_winter_137 : decode cX6_winter 137 = .ok (.getfield 19, 3) := by decide +kernel
theorem dX6_winter_140 : decode cX6_winter 140 = .ok (.invokevirtual 269, 3) := by decide +kernel
theorem dX6_winter_143 : decode cX6_winter 143 = .ok (.ireturn, 1) := by decide +kernel
theorem dX6_nextSeed_0 : decode cX6_nextSeed 0 = .ok (.ldc2_w 272, 3) := by decide +kernel
theorem dX6_nextSeed_3 : decode cX6_nextSeed 3 = .ok (.iload_n 0, 1) := by decide +kernel
theorem dX6_nextSeed_4 : decode cX6_nextSeed 4 = .ok (.i2l, 1) := by decide +kernel
theorem dX6_nextSeed_5 : decode cX6_nextSeed 5 = .ok (.lmul, 1) := by decide +kernel
theorem dX6_nextSeed_6 : decode cX6_nextSeed 6 = .ok (.ldc2_w 274, 3) := by decide +kernel
theorem dX6_nextSeed_9 : decode cX6_nextSeed 9 = .ok (.ladd, 1) := by decide +kernel
theorem dX6_nextSeed_10 : decode cX6_nextSeed 10 = .ok (.ldc2_w 276, 3) := by decide +kernel
theorem dX6_nextSeed_13 : decode cX6_nextSeed 13 = .ok (.land, 1) := by decide +kernel
theorem dX6_nextSeed_14 : decode cX6_nextSeed 14 = .ok (.l2i, 1) := by decide +kernel
theorem dX6_nextSeed_15 : decode cX6_nextSeed 15 = .ok (.ireturn, 1) := by decide +kernel
theorem dX6_drawFrom_0 : decode cX6_drawFrom 0 = .ok (.iload_n 1, 1) := by decide +kernel
theorem dX6_drawFrom_1 : decode cX6_drawFrom 1 = .ok (.ifCond .le 12, 3) := by decide +kernel
theorem dX6_drawFrom_4 : decode cX6_drawFrom 4 = .ok (.iload_n 0, 1) := by decide +kernel
theorem dX6_drawFrom_5 : decode cX6_drawFrom 5 = .ok (.bipush 16, 2) := by decide +kernel
theorem dX6_drawFrom_7 : decode cX6_drawFrom 7 = .ok (.ishr, 1) := by decide +kernel
theorem dX6_drawFrom_8 : decode cX6_drawFrom 8 = .ok (.iload_n 1, 1) := by decide +kernel
theorem dX6_drawFrom_9 : decode cX6_drawFrom 9 = .ok (.irem, 1) := by decide +kernel
theorem dX6_drawFrom_10 : decode cX6_drawFrom 10 = .ok (.goto 4, 3) := by decide +kernel
theorem dX6_drawFrom_13 : decode cX6_drawFrom 13 = .ok (.iconst 0, 1) := by decide +kernel
theorem dX6_drawFrom_14 : decode cX6_drawFrom 14 = .ok (.ireturn, 1) := by decide +kernel
theorem dX6_image_0 : decode cX6_image 0 = .ok (.aload_n 0, 1) := by decide +kernel
theorem dX6_image_1 : decode cX6_image 1 = .ok (.getfield 16, 3) := by decide +kernel
theorem dX6_image_4 : decode cX6_image 4 = .ok (.aload_n 0, 1) := by decide +kernel
theorem dX6_image_5 : decode cX6_image 5 = .ok (.getfield 10, 3) := by decide +kernel
theorem dX6_image_8 : decode cX6_image 8 = .ok (.invokevirtual 256, 3) := by decide +kernel
theorem dX6_image_11 : decode cX6_image 11 = .ok (.aload_n 0, 1) := by decide +kernel
theorem dX6_image_12 : decode cX6_image 12 = .ok (.iconst 1, 1) := by decide +kernel
theorem dX6_image_13 : decode cX6_image 13 = .ok (.putfield 58, 3) := by decide +kernel
theorem dX6_image_16 : decode cX6_image 16 = .ok (.aload_n 0, 1) := by decide +kernel
theorem dX6_image_17 : decode cX6_image 17 = .ok (.getfield 10, 3) := by decide +kernel
theorem dX6_image_20 : decode cX6_image 20 = .ok (.getfield 97, 3) := by decide +kernel
theorem dX6_image_23 : decode cX6_image 23 = .ok (.ireturn, 1) := by decide +kernel
theorem dX6_restore_0 : decode cX6_restore 0 = .ok (.aload_n 0, 1) := by decide +kernel
theorem dX6_restore_1 : decode cX6_restore 1 = .ok (.getfield 58, 3) := by decide +kernel
theorem dX6_restore_4 : decode cX6_restore 4 = .ok (.ifCond .ne 6, 3) := by decide +kernel
theorem dX6_restore_7 : decode cX6_restore 7 = .ok (.bipush (-103), 2) := by decide +kernel
theorem dX6_restore_9 : decode cX6_restore 9 = .ok (.ireturn, 1) := by decide +kernel
theorem dX6_restore_10 : decode cX6_restore 10 = .ok (.aload_n 0, 1) := by decide +kernel
theorem dX6_restore_11 : decode cX6_restore 11 = .ok (.getfield 10, 3) := by decide +kernel
theorem dX6_restore_14 : decode cX6_restore 14 = .ok (.aload_n 0, 1) := by decide +kernel
theorem dX6_restore_15 : decode cX6_restore 15 = .ok (.getfield 16, 3) := by decide +kernel
theorem dX6_restore_18 : decode cX6_restore 18 = .ok (.invokevirtual 256, 3) := by decide +kernel
theorem dX6_restore_21 : decode cX6_restore 21 = .ok (.aload_n 0, 1) := by decide +kernel
theorem dX6_restore_22 : decode cX6_restore 22 = .ok (.getfield 10, 3) := by decide +kernel
theorem dX6_restore_25 : decode cX6_restore 25 = .ok (.getfield 97, 3) := by decide +kernel
theorem dX6_restore_28 : decode cX6_restore 28 = .ok (.ireturn, 1) := by decide +kernel
theorem dX6_count_0 : decode cX6_count 0 = .ok (.iload_n 1, 1) := by decide +kernel
theorem dX6_count_1 : decode cX6_count 1 = .ok (.tableswitch 84 0 5 #[39, 47, 55, 63, 71, 79], 39) := by decide +kernel
theorem dX6_count_40 : decode cX6_count 40 = .ok (.aload_n 0, 1) := by decide +kernel
theorem dX6_count_41 : decode cX6_count 41 = .ok (.getfield 10, 3) := by decide +kernel
theorem dX6_count_44 : decode cX6_count 44 = .ok (.getfield 62, 3) := by decide +kernel
theorem dX6_count_47 : decode cX6_count 47 = .ok (.ireturn, 1) := by decide +kernel
theorem dX6_count_48 : decode cX6_count 48 = .ok (.aload_n 0, 1) := by decide +kernel
theorem dX6_count_49 : decode cX6_count 49 = .ok (.getfield 10, 3) := by decide +kernel
theorem dX6_count_52 : decode cX6_count 52 = .ok (.getfield 97, 3) := by decide +kernel
theorem dX6_count_55 : decode cX6_count 55 = .ok (.ireturn, 1) := by decide +kernel
theorem dX6_count_56 : decode cX6_count 56 = .ok (.aload_n 0, 1) := by decide +kernel
theorem dX6_count_57 : decode cX6_count 57 = .ok (.getfield 10, 3) := by decide +kernel
theorem dX6_count_60 : decode cX6_count 60 = .ok (.invokevirtual 266, 3) := by decide +kernel
theorem dX6_count_63 : decode cX6_count 63 = .ok (.ireturn, 1) := by decide +kernel
theorem dX6_count_64 : decode cX6_count 64 = .ok (.aload_n 0, 1) := by decide +kernel
theorem dX6_count_65 : decode cX6_count 65 = .ok (.getfield 10, 3) := by decide +kernel
theorem dX6_count_68 : decode cX6_count 68 = .ok (.getfield 186, 3) := by decide +kernel
theorem dX6_count_71 : decode cX6_count 71 = .ok (.ireturn, 1) := by decide +kernel
theorem dX6_count_72 : decode cX6_count 72 = .ok (.aload_n 0, 1) := by decide +kernel
theorem dX6_count_73 : decode cX6_count 73 = .ok (.getfield 25, 3) := by decide +kernel
theorem dX6_count_76 : decode cX6_count 76 = .ok (.getfield 160, 3) := by decide +kernel
theorem dX6_count_79 : decode cX6_count 79 = .ok (.ireturn, 1) := by decide +kernel
theorem dX6_count_80 : decode cX6_count 80 = .ok (.aload_n 0, 1) := by decide +kernel
theorem dX6_count_81 : decode cX6_count 81 = .ok (.getfield 202, 3) := by decide +kernel
theorem dX6_count_84 : decode cX6_count 84 = .ok (.ireturn, 1) := by decide +kernel
theorem dX6_count_85 : decode cX6_count 85 = .ok (.bipush (-102), 2) := by decide +kernel
theorem dX6_count_87 : decode cX6_count 87 = .ok (.ireturn, 1) := by decide +kernel
theorem dX6_digest_0 : decode cX6_digest 0 = .ok (.ldc2_w 278, 3) := by decide +kernel
theorem dX6_digest_3 : decode cX6_digest 3 = .ok (.lstore_n 1, 1) := by decide +kernel
theorem dX6_digest_4 : decode cX6_digest 4 = .ok (.iconst 0, 1) := by decide +kernel
theorem dX6_digest_5 : decode cX6_digest 5 = .ok (.istore_n 3, 1) := by decide +kernel
theorem dX6_digest_6 : decode cX6_digest 6 = .ok (.iload_n 3, 1) := by decide +kernel
theorem dX6_digest_7 : decode cX6_digest 7 = .ok (.aload_n 0, 1) := by decide +kernel
theorem dX6_digest_8 : decode cX6_digest 8 = .ok (.getfield 10, 3) := by decide +kernel
theorem dX6_digest_11 : decode cX6_digest 11 = .ok (.getfield 62, 3) := by decide +kernel
theorem dX6_digest_14 : decode cX6_digest 14 = .ok (.if_icmp .ge 39, 3) := by decide +kernel
theorem dX6_digest_17 : decode cX6_digest 17 = .ok (.iconst 0, 1) := by decide +kernel
theorem dX6_digest_18 : decode cX6_digest 18 = .ok (.istore 4, 2) := by decide +kernel
theorem dX6_digest_20 : decode cX6_digest 20 = .ok (.iload 4, 2) := by decide +kernel
theorem dX6_digest_22 : decode cX6_digest 22 = .ok (.iconst 3, 1) := by decide +kernel
theorem dX6_digest_23 : decode cX6_digest 23 = .ok (.if_icmp .gt 24, 3) := by decide +kernel
theorem dX6_digest_26 : decode cX6_digest 26 = .ok (.ldc2_w 280, 3) := by decide +kernel
theorem dX6_digest_29 : decode cX6_digest 29 = .ok (.lload_n 1, 1) := by decide +kernel
theorem dX6_digest_30 : decode cX6_digest 30 = .ok (.lmul, 1) := by decide +kernel
theorem dX6_digest_31 : decode cX6_digest 31 = .ok (.aload_n 0, 1) := by decide +kernel
theorem dX6_digest_32 : decode cX6_digest 32 = .ok (.iload_n 3, 1) := by decide +kernel
theorem dX6_digest_33 : decode cX6_digest 33 = .ok (.iload 4, 2) := by decide +kernel
theorem dX6_digest_35 : decode cX6_digest 35 = .ok (.invokevirtual 282, 3) := by decide +kernel
theorem dX6_digest_38 : decode cX6_digest 38 = .ok (.i2l, 1) := by decide +kernel
theorem dX6_digest_39 : decode cX6_digest 39 = .ok (.ladd, 1) := by decide +kernel
theorem dX6_digest_40 : decode cX6_digest 40 = .ok (.lstore_n 1, 1) := by decide +kernel
theorem dX6_digest_41 : decode cX6_digest 41 = .ok (.iinc 4 1, 3) := by decide +kernel
theorem dX6_digest_44 : decode cX6_digest 44 = .ok (.goto (-24), 3) := by decide +kernel
theorem dX6_digest_47 : decode cX6_digest 47 = .ok (.iinc 3 1, 3) := by decide +kernel
theorem dX6_digest_50 : decode cX6_digest 50 = .ok (.goto (-44), 3) := by decide +kernel
theorem dX6_digest_53 : decode cX6_digest 53 = .ok (.iconst 0, 1) := by decide +kernel
theorem dX6_digest_54 : decode cX6_digest 54 = .ok (.istore_n 3, 1) := by decide +kernel
theorem dX6_digest_55 : decode cX6_digest 55 = .ok (.iload_n 3, 1) := by decide +kernel
theorem dX6_digest_56 : decode cX6_digest 56 = .ok (.aload_n 0, 1) := by decide +kernel
theorem dX6_digest_57 : decode cX6_digest 57 = .ok (.getfield 10, 3) := by decide +kernel
theorem dX6_digest_60 : decode cX6_digest 60 = .ok (.getfield 97, 3) := by decide +kernel
theorem dX6_digest_63 : decode cX6_digest 63 = .ok (.if_icmp .ge 40, 3) := by decide +kernel
theorem dX6_digest_66 : decode cX6_digest 66 = .ok (.iconst 0, 1) := by decide +kernel
theorem dX6_digest_67 : decode cX6_digest 67 = .ok (.istore 4, 2) := by decide +kernel
theorem dX6_digest_69 : decode cX6_digest 69 = .ok (.iload 4, 2) := by decide +kernel
theorem dX6_digest_71 : decode cX6_digest 71 = .ok (.bipush 7, 2) := by decide +kernel
theorem dX6_digest_73 : decode cX6_digest 73 = .ok (.if_icmp .gt 24, 3) := by decide +kernel
theorem dX6_digest_76 : decode cX6_digest 76 = .ok (.ldc2_w 280, 3) := by decide +kernel
theorem dX6_digest_79 : decode cX6_digest 79 = .ok (.lload_n 1, 1) := by decide +kernel
theorem dX6_digest_80 : decode cX6_digest 80 = .ok (.lmul, 1) := by decide +kernel
theorem dX6_digest_81 : decode cX6_digest 81 = .ok (.aload_n 0, 1) := by decide +kernel
theorem dX6_digest_82 : decode cX6_digest 82 = .ok (.iload_n 3, 1) := by decide +kernel
theorem dX6_digest_83 : decode cX6_digest 83 = .ok (.iload 4, 2) := by decide +kernel
theorem dX6_digest_85 : decode cX6_digest 85 = .ok (.invokevirtual 285, 3) := by decide +kernel
theorem dX6_digest_88 : decode cX6_digest 88 = .ok (.i2l, 1) := by decide +kernel
theorem dX6_digest_89 : decode cX6_digest 89 = .ok (.ladd, 1) := by decide +kernel
theorem dX6_digest_90 : decode cX6_digest 90 = .ok (.lstore_n 1, 1) := by decide +kernel
theorem dX6_digest_91 : decode cX6_digest 91 = .ok (.iinc 4 1, 3) := by decide +kernel
theorem dX6_digest_94 : decode cX6_digest 94 = .ok (.goto (-25), 3) := by decide +kernel
theorem dX6_digest_97 : decode cX6_digest 97 = .ok (.iinc 3 1, 3) := by decide +kernel
theorem dX6_digest_100 : decode cX6_digest 100 = .ok (.goto (-45), 3) := by decide +kernel
theorem dX6_digest_103 : decode cX6_digest 103 = .ok (.iconst 0, 1) := by decide +kernel
theorem dX6_digest_104 : decode cX6_digest 104 = .ok (.istore_n 3, 1) := by decide +kernel
theorem dX6_digest_105 : decode cX6_digest 105 = .ok (.iload_n 3, 1) := by decide +kernel
theorem dX6_digest_106 : decode cX6_digest 106 = .ok (.bipush 6, 2) := by decide +kernel
theorem dX6_digest_108 : decode cX6_digest 108 = .ok (.if_icmp .ge 22, 3) := by decide +kernel
theorem dX6_digest_111 : decode cX6_digest 111 = .ok (.ldc2_w 280, 3) := by decide +kernel
theorem dX6_digest_114 : decode cX6_digest 114 = .ok (.lload_n 1, 1) := by decide +kernel
theorem dX6_digest_115 : decode cX6_digest 115 = .ok (.lmul, 1) := by decide +kernel
theorem dX6_digest_116 : decode cX6_digest 116 = .ok (.aload_n 0, 1) := by decide +kernel
theorem dX6_digest_117 : decode cX6_digest 117 = .ok (.iload_n 3, 1) := by decide +kernel
theorem dX6_digest_118 : decode cX6_digest 118 = .ok (.invokevirtual 288, 3) := by decide +kernel
theorem dX6_digest_121 : decode cX6_digest 121 = .ok (.i2l, 1) := by decide +kernel
theorem dX6_digest_122 : decode cX6_digest 122 = .ok (.ladd, 1) := by decide +kernel
theorem dX6_digest_123 : decode cX6_digest 123 = .ok (.lstore_n 1, 1) := by decide +kernel
theorem dX6_digest_124 : decode cX6_digest 124 = .ok (.iinc 3 1, 3) := by decide +kernel
theorem dX6_digest_127 : decode cX6_digest 127 = .ok (.goto (-22), 3) := by decide +kernel
theorem dX6_digest_130 : decode cX6_digest 130 = .ok (.ldc2_w 280, 3) := by decide +kernel
theorem dX6_digest_133 : decode cX6_digest 133 = .ok (.lload_n 1, 1) := by decide +kernel
theorem dX6_digest_134 : decode cX6_digest 134 = .ok (.lmul, 1) := by decide +kernel
theorem dX6_digest_135 : decode cX6_digest 135 = .ok (.aload_n 0, 1) := by decide +kernel
theorem dX6_digest_136 : decode cX6_digest 136 = .ok (.iconst 0, 1) := by decide +kernel
theorem dX6_digest_137 : decode cX6_digest 137 = .ok (.invokevirtual 291, 3) := by decide +kernel
theorem dX6_digest_140 : decode cX6_digest 140 = .ok (.i2l, 1) := by decide +kernel
theorem dX6_digest_141 : decode cX6_digest 141 = .ok (.ladd, 1) := by decide +kernel
theorem dX6_digest_142 : decode cX6_digest 142 = .ok (.lstore_n 1, 1) := by decide +kernel
theorem dX6_digest_143 : decode cX6_digest 143 = .ok (.ldc2_w 280, 3) := by decide +kernel
theorem dX6_digest_146 : decode cX6_digest 146 = .ok (.lload_n 1, 1) := by decide +kernel
theorem dX6_digest_147 : decode cX6_digest 147 = .ok (.lmul, 1) := by decide +kernel
theorem dX6_digest_148 : decode cX6_digest 148 = .ok (.aload_n 0, 1) := by decide +kernel
theorem dX6_digest_149 : decode cX6_digest 149 = .ok (.iconst 1, 1) := by decide +kernel
theorem dX6_digest_150 : decode cX6_digest 150 = .ok (.invokevirtual 291, 3) := by decide +kernel
theorem dX6_digest_153 : decode cX6_digest 153 = .ok (.i2l, 1) := by decide +kernel
theorem dX6_digest_154 : decode cX6_digest 154 = .ok (.ladd, 1) := by decide +kernel
theorem dX6_digest_155 : decode cX6_digest 155 = .ok (.lstore_n 1, 1) := by decide +kernel
theorem dX6_digest_156 : decode cX6_digest 156 = .ok (.ldc2_w 280, 3) := by decide +kernel
theorem dX6_digest_159 : decode cX6_digest 159 = .ok (.lload_n 1, 1) := by decide +kernel
theorem dX6_digest_160 : decode cX6_digest 160 = .ok (.lmul, 1) := by decide +kernel
theorem dX6_digest_161 : decode cX6_digest 161 = .ok (.aload_n 0, 1) := by decide +kernel
theorem dX6_digest_162 : decode cX6_digest 162 = .ok (.iconst 0, 1) := by decide +kernel
theorem dX6_digest_163 : decode cX6_digest 163 = .ok (.aload_n 0, 1) := by decide +kernel
theorem dX6_digest_164 : decode cX6_digest 164 = .ok (.getfield 10, 3) := by decide +kernel
theorem dX6_digest_167 : decode cX6_digest 167 = .ok (.getfield 62, 3) := by decide +kernel
theorem dX6_digest_170 : decode cX6_digest 170 = .ok (.iconst 1, 1) := by decide +kernel
theorem dX6_digest_171 : decode cX6_digest 171 = .ok (.isub, 1) := by decide +kernel
theorem dX6_digest_172 : decode cX6_digest 172 = .ok (.iconst 0, 1) := by decide +kernel
theorem dX6_digest_173 : decode cX6_digest 173 = .ok (.invokevirtual 294, 3) := by decide +kernel
theorem dX6_digest_176 : decode cX6_digest 176 = .ok (.i2l, 1) := by decide +kernel
theorem dX6_digest_177 : decode cX6_digest 177 = .ok (.ladd, 1) := by decide +kernel
theorem dX6_digest_178 : decode cX6_digest 178 = .ok (.lstore_n 1, 1) := by decide +kernel
theorem dX6_digest_179 : decode cX6_digest 179 = .ok (.ldc2_w 280, 3) := by decide +kernel
theorem dX6_digest_182 : decode cX6_digest 182 = .ok (.lload_n 1, 1) := by decide +kernel
theorem dX6_digest_183 : decode cX6_digest 183 = .ok (.lmul, 1) := by decide +kernel
theorem dX6_digest_184 : decode cX6_digest 184 = .ok (.aload_n 0, 1) := by decide +kernel
theorem dX6_digest_185 : decode cX6_digest 185 = .ok (.iconst 0, 1) := by decide +kernel
theorem dX6_digest_186 : decode cX6_digest 186 = .ok (.aload_n 0, 1) := by decide +kernel
theorem dX6_digest_187 : decode cX6_digest 187 = .ok (.getfield 10, 3) := by decide +kernel
theorem dX6_digest_190 : decode cX6_digest 190 = .ok (.getfield 62, 3) := by decide +kernel
theorem dX6_digest_193 : decode cX6_digest 193 = .ok (.iconst 1, 1) := by decide +kernel
theorem dX6_digest_194 : decode cX6_digest 194 = .ok (.isub, 1) := by decide +kernel
theorem dX6_digest_195 : decode cX6_digest 195 = .ok (.iconst 1, 1) := by decide +kernel
theorem dX6_digest_196 : decode cX6_digest 196 = .ok (.invokevirtual 294, 3) := by decide +kernel
theorem dX6_digest_199 : decode cX6_digest 199 = .ok (.i2l, 1) := by decide +kernel
theorem dX6_digest_200 : decode cX6_digest 200 = .ok (.ladd, 1) := by decide +kernel
theorem dX6_digest_201 : decode cX6_digest 201 = .ok (.lstore_n 1, 1) := by decide +kernel
theorem dX6_digest_202 : decode cX6_digest 202 = .ok (.iconst 0, 1) := by decide +kernel
theorem dX6_digest_203 : decode cX6_digest 203 = .ok (.istore_n 3, 1) := by decide +kernel
theorem dX6_digest_204 : decode cX6_digest 204 = .ok (.iload_n 3, 1) := by decide +kernel
theorem dX6_digest_205 : decode cX6_digest 205 = .ok (.aload_n 0, 1) := by decide +kernel
theorem dX6_digest_206 : decode cX6_digest 206 = .ok (.getfield 25, 3) := by decide +kernel
theorem dX6_digest_209 : decode cX6_digest 209 = .ok (.getfield 160, 3) := by decide +kernel
theorem dX6_digest_212 : decode cX6_digest 212 = .ok (.if_icmp .ge 26, 3) := by decide +kernel
theorem dX6_digest_215 : decode cX6_digest 215 = .ok (.ldc2_w 280, 3) := by decide +kernel
theorem dX6_digest_218 : decode cX6_digest 218 = .ok (.lload_n 1, 1) := by decide +kernel
theorem dX6_digest_219 : decode cX6_digest 219 = .ok (.lmul, 1) := by decide +kernel
theorem dX6_digest_220 : decode cX6_digest 220 = .ok (.aload_n 0, 1) := by decide +kernel
theorem dX6_digest_221 : decode cX6_digest 221 = .ok (.getfield 25, 3) := by decide +kernel
theorem dX6_digest_224 : decode cX6_digest 224 = .ok (.getfield 297, 3) := by decide +kernel
theorem dX6_digest_227 : decode cX6_digest 227 = .ok (.iload_n 3, 1) := by decide +kernel
theorem dX6_digest_228 : decode cX6_digest 228 = .ok (.iaload, 1) := by decide +kernel
theorem dX6_digest_229 : decode cX6_digest 229 = .ok (.i2l, 1) := by decide +kernel
theorem dX6_digest_230 : decode cX6_digest 230 = .ok (.ladd, 1) := by decide +kernel
theorem dX6_digest_231 : decode cX6_digest 231 = .ok (.lstore_n 1, 1) := by decide +kernel
theorem dX6_digest_232 : decode cX6_digest 232 = .ok (.iinc 3 1, 3) := by decide +kernel
theorem dX6_digest_235 : decode cX6_digest 235 = .ok (.goto (-31), 3) := by decide +kernel
theorem dX6_digest_238 : decode cX6_digest 238 = .ok (.iconst 0, 1) := by decide +kernel
theorem dX6_digest_239 : decode cX6_digest 239 = .ok (.istore_n 3, 1) := by decide +kernel
theorem dX6_digest_240 : decode cX6_digest 240 = .ok (.iload_n 3, 1) := by decide +kernel
theorem dX6_digest_241 : decode cX6_digest 241 = .ok (.iconst 5, 1) := by decide +kernel
theorem dX6_digest_242 : decode cX6_digest 242 = .ok (.if_icmp .gt 22, 3) := by decide +kernel
theorem dX6_digest_245 : decode cX6_digest 245 = .ok (.ldc2_w 280, 3) := by decide +kernel
theorem dX6_digest_248 : decode cX6_digest 248 = .ok (.lload_n 1, 1) := by decide +kernel
theorem dX6_digest_249 : decode cX6_digest 249 = .ok (.lmul, 1) := by decide +kernel
theorem dX6_digest_250 : decode cX6_digest 250 = .ok (.aload_n 0, 1) := by decide +kernel
theorem dX6_digest_251 : decode cX6_digest 251 = .ok (.iload_n 3, 1) := by decide +kernel
theorem dX6_digest_252 : decode cX6_digest 252 = .ok (.invokevirtual 300, 3) := by decide +kernel
theorem dX6_digest_255 : decode cX6_digest 255 = .ok (.i2l, 1) := by decide +kernel
theorem dX6_digest_256 : decode cX6_digest 256 = .ok (.ladd, 1) := by decide +kernel
theorem dX6_digest_257 : decode cX6_digest 257 = .ok (.lstore_n 1, 1) := by decide +kernel
theorem dX6_digest_258 : decode cX6_digest 258 = .ok (.iinc 3 1, 3) := by decide +kernel
theorem dX6_digest_261 : decode cX6_digest 261 = .ok (.goto (-21), 3) := by decide +kernel
theorem dX6_digest_264 : decode cX6_digest 264 = .ok (.lload_n 1, 1) := by decide +kernel
theorem dX6_digest_265 : decode cX6_digest 265 = .ok (.lreturn, 1) := by decide +kernel
theorem dX6_within_0 : decode cX6_within 0 = .ok (.iload_n 0, 1) := by decide +kernel
theorem dX6_within_1 : decode cX6_within 1 = .ok (.iload_n 1, 1) := by decide +kernel
theorem dX6_within_2 : decode cX6_within 2 = .ok (.if_icmp .lt 12, 3) := by decide +kernel
theorem dX6_within_5 : decode cX6_within 5 = .ok (.iload_n 0, 1) := by decide +kernel
theorem dX6_within_6 : decode cX6_within 6 = .ok (.iload_n 2, 1) := by decide +kernel
theorem dX6_within_7 : decode cX6_within 7 = .ok (.if_icmp .gt 7, 3) := by decide +kernel
theorem dX6_within_10 : decode cX6_within 10 = .ok (.iconst 1, 1) := by decide +kernel
theorem dX6_within_11 : decode cX6_within 11 = .ok (.goto 4, 3) := by decide +kernel
theorem dX6_within_14 : decode cX6_within 14 = .ok (.iconst 0, 1) := by decide +kernel
theorem dX6_within_15 : decode cX6_within 15 = .ok (.ireturn, 1) := by decide +kernel
theorem dX6_isKind_0 : decode cX6_isKind 0 = .ok (.iload_n 0, 1) := by decide +kernel
theorem dX6_isKind_1 : decode cX6_isKind 1 = .ok (.iconst 0, 1) := by decide +kernel
theorem dX6_isKind_2 : decode cX6_isKind 2 = .ok (.iconst 4, 1) := by decide +kernel
theorem dX6_isKind_3 : decode cX6_isKind 3 = .ok (.invokestatic 54, 3) := by decide +kernel
theorem dX6_isKind_6 : decode cX6_isKind 6 = .ok (.ireturn, 1) := by decide +kernel
theorem dX6_isPerson_0 : decode cX6_isPerson 0 = .ok (.iload_n 0, 1) := by decide +kernel
theorem dX6_isPerson_1 : decode cX6_isPerson 1 = .ok (.iconst 0, 1) := by decide +kernel
theorem dX6_isPerson_2 : decode cX6_isPerson 2 = .ok (.iconst 5, 1) := by decide +kernel
theorem dX6_isPerson_3 : decode cX6_isPerson 3 = .ok (.invokestatic 54, 3) := by decide +kernel
theorem dX6_isPerson_6 : decode cX6_isPerson 6 = .ok (.ireturn, 1) := by decide +kernel
theorem dX6_arePair_0 : decode cX6_arePair 0 = .ok (.iload_n 0, 1) := by decide +kernel
theorem dX6_arePair_1 : decode cX6_arePair 1 = .ok (.invokestatic 195, 3) := by decide +kernel
theorem dX6_arePair_4 : decode cX6_arePair 4 = .ok (.ifCond .eq 19, 3) := by decide +kernel
theorem dX6_arePair_7 : decode cX6_arePair 7 = .ok (.iload_n 1, 1) := by decide +kernel
theorem dX6_arePair_8 : decode cX6_arePair 8 = .ok (.invokestatic 195, 3) := by decide +kernel
theorem dX6_arePair_11 : decode cX6_arePair 11 = .ok (.ifCond .eq 12, 3) := by decide +kernel
theorem dX6_arePair_14 : decode cX6_arePair 14 = .ok (.iload_n 0, 1) := by decide +kernel
theorem dX6_arePair_15 : decode cX6_arePair 15 = .ok (.iload_n 1, 1) := by decide +kernel
theorem dX6_arePair_16 : decode cX6_arePair 16 = .ok (.if_icmp .eq 7, 3) := by decide +kernel
theorem dX6_arePair_19 : decode cX6_arePair 19 = .ok (.iconst 1, 1) := by decide +kernel
theorem dX6_arePair_20 : decode cX6_arePair 20 = .ok (.goto 4, 3) := by decide +kernel
theorem dX6_arePair_23 : decode cX6_arePair 23 = .ok (.iconst 0, 1) := by decide +kernel
theorem dX6_arePair_24 : decode cX6_arePair 24 = .ok (.ireturn, 1) := by decide +kernel
theorem dX6_iceBehind_0 : decode cX6_iceBehind 0 = .ok (.iload_n 0, 1) := by decide +kernel
theorem dX6_iceBehind_1 : decode cX6_iceBehind 1 = .ok (.ifCond .ne 12, 3) := by decide +kernel
theorem dX6_iceBehind_4 : decode cX6_iceBehind 4 = .ok (.bipush 99, 2) := by decide +kernel
theorem dX6_iceBehind_6 : decode cX6_iceBehind 6 = .ok (.iload_n 2, 1) := by decide +kernel
theorem dX6_iceBehind_7 : decode cX6_iceBehind 7 = .ok (.iload_n 1, 1) := by decide +kernel
theorem dX6_iceBehind_8 : decode cX6_iceBehind 8 = .ok (.iadd, 1) := by decide +kernel
theorem dX6_iceBehind_9 : decode cX6_iceBehind 9 = .ok (.invokestatic 303, 3) := by decide +kernel
theorem dX6_iceBehind_12 : decode cX6_iceBehind 12 = .ok (.ireturn, 1) := by decide +kernel
theorem dX6_iceBehind_13 : decode cX6_iceBehind 13 = .ok (.iload_n 0, 1) := by decide +kernel
theorem dX6_iceBehind_14 : decode cX6_iceBehind 14 = .ok (.iconst 1, 1) := by decide +kernel
theorem dX6_iceBehind_15 : decode cX6_iceBehind 15 = .ok (.if_icmp .ne 13, 3) := by decide +kernel
theorem dX6_iceBehind_18 : decode cX6_iceBehind 18 = .ok (.iconst 0, 1) := by decide +kernel
theorem dX6_iceBehind_19 : decode cX6_iceBehind 19 = .ok (.iload_n 2, 1) := by decide +kernel
theorem dX6_iceBehind_20 : decode cX6_iceBehind 20 = .ok (.iload_n 1, 1) := by decide +kernel
theorem dX6_iceBehind_21 : decode cX6_iceBehind 21 = .ok (.isub, 1) := by decide +kernel
theorem dX6_iceBehind_22 : decode cX6_iceBehind 22 = .ok (.invokestatic 308, 3) := by decide +kernel
theorem dX6_iceBehind_25 : decode cX6_iceBehind 25 = .ok (.goto 4, 3) := by decide +kernel
theorem dX6_iceBehind_28 : decode cX6_iceBehind 28 = .ok (.iload_n 2, 1) := by decide +kernel
theorem dX6_iceBehind_29 : decode cX6_iceBehind 29 = .ok (.ireturn, 1) := by decide +kernel
theorem dX6_power_0 : decode cX6_power 0 = .ok (.lconst 1, 1) := by decide +kernel
theorem dX6_power_1 : decode cX6_power 1 = .ok (.lstore_n 2, 1) := by decide +kernel
theorem dX6_power_2 : decode cX6_power 2 = .ok (.iconst 0, 1) := by decide +kernel
theorem dX6_power_3 : decode cX6_power 3 = .ok (.istore 4, 2) := by decide +kernel
theorem dX6_power_5 : decode cX6_power 5 = .ok (.iload 4, 2) := by decide +kernel
theorem dX6_power_7 : decode cX6_power 7 = .ok (.iload_n 1, 1) := by decide +kernel
theorem dX6_power_8 : decode cX6_power 8 = .ok (.if_icmp .ge 14, 3) := by decide +kernel
theorem dX6_power_11 : decode cX6_power 11 = .ok (.lload_n 2, 1) := by decide +kernel
theorem dX6_power_12 : decode cX6_power 12 = .ok (.iload_n 0, 1) := by decide +kernel
theorem dX6_power_13 : decode cX6_power 13 = .ok (.i2l, 1) := by decide +kernel
theorem dX6_power_14 : decode cX6_power 14 = .ok (.lmul, 1) := by decide +kernel
theorem dX6_power_15 : decode cX6_power 15 = .ok (.lstore_n 2, 1) := by decide +kernel
theorem dX6_power_16 : decode cX6_power 16 = .ok (.iinc 4 1, 3) := by decide +kernel
theorem dX6_power_19 : decode cX6_power 19 = .ok (.goto (-14), 3) := by decide +kernel
theorem dX6_power_22 : decode cX6_power 22 = .ok (.lload_n 2, 1) := by decide +kernel
theorem dX6_power_23 : decode cX6_power 23 = .ok (.lreturn, 1) := by decide +kernel
theorem dX6_choose_0 : decode cX6_choose 0 = .ok (.lconst 1, 1) := by decide +kernel
theorem dX6_choose_1 : decode cX6_choose 1 = .ok (.lstore_n 2, 1) := by decide +kernel
theorem dX6_choose_2 : decode cX6_choose 2 = .ok (.iconst 1, 1) := by decide +kernel
theorem dX6_choose_3 : decode cX6_choose 3 = .ok (.istore 4, 2) := by decide +kernel
theorem dX6_choose_5 : decode cX6_choose 5 = .ok (.iload 4, 2) := by decide +kernel
theorem dX6_choose_7 : decode cX6_choose 7 = .ok (.iload_n 1, 1) := by decide +kernel
theorem dX6_choose_8 : decode cX6_choose 8 = .ok (.if_icmp .gt 23, 3) := by decide +kernel
theorem dX6_choose_11 : decode cX6_choose 11 = .ok (.lload_n 2, 1) := by decide +kernel
theorem dX6_choose_12 : decode cX6_choose 12 = .ok (.iload_n 0, 1) := by decide +kernel
theorem dX6_choose_13 : decode cX6_choose 13 = .ok (.iload_n 1, 1) := by decide +kernel
theorem dX6_choose_14 : decode cX6_choose 14 = .ok (.isub, 1) := by decide +kernel
theorem dX6_choose_15 : decode cX6_choose 15 = .ok (.iload 4, 2) := by decide +kernel
theorem dX6_choose_17 : decode cX6_choose 17 = .ok (.iadd, 1) := by decide +kernel
theorem dX6_choose_18 : decode cX6_choose 18 = .ok (.i2l, 1) := by decide +kernel
theorem dX6_choose_19 : decode cX6_choose 19 = .ok (.lmul, 1) := by decide +kernel
