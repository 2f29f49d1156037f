theorem dX7_groupsOf_58 : decode cX7_groupsOf 58 = .ok (.iaload, 1) := by decide +kernel
theorem dX7_groupsOf_59 : decode cX7_groupsOf 59 = .ok (.goto 4, 3) := by decide +kernel
theorem dX7_groupsOf_62 : decode cX7_groupsOf 62 = .ok (.iconst 0, 1) := by decide +kernel
theorem dX7_groupsOf_63 : decode cX7_groupsOf 63 = .ok (.iadd, 1) := by decide +kernel
theorem dX7_groupsOf_64 : decode cX7_groupsOf 64 = .ok (.istore_n 2, 1) := by decide +kernel
theorem dX7_groupsOf_65 : decode cX7_groupsOf 65 = .ok (.iinc 3 1, 3) := by decide +kernel
theorem dX7_groupsOf_68 : decode cX7_groupsOf 68 = .ok (.goto (-31), 3) := by decide +kernel
theorem dX7_groupsOf_71 : decode cX7_groupsOf 71 = .ok (.iload_n 2, 1) := by decide +kernel
theorem dX7_groupsOf_72 : decode cX7_groupsOf 72 = .ok (.ifCond .ne 7, 3) := by decide +kernel
theorem dX7_groupsOf_75 : decode cX7_groupsOf 75 = .ok (.iconst 1, 1) := by decide +kernel
theorem dX7_groupsOf_76 : decode cX7_groupsOf 76 = .ok (.goto 4, 3) := by decide +kernel
theorem dX7_groupsOf_79 : decode cX7_groupsOf 79 = .ok (.iconst (-1), 1) := by decide +kernel
theorem dX7_groupsOf_80 : decode cX7_groupsOf 80 = .ok (.istore_n 3, 1) := by decide +kernel
theorem dX7_groupsOf_81 : decode cX7_groupsOf 81 = .ok (.iload_n 1, 1) := by decide +kernel
theorem dX7_groupsOf_82 : decode cX7_groupsOf 82 = .ok (.iconst 1, 1) := by decide +kernel
theorem dX7_groupsOf_83 : decode cX7_groupsOf 83 = .ok (.isub, 1) := by decide +kernel
theorem dX7_groupsOf_84 : decode cX7_groupsOf 84 = .ok (.iload_n 1, 1) := by decide +kernel
theorem dX7_groupsOf_85 : decode cX7_groupsOf 85 = .ok (.iand, 1) := by decide +kernel
theorem dX7_groupsOf_86 : decode cX7_groupsOf 86 = .ok (.istore 4, 2) := by decide +kernel
theorem dX7_groupsOf_88 : decode cX7_groupsOf 88 = .ok (.iload 4, 2) := by decide +kernel
theorem dX7_groupsOf_90 : decode cX7_groupsOf 90 = .ok (.ifCond .le 84, 3) := by decide +kernel
theorem dX7_groupsOf_93 : decode cX7_groupsOf 93 = .ok (.aload_n 0, 1) := by decide +kernel
theorem dX7_groupsOf_94 : decode cX7_groupsOf 94 = .ok (.getfield 31, 3) := by decide +kernel
theorem dX7_groupsOf_97 : decode cX7_groupsOf 97 = .ok (.iload 4, 2) := by decide +kernel
theorem dX7_groupsOf_99 : decode cX7_groupsOf 99 = .ok (.iaload, 1) := by decide +kernel
theorem dX7_groupsOf_100 : decode cX7_groupsOf 100 = .ok (.ifCond .le 19, 3) := by decide +kernel
theorem dX7_groupsOf_103 : decode cX7_groupsOf 103 = .ok (.aload_n 0, 1) := by decide +kernel
theorem dX7_groupsOf_104 : decode cX7_groupsOf 104 = .ok (.getfield 31, 3) := by decide +kernel
theorem dX7_groupsOf_107 : decode cX7_groupsOf 107 = .ok (.iload_n 1, 1) := by decide +kernel
theorem dX7_groupsOf_108 : decode cX7_groupsOf 108 = .ok (.iload 4, 2) := by decide +kernel
theorem dX7_groupsOf_110 : decode cX7_groupsOf 110 = .ok (.isub, 1) := by decide +kernel
theorem dX7_groupsOf_111 : decode cX7_groupsOf 111 = .ok (.iaload, 1) := by decide +kernel
theorem dX7_groupsOf_112 : decode cX7_groupsOf 112 = .ok (.ifCond .le 7, 3) := by decide +kernel
theorem dX7_groupsOf_115 : decode cX7_groupsOf 115 = .ok (.iconst 1, 1) := by decide +kernel
theorem dX7_groupsOf_116 : decode cX7_groupsOf 116 = .ok (.goto 4, 3) := by decide +kernel
theorem dX7_groupsOf_119 : decode cX7_groupsOf 119 = .ok (.iconst 0, 1) := by decide +kernel
theorem dX7_groupsOf_120 : decode cX7_groupsOf 120 = .ok (.istore 5, 2) := by decide +kernel
theorem dX7_groupsOf_122 : decode cX7_groupsOf 122 = .ok (.iload 5, 2) := by decide +kernel
theorem dX7_groupsOf_124 : decode cX7_groupsOf 124 = .ok (.ifCond .eq 23, 3) := by decide +kernel
theorem dX7_groupsOf_127 : decode cX7_groupsOf 127 = .ok (.aload_n 0, 1) := by decide +kernel
theorem dX7_groupsOf_128 : decode cX7_groupsOf 128 = .ok (.getfield 31, 3) := by decide +kernel
theorem dX7_groupsOf_131 : decode cX7_groupsOf 131 = .ok (.iload 4, 2) := by decide +kernel
theorem dX7_groupsOf_133 : decode cX7_groupsOf 133 = .ok (.iaload, 1) := by decide +kernel
theorem dX7_groupsOf_134 : decode cX7_groupsOf 134 = .ok (.aload_n 0, 1) := by decide +kernel
theorem dX7_groupsOf_135 : decode cX7_groupsOf 135 = .ok (.getfield 31, 3) := by decide +kernel
theorem dX7_groupsOf_138 : decode cX7_groupsOf 138 = .ok (.iload_n 1, 1) := by decide +kernel
theorem dX7_groupsOf_139 : decode cX7_groupsOf 139 = .ok (.iload 4, 2) := by decide +kernel
theorem dX7_groupsOf_141 : decode cX7_groupsOf 141 = .ok (.isub, 1) := by decide +kernel
theorem dX7_groupsOf_142 : decode cX7_groupsOf 142 = .ok (.iaload, 1) := by decide +kernel
theorem dX7_groupsOf_143 : decode cX7_groupsOf 143 = .ok (.iadd, 1) := by decide +kernel
theorem dX7_groupsOf_144 : decode cX7_groupsOf 144 = .ok (.goto 4, 3) := by decide +kernel
theorem dX7_groupsOf_147 : decode cX7_groupsOf 147 = .ok (.iconst (-1), 1) := by decide +kernel
theorem dX7_groupsOf_148 : decode cX7_groupsOf 148 = .ok (.istore 6, 2) := by decide +kernel
theorem dX7_groupsOf_150 : decode cX7_groupsOf 150 = .ok (.iload 6, 2) := by decide +kernel
theorem dX7_groupsOf_152 : decode cX7_groupsOf 152 = .ok (.iload_n 3, 1) := by decide +kernel
theorem dX7_groupsOf_153 : decode cX7_groupsOf 153 = .ok (.if_icmp .le 8, 3) := by decide +kernel
theorem dX7_groupsOf_156 : decode cX7_groupsOf 156 = .ok (.iload 6, 2) := by decide +kernel
theorem dX7_groupsOf_158 : decode cX7_groupsOf 158 = .ok (.goto 4, 3) := by decide +kernel
theorem dX7_groupsOf_161 : decode cX7_groupsOf 161 = .ok (.iload_n 3, 1) := by decide +kernel
theorem dX7_groupsOf_162 : decode cX7_groupsOf 162 = .ok (.istore_n 3, 1) := by decide +kernel
theorem dX7_groupsOf_163 : decode cX7_groupsOf 163 = .ok (.iload 4, 2) := by decide +kernel
theorem dX7_groupsOf_165 : decode cX7_groupsOf 165 = .ok (.iconst 1, 1) := by decide +kernel
theorem dX7_groupsOf_166 : decode cX7_groupsOf 166 = .ok (.isub, 1) := by decide +kernel
theorem dX7_groupsOf_167 : decode cX7_groupsOf 167 = .ok (.iload_n 1, 1) := by decide +kernel
theorem dX7_groupsOf_168 : decode cX7_groupsOf 168 = .ok (.iand, 1) := by decide +kernel
theorem dX7_groupsOf_169 : decode cX7_groupsOf 169 = .ok (.istore 4, 2) := by decide +kernel
theorem dX7_groupsOf_171 : decode cX7_groupsOf 171 = .ok (.goto (-83), 3) := by decide +kernel
theorem dX7_groupsOf_174 : decode cX7_groupsOf 174 = .ok (.aload_n 0, 1) := by decide +kernel
theorem dX7_groupsOf_175 : decode cX7_groupsOf 175 = .ok (.getfield 31, 3) := by decide +kernel
theorem dX7_groupsOf_178 : decode cX7_groupsOf 178 = .ok (.iload_n 1, 1) := by decide +kernel
theorem dX7_groupsOf_179 : decode cX7_groupsOf 179 = .ok (.iload_n 3, 1) := by decide +kernel
theorem dX7_groupsOf_180 : decode cX7_groupsOf 180 = .ok (.iastore, 1) := by decide +kernel
theorem dX7_groupsOf_181 : decode cX7_groupsOf 181 = .ok (.iinc 1 1, 3) := by decide +kernel
theorem dX7_groupsOf_184 : decode cX7_groupsOf 184 = .ok (.goto (-157), 3) := by decide +kernel
theorem dX7_groupsOf_187 : decode cX7_groupsOf 187 = .ok (.aload_n 0, 1) := by decide +kernel
theorem dX7_groupsOf_188 : decode cX7_groupsOf 188 = .ok (.getfield 31, 3) := by decide +kernel
theorem dX7_groupsOf_191 : decode cX7_groupsOf 191 = .ok (.bipush 63, 2) := by decide +kernel
theorem dX7_groupsOf_193 : decode cX7_groupsOf 193 = .ok (.iaload, 1) := by decide +kernel
theorem dX7_groupsOf_194 : decode cX7_groupsOf 194 = .ok (.ireturn, 1) := by decide +kernel
theorem dX7_settled_0 : decode cX7_settled 0 = .ok (.iload_n 1, 1) := by decide +kernel
theorem dX7_settled_1 : decode cX7_settled 1 = .ok (.i2l, 1) := by decide +kernel
theorem dX7_settled_2 : decode cX7_settled 2 = .ok (.lconst 0, 1) := by decide +kernel
theorem dX7_settled_3 : decode cX7_settled 3 = .ok (.lconst 1, 1) := by decide +kernel
theorem dX7_settled_4 : decode cX7_settled 4 = .ok (.invokestatic 75, 3) := by decide +kernel
theorem dX7_settled_7 : decode cX7_settled 7 = .ok (.ifCond .ne 6, 3) := by decide +kernel
theorem dX7_settled_10 : decode cX7_settled 10 = .ok (.bipush (-102), 2) := by decide +kernel
theorem dX7_settled_12 : decode cX7_settled 12 = .ok (.ireturn, 1) := by decide +kernel
theorem dX7_settled_13 : decode cX7_settled 13 = .ok (.aload_n 0, 1) := by decide +kernel
theorem dX7_settled_14 : decode cX7_settled 14 = .ok (.invokevirtual 208, 3) := by decide +kernel
theorem dX7_settled_17 : decode cX7_settled 17 = .ok (.istore_n 2, 1) := by decide +kernel
theorem dX7_settled_18 : decode cX7_settled 18 = .ok (.iload_n 1, 1) := by decide +kernel
theorem dX7_settled_19 : decode cX7_settled 19 = .ok (.ifCond .ne 10, 3) := by decide +kernel
theorem dX7_settled_22 : decode cX7_settled 22 = .ok (.bipush 6, 2) := by decide +kernel
theorem dX7_settled_24 : decode cX7_settled 24 = .ok (.iload_n 2, 1) := by decide +kernel
theorem dX7_settled_25 : decode cX7_settled 25 = .ok (.isub, 1) := by decide +kernel
theorem dX7_settled_26 : decode cX7_settled 26 = .ok (.goto 4, 3) := by decide +kernel
theorem dX7_settled_29 : decode cX7_settled 29 = .ok (.iload_n 2, 1) := by decide +kernel
theorem dX7_settled_30 : decode cX7_settled 30 = .ok (.ireturn, 1) := by decide +kernel
theorem dX7_readIn_0 : decode cX7_readIn 0 = .ok (.iconst 0, 1) := by decide +kernel
theorem dX7_readIn_1 : decode cX7_readIn 1 = .ok (.istore_n 2, 1) := by decide +kernel
theorem dX7_readIn_2 : decode cX7_readIn 2 = .ok (.iconst 0, 1) := by decide +kernel
theorem dX7_readIn_3 : decode cX7_readIn 3 = .ok (.istore_n 3, 1) := by decide +kernel
theorem dX7_readIn_4 : decode cX7_readIn 4 = .ok (.iload_n 3, 1) := by decide +kernel
theorem dX7_readIn_5 : decode cX7_readIn 5 = .ok (.aload_n 0, 1) := by decide +kernel
theorem dX7_readIn_6 : decode cX7_readIn 6 = .ok (.getfield 79, 3) := by decide +kernel
theorem dX7_readIn_9 : decode cX7_readIn 9 = .ok (.if_icmp .ge 45, 3) := by decide +kernel
theorem dX7_readIn_12 : decode cX7_readIn 12 = .ok (.iload_n 2, 1) := by decide +kernel
theorem dX7_readIn_13 : decode cX7_readIn 13 = .ok (.aload_n 0, 1) := by decide +kernel
theorem dX7_readIn_14 : decode cX7_readIn 14 = .ok (.getfield 16, 3) := by decide +kernel
theorem dX7_readIn_17 : decode cX7_readIn 17 = .ok (.bipush 8, 2) := by decide +kernel
theorem dX7_readIn_19 : decode cX7_readIn 19 = .ok (.iload_n 3, 1) := by decide +kernel
theorem dX7_readIn_20 : decode cX7_readIn 20 = .ok (.imul, 1) := by decide +kernel
theorem dX7_readIn_21 : decode cX7_readIn 21 = .ok (.iconst 1, 1) := by decide +kernel
theorem dX7_readIn_22 : decode cX7_readIn 22 = .ok (.iadd, 1) := by decide +kernel
theorem dX7_readIn_23 : decode cX7_readIn 23 = .ok (.iaload, 1) := by decide +kernel
theorem dX7_readIn_24 : decode cX7_readIn 24 = .ok (.iload_n 1, 1) := by decide +kernel
theorem dX7_readIn_25 : decode cX7_readIn 25 = .ok (.if_icmp .ne 20, 3) := by decide +kernel
theorem dX7_readIn_28 : decode cX7_readIn 28 = .ok (.aload_n 0, 1) := by decide +kernel
theorem dX7_readIn_29 : decode cX7_readIn 29 = .ok (.iload_n 3, 1) := by decide +kernel
theorem dX7_readIn_30 : decode cX7_readIn 30 = .ok (.invokevirtual 126, 3) := by decide +kernel
theorem dX7_readIn_33 : decode cX7_readIn 33 = .ok (.iconst 2, 1) := by decide +kernel
theorem dX7_readIn_34 : decode cX7_readIn 34 = .ok (.if_icmp .ne 11, 3) := by decide +kernel
theorem dX7_readIn_37 : decode cX7_readIn 37 = .ok (.aload_n 0, 1) := by decide +kernel
theorem dX7_readIn_38 : decode cX7_readIn 38 = .ok (.iload_n 3, 1) := by decide +kernel
theorem dX7_readIn_39 : decode cX7_readIn 39 = .ok (.invokevirtual 123, 3) := by decide +kernel
theorem dX7_readIn_42 : decode cX7_readIn 42 = .ok (.goto 4, 3) := by decide +kernel
theorem dX7_readIn_45 : decode cX7_readIn 45 = .ok (.iconst 0, 1) := by decide +kernel
theorem dX7_readIn_46 : decode cX7_readIn 46 = .ok (.iadd, 1) := by decide +kernel
theorem dX7_readIn_47 : decode cX7_readIn 47 = .ok (.istore_n 2, 1) := by decide +kernel
theorem dX7_readIn_48 : decode cX7_readIn 48 = .ok (.iinc 3 1, 3) := by decide +kernel
theorem dX7_readIn_51 : decode cX7_readIn 51 = .ok (.goto (-47), 3) := by decide +kernel
theorem dX7_readIn_54 : decode cX7_readIn 54 = .ok (.iload_n 2, 1) := by decide +kernel
theorem dX7_readIn_55 : decode cX7_readIn 55 = .ok (.ireturn, 1) := by decide +kernel
theorem dX7_areBeside_0 : decode cX7_areBeside 0 = .ok (.iload_n 1, 1) := by decide +kernel
theorem dX7_areBeside_1 : decode cX7_areBeside 1 = .ok (.aload_n 0, 1) := by decide +kernel
theorem dX7_areBeside_2 : decode cX7_areBeside 2 = .ok (.getfield 68, 3) := by decide +kernel
theorem dX7_areBeside_5 : decode cX7_areBeside 5 = .ok (.idiv, 1) := by decide +kernel
theorem dX7_areBeside_6 : decode cX7_areBeside 6 = .ok (.iload_n 2, 1) := by decide +kernel
theorem dX7_areBeside_7 : decode cX7_areBeside 7 = .ok (.aload_n 0, 1) := by decide +kernel
theorem dX7_areBeside_8 : decode cX7_areBeside 8 = .ok (.getfield 68, 3) := by decide +kernel
theorem dX7_areBeside_11 : decode cX7_areBeside 11 = .ok (.idiv, 1) := by decide +kernel
theorem dX7_areBeside_12 : decode cX7_areBeside 12 = .ok (.isub, 1) := by decide +kernel
theorem dX7_areBeside_13 : decode cX7_areBeside 13 = .ok (.istore_n 3, 1) := by decide +kernel
theorem dX7_areBeside_14 : decode cX7_areBeside 14 = .ok (.iload_n 1, 1) := by decide +kernel
theorem dX7_areBeside_15 : decode cX7_areBeside 15 = .ok (.aload_n 0, 1) := by decide +kernel
theorem dX7_areBeside_16 : decode cX7_areBeside 16 = .ok (.getfield 68, 3) := by decide +kernel
theorem dX7_areBeside_19 : decode cX7_areBeside 19 = .ok (.irem, 1) := by decide +kernel
theorem dX7_areBeside_20 : decode cX7_areBeside 20 = .ok (.iload_n 2, 1) := by decide +kernel
theorem dX7_areBeside_21 : decode cX7_areBeside 21 = .ok (.aload_n 0, 1) := by decide +kernel
theorem dX7_areBeside_22 : decode cX7_areBeside 22 = .ok (.getfield 68, 3) := by decide +kernel
theorem dX7_areBeside_25 : decode cX7_areBeside 25 = .ok (.irem, 1) := by decide +kernel
theorem dX7_areBeside_26 : decode cX7_areBeside 26 = .ok (.isub, 1) := by decide +kernel
theorem dX7_areBeside_27 : decode cX7_areBeside 27 = .ok (.istore 4, 2) := by decide +kernel
theorem dX7_areBeside_29 : decode cX7_areBeside 29 = .ok (.iload_n 3, 1) := by decide +kernel
theorem dX7_areBeside_30 : decode cX7_areBeside 30 = .ok (.iload_n 3, 1) := by decide +kernel
theorem dX7_areBeside_31 : decode cX7_areBeside 31 = .ok (.imul, 1) := by decide +kernel
theorem dX7_areBeside_32 : decode cX7_areBeside 32 = .ok (.iload 4, 2) := by decide +kernel
theorem dX7_areBeside_34 : decode cX7_areBeside 34 = .ok (.iload 4, 2) := by decide +kernel
theorem dX7_areBeside_36 : decode cX7_areBeside 36 = .ok (.imul, 1) := by decide +kernel
theorem dX7_areBeside_37 : decode cX7_areBeside 37 = .ok (.iadd, 1) := by decide +kernel
theorem dX7_areBeside_38 : decode cX7_areBeside 38 = .ok (.iconst 1, 1) := by decide +kernel
theorem dX7_areBeside_39 : decode cX7_areBeside 39 = .ok (.if_icmp .ne 7, 3) := by decide +kernel
theorem dX7_areBeside_42 : decode cX7_areBeside 42 = .ok (.iconst 1, 1) := by decide +kernel
theorem dX7_areBeside_43 : decode cX7_areBeside 43 = .ok (.goto 4, 3) := by decide +kernel
theorem dX7_areBeside_46 : decode cX7_areBeside 46 = .ok (.iconst 0, 1) := by decide +kernel
theorem dX7_areBeside_47 : decode cX7_areBeside 47 = .ok (.ireturn, 1) := by decide +kernel
theorem dX7_tellSkate_0 : decode cX7_tellSkate 0 = .ok (.iconst 0, 1) := by decide +kernel
theorem dX7_tellSkate_1 : decode cX7_tellSkate 1 = .ok (.istore 4, 2) := by decide +kernel
theorem dX7_tellSkate_3 : decode cX7_tellSkate 3 = .ok (.iload 4, 2) := by decide +kernel
theorem dX7_tellSkate_5 : decode cX7_tellSkate 5 = .ok (.bipush 16, 2) := by decide +kernel
theorem dX7_tellSkate_7 : decode cX7_tellSkate 7 = .ok (.if_icmp .ge 50, 3) := by decide +kernel
theorem dX7_tellSkate_10 : decode cX7_tellSkate 10 = .ok (.aload_n 0, 1) := by decide +kernel
theorem dX7_tellSkate_11 : decode cX7_tellSkate 11 = .ok (.getfield 37, 3) := by decide +kernel
theorem dX7_tellSkate_14 : decode cX7_tellSkate 14 = .ok (.iload 4, 2) := by decide +kernel
theorem dX7_tellSkate_16 : decode cX7_tellSkate 16 = .ok (.iload 4, 2) := by decide +kernel
theorem dX7_tellSkate_18 : decode cX7_tellSkate 18 = .ok (.iload_n 1, 1) := by decide +kernel
theorem dX7_tellSkate_19 : decode cX7_tellSkate 19 = .ok (.if_icmp .ne 16, 3) := by decide +kernel
theorem dX7_tellSkate_22 : decode cX7_tellSkate 22 = .ok (.aload_n 0, 1) := by decide +kernel
theorem dX7_tellSkate_23 : decode cX7_tellSkate 23 = .ok (.iload 4, 2) := by decide +kernel
theorem dX7_tellSkate_25 : decode cX7_tellSkate 25 = .ok (.invokevirtual 107, 3) := by decide +kernel
theorem dX7_tellSkate_28 : decode cX7_tellSkate 28 = .ok (.ifCond .eq 7, 3) := by decide +kernel
theorem dX7_tellSkate_31 : decode cX7_tellSkate 31 = .ok (.iconst 0, 1) := by decide +kernel
theorem dX7_tellSkate_32 : decode cX7_tellSkate 32 = .ok (.goto 5, 3) := by decide +kernel
theorem dX7_tellSkate_35 : decode cX7_tellSkate 35 = .ok (.bipush 99, 2) := by decide +kernel
theorem dX7_tellSkate_37 : decode cX7_tellSkate 37 = .ok (.iastore, 1) := by decide +kernel
theorem dX7_tellSkate_38 : decode cX7_tellSkate 38 = .ok (.aload_n 0, 1) := by decide +kernel
theorem dX7_tellSkate_39 : decode cX7_tellSkate 39 = .ok (.getfield 40, 3) := by decide +kernel
theorem dX7_tellSkate_42 : decode cX7_tellSkate 42 = .ok (.iload 4, 2) := by decide +kernel
theorem dX7_tellSkate_44 : decode cX7_tellSkate 44 = .ok (.aload_n 0, 1) := by decide +kernel
theorem dX7_tellSkate_45 : decode cX7_tellSkate 45 = .ok (.iload 4, 2) := by decide +kernel
theorem dX7_tellSkate_47 : decode cX7_tellSkate 47 = .ok (.invokevirtual 211, 3) := by decide +kernel
theorem dX7_tellSkate_50 : decode cX7_tellSkate 50 = .ok (.iastore, 1) := by decide +kernel
theorem dX7_tellSkate_51 : decode cX7_tellSkate 51 = .ok (.iinc 4 1, 3) := by decide +kernel
theorem dX7_tellSkate_54 : decode cX7_tellSkate 54 = .ok (.goto (-51), 3) := by decide +kernel
theorem dX7_tellSkate_57 : decode cX7_tellSkate 57 = .ok (.aload_n 0, 1) := by decide +kernel
theorem dX7_tellSkate_58 : decode cX7_tellSkate 58 = .ok (.getfield 37, 3) := by decide +kernel
theorem dX7_tellSkate_61 : decode cX7_tellSkate 61 = .ok (.iload_n 1, 1) := by decide +kernel
theorem dX7_tellSkate_62 : decode cX7_tellSkate 62 = .ok (.iaload, 1) := by decide +kernel
theorem dX7_tellSkate_63 : decode cX7_tellSkate 63 = .ok (.ifCond .ne 7, 3) := by decide +kernel
theorem dX7_tellSkate_66 : decode cX7_tellSkate 66 = .ok (.iconst 1, 1) := by decide +kernel
theorem dX7_tellSkate_67 : decode cX7_tellSkate 67 = .ok (.goto 4, 3) := by decide +kernel
theorem dX7_tellSkate_70 : decode cX7_tellSkate 70 = .ok (.iconst 0, 1) := by decide +kernel
theorem dX7_tellSkate_71 : decode cX7_tellSkate 71 = .ok (.istore 4, 2) := by decide +kernel
theorem dX7_tellSkate_73 : decode cX7_tellSkate 73 = .ok (.iconst 1, 1) := by decide +kernel
theorem dX7_tellSkate_74 : decode cX7_tellSkate 74 = .ok (.istore 5, 2) := by decide +kernel
theorem dX7_tellSkate_76 : decode cX7_tellSkate 76 = .ok (.iload 4, 2) := by decide +kernel
theorem dX7_tellSkate_78 : decode cX7_tellSkate 78 = .ok (.ifCond .le 153, 3) := by decide +kernel
theorem dX7_tellSkate_81 : decode cX7_tellSkate 81 = .ok (.iconst 0, 1) := by decide +kernel
theorem dX7_tellSkate_82 : decode cX7_tellSkate 82 = .ok (.istore 4, 2) := by decide +kernel
theorem dX7_tellSkate_84 : decode cX7_tellSkate 84 = .ok (.iconst 0, 1) := by decide +kernel
theorem dX7_tellSkate_85 : decode cX7_tellSkate 85 = .ok (.istore 6, 2) := by decide +kernel
theorem dX7_tellSkate_87 : decode cX7_tellSkate 87 = .ok (.iload 6, 2) := by decide +kernel
theorem dX7_tellSkate_89 : decode cX7_tellSkate 89 = .ok (.aload_n 0, 1) := by decide +kernel
theorem dX7_tellSkate_90 : decode cX7_tellSkate 90 = .ok (.invokevirtual 71, 3) := by decide +kernel
theorem dX7_tellSkate_93 : decode cX7_tellSkate 93 = .ok (.if_icmp .ge 132, 3) := by decide +kernel
theorem dX7_tellSkate_96 : decode cX7_tellSkate 96 = .ok (.iconst (-1), 1) := by decide +kernel
theorem dX7_tellSkate_97 : decode cX7_tellSkate 97 = .ok (.istore 7, 2) := by decide +kernel
theorem dX7_tellSkate_99 : decode cX7_tellSkate 99 = .ok (.iconst 0, 1) := by decide +kernel
theorem dX7_tellSkate_100 : decode cX7_tellSkate 100 = .ok (.istore 8, 2) := by decide +kernel
theorem dX7_tellSkate_102 : decode cX7_tellSkate 102 = .ok (.iload 8, 2) := by decide +kernel
theorem dX7_tellSkate_104 : decode cX7_tellSkate 104 = .ok (.aload_n 0, 1) := by decide +kernel
theorem dX7_tellSkate_105 : decode cX7_tellSkate 105 = .ok (.invokevirtual 71, 3) := by decide +kernel
theorem dX7_tellSkate_108 : decode cX7_tellSkate 108 = .ok (.if_icmp .ge 81, 3) := by decide +kernel
theorem dX7_tellSkate_111 : decode cX7_tellSkate 111 = .ok (.aload_n 0, 1) := by decide +kernel
theorem dX7_tellSkate_112 : decode cX7_tellSkate 112 = .ok (.getfield 37, 3) := by decide +kernel
theorem dX7_tellSkate_115 : decode cX7_tellSkate 115 = .ok (.iload 6, 2) := by decide +kernel
theorem dX7_tellSkate_117 : decode cX7_tellSkate 117 = .ok (.iaload, 1) := by decide +kernel
theorem dX7_tellSkate_118 : decode cX7_tellSkate 118 = .ok (.bipush 99, 2) := by decide +kernel
theorem dX7_tellSkate_120 : decode cX7_tellSkate 120 = .ok (.if_icmp .ne 69, 3) := by decide +kernel
theorem dX7_tellSkate_123 : decode cX7_tellSkate 123 = .ok (.aload_n 0, 1) := by decide +kernel
theorem dX7_tellSkate_124 : decode cX7_tellSkate 124 = .ok (.iload 6, 2) := by decide +kernel
theorem dX7_tellSkate_126 : decode cX7_tellSkate 126 = .ok (.invokevirtual 107, 3) := by decide +kernel
theorem dX7_tellSkate_129 : decode cX7_tellSkate 129 = .ok (.ifCond .eq 60, 3) := by decide +kernel
theorem dX7_tellSkate_132 : decode cX7_tellSkate 132 = .ok (.aload_n 0, 1) := by decide +kernel
theorem dX7_tellSkate_133 : decode cX7_tellSkate 133 = .ok (.getfield 37, 3) := by decide +kernel
theorem dX7_tellSkate_136 : decode cX7_tellSkate 136 = .ok (.iload 8, 2) := by decide +kernel
theorem dX7_tellSkate_138 : decode cX7_tellSkate 138 = .ok (.iaload, 1) := by decide +kernel
theorem dX7_tellSkate_139 : decode cX7_tellSkate 139 = .ok (.iload 5, 2) := by decide +kernel
theorem dX7_tellSkate_141 : decode cX7_tellSkate 141 = .ok (.iconst 1, 1) := by decide +kernel
theorem dX7_tellSkate_142 : decode cX7_tellSkate 142 = .ok (.isub, 1) := by decide +kernel
theorem dX7_tellSkate_143 : decode cX7_tellSkate 143 = .ok (.if_icmp .ne 36, 3) := by decide +kernel
theorem dX7_tellSkate_146 : decode cX7_tellSkate 146 = .ok (.aload_n 0, 1) := by decide +kernel
theorem dX7_tellSkate_147 : decode cX7_tellSkate 147 = .ok (.iload 8, 2) := by decide +kernel
theorem dX7_tellSkate_149 : decode cX7_tellSkate 149 = .ok (.iload 6, 2) := by decide +kernel
theorem dX7_tellSkate_151 : decode cX7_tellSkate 151 = .ok (.invokevirtual 214, 3) := by decide +kernel
theorem dX7_tellSkate_154 : decode cX7_tellSkate 154 = .ok (.ifCond .eq 25, 3) := by decide +kernel
theorem dX7_tellSkate_157 : decode cX7_tellSkate 157 = .ok (.aload_n 0, 1) := by decide +kernel
theorem dX7_tellSkate_158 : decode cX7_tellSkate 158 = .ok (.getfield 40, 3) := by decide +kernel
theorem dX7_tellSkate_161 : decode cX7_tellSkate 161 = .ok (.iload 8, 2) := by decide +kernel
theorem dX7_tellSkate_163 : decode cX7_tellSkate 163 = .ok (.iaload, 1) := by decide +kernel
theorem dX7_tellSkate_164 : decode cX7_tellSkate 164 = .ok (.iload 7, 2) := by decide +kernel
theorem dX7_tellSkate_166 : decode cX7_tellSkate 166 = .ok (.if_icmp .le 13, 3) := by decide +kernel
theorem dX7_tellSkate_169 : decode cX7_tellSkate 169 = .ok (.aload_n 0, 1) := by decide +kernel
theorem dX7_tellSkate_170 : decode cX7_tellSkate 170 = .ok (.getfield 40, 3) := by decide +kernel
theorem dX7_tellSkate_173 : decode cX7_tellSkate 173 = .ok (.iload 8, 2) := by decide +kernel
theorem dX7_tellSkate_175 : decode cX7_tellSkate 175 = .ok (.iaload, 1) := by decide +kernel
theorem dX7_tellSkate_176 : decode cX7_tellSkate 176 = .ok (.goto 5, 3) := by decide +kernel
theorem dX7_tellSkate_179 : decode cX7_tellSkate 179 = .ok (.iload 7, 2) := by decide +kernel
theorem dX7_tellSkate_181 : decode cX7_tellSkate 181 = .ok (.istore 7, 2) := by decide +kernel
theorem dX7_tellSkate_183 : decode cX7_tellSkate 183 = .ok (.iinc 8 1, 3) := by decide +kernel
theorem dX7_tellSkate_186 : decode cX7_tellSkate 186 = .ok (.goto (-84), 3) := by decide +kernel
theorem dX7_tellSkate_189 : decode cX7_tellSkate 189 = .ok (.iload 7, 2) := by decide +kernel
theorem dX7_tellSkate_191 : decode cX7_tellSkate 191 = .ok (.iconst (-1), 1) := by decide +kernel
theorem dX7_tellSkate_192 : decode cX7_tellSkate 192 = .ok (.if_icmp .eq 27, 3) := by decide +kernel
theorem dX7_tellSkate_195 : decode cX7_tellSkate 195 = .ok (.aload_n 0, 1) := by decide +kernel
theorem dX7_tellSkate_196 : decode cX7_tellSkate 196 = .ok (.getfield 37, 3) := by decide +kernel
theorem dX7_tellSkate_199 : decode cX7_tellSkate 199 = .ok (.iload 6, 2) := by decide +kernel
theorem dX7_tellSkate_201 : decode cX7_tellSkate 201 = .ok (.iload 5, 2) := by decide +kernel
theorem dX7_tellSkate_203 : decode cX7_tellSkate 203 = .ok (.iastore, 1) := by decide +kernel
theorem dX7_tellSkate_204 : decode cX7_tellSkate 204 = .ok (.aload_n 0, 1) := by decide +kernel
theorem dX7_tellSkate_205 : decode cX7_tellSkate 205 = .ok (.getfield 40, 3) := by decide +kernel
theorem dX7_tellSkate_208 : decode cX7_tellSkate 208 = .ok (.iload 6, 2) := by decide +kernel
theorem dX7_tellSkate_210 : decode cX7_tellSkate 210 = .ok (.dup2, 1) := by decide +kernel
theorem dX7_tellSkate_211 : decode cX7_tellSkate 211 = .ok (.iaload, 1) := by decide +kernel
theorem dX7_tellSkate_212 : decode cX7_tellSkate 212 = .ok (.iload 7, 2) := by decide +kernel
theorem dX7_tellSkate_214 : decode cX7_tellSkate 214 = .ok (.iadd, 1) := by decide +kernel
theorem dX7_tellSkate_215 : decode cX7_tellSkate 215 = .ok (.iastore, 1) := by decide +kernel
theorem dX7_tellSkate_216 : decode cX7_tellSkate 216 = .ok (.iinc 4 1, 3) := by decide +kernel
theorem dX7_tellSkate_219 : decode cX7_tellSkate 219 = .ok (.iinc 6 1, 3) := by decide +kernel
theorem dX7_tellSkate_222 : decode cX7_tellSkate 222 = .ok (.goto (-135), 3) := by decide +kernel
theorem dX7_tellSkate_225 : decode cX7_tellSkate 225 = .ok (.iinc 5 1, 3) := by decide +kernel
theorem dX7_tellSkate_228 : decode cX7_tellSkate 228 = .ok (.goto (-152), 3) := by decide +kernel
theorem dX7_tellSkate_231 : decode cX7_tellSkate 231 = .ok (.aload_n 0, 1) := by decide +kernel
theorem dX7_tellSkate_232 : decode cX7_tellSkate 232 = .ok (.getfield 37, 3) := by decide +kernel
theorem dX7_tellSkate_235 : decode cX7_tellSkate 235 = .ok (.iload_n 2, 1) := by decide +kernel
theorem dX7_tellSkate_236 : decode cX7_tellSkate 236 = .ok (.iaload, 1) := by decide +kernel
theorem dX7_tellSkate_237 : decode cX7_tellSkate 237 = .ok (.bipush 99, 2) := by decide +kernel
theorem dX7_tellSkate_239 : decode cX7_tellSkate 239 = .ok (.if_icmp .ne 7, 3) := by decide +kernel
theorem dX7_tellSkate_242 : decode cX7_tellSkate 242 = .ok (.iconst (-1), 1) := by decide +kernel
theorem dX7_tellSkate_243 : decode cX7_tellSkate 243 = .ok (.goto 22, 3) := by decide +kernel
theorem dX7_tellSkate_246 : decode cX7_tellSkate 246 = .ok (.iload_n 3, 1) := by decide +kernel
theorem dX7_tellSkate_247 : decode cX7_tellSkate 247 = .ok (.ifCond .ne 12, 3) := by decide +kernel
theorem dX7_tellSkate_250 : decode cX7_tellSkate 250 = .ok (.aload_n 0, 1) := by decide +kernel
theorem dX7_tellSkate_251 : decode cX7_tellSkate 251 = .ok (.getfield 37, 3) := by decide +kernel
theorem dX7_tellSkate_254 : decode cX7_tellSkate 254 = .ok (.iload_n 2, 1) := by decide +kernel
theorem dX7_tellSkate_255 : decode cX7_tellSkate 255 = .ok (.iaload, 1) := by decide +kernel
theorem dX7_tellSkate_256 : decode cX7_tellSkate 256 = .ok (.goto 9, 3) := by decide +kernel
theorem dX7_tellSkate_259 : decode cX7_tellSkate 259 = .ok (.aload_n 0, 1) := by decide +kernel
theorem dX7_tellSkate_260 : decode cX7_tellSkate 260 = .ok (.getfield 40, 3) := by decide +kernel
theorem dX7_tellSkate_263 : decode cX7_tellSkate 263 = .ok (.iload_n 2, 1) := by decide +kernel
theorem dX7_tellSkate_264 : decode cX7_tellSkate 264 = .ok (.iaload, 1) := by decide +kernel
theorem dX7_tellSkate_265 : decode cX7_tellSkate 265 = .ok (.ireturn, 1) := by decide +kernel
theorem dX7_skate_0 : decode cX7_skate 0 = .ok (.aload_n 0, 1) := by decide +kernel
theorem dX7_skate_1 : decode cX7_skate 1 = .ok (.iload_n 1, 1) := by decide +kernel
theorem dX7_skate_2 : decode cX7_skate 2 = .ok (.invokevirtual 98, 3) := by decide +kernel
theorem dX7_skate_5 : decode cX7_skate 5 = .ok (.ifCond .eq 11, 3) := by decide +kernel
theorem dX7_skate_8 : decode cX7_skate 8 = .ok (.aload_n 0, 1) := by decide +kernel
theorem dX7_skate_9 : decode cX7_skate 9 = .ok (.iload_n 2, 1) := by decide +kernel
theorem dX7_skate_10 : decode cX7_skate 10 = .ok (.invokevirtual 98, 3) := by decide +kernel
theorem dX7_skate_13 : decode cX7_skate 13 = .ok (.ifCond .ne 6, 3) := by decide +kernel
theorem dX7_skate_16 : decode cX7_skate 16 = .ok (.bipush (-101), 2) := by decide +kernel
theorem dX7_skate_18 : decode cX7_skate 18 = .ok (.ireturn, 1) := by decide +kernel
theorem dX7_skate_19 : decode cX7_skate 19 = .ok (.iload_n 3, 1) := by decide +kernel
theorem dX7_skate_20 : decode cX7_skate 20 = .ok (.i2l, 1) := by decide +kernel
theorem dX7_skate_21 : decode cX7_skate 21 = .ok (.lconst 0, 1) := by decide +kernel
theorem dX7_skate_22 : decode cX7_skate 22 = .ok (.lconst 1, 1) := by decide +kernel
theorem dX7_skate_23 : decode cX7_skate 23 = .ok (.invokestatic 75, 3) := by decide +kernel
theorem dX7_skate_26 : decode cX7_skate 26 = .ok (.ifCond .eq 13, 3) := by decide +kernel
theorem dX7_skate_29 : decode cX7_skate 29 = .ok (.aload_n 0, 1) := by decide +kernel
theorem dX7_skate_30 : decode cX7_skate 30 = .ok (.iload_n 1, 1) := by decide +kernel
theorem dX7_skate_31 : decode cX7_skate 31 = .ok (.iload_n 2, 1) := by decide +kernel
theorem dX7_skate_32 : decode cX7_skate 32 = .ok (.iload_n 3, 1) := by decide +kernel
theorem dX7_skate_33 : decode cX7_skate 33 = .ok (.invokevirtual 218, 3) := by decide +kernel
theorem dX7_skate_36 : decode cX7_skate 36 = .ok (.goto 5, 3) := by decide +kernel
theorem dX7_skate_39 : decode cX7_skate 39 = .ok (.bipush (-102), 2) := by decide +kernel
theorem dX7_skate_41 : decode cX7_skate 41 = .ok (.ireturn, 1) := by decide +kernel
theorem dX7_term_0 : decode cX7_term 0 = .ok (.lload_n 0, 1) := by decide +kernel
theorem dX7_term_1 : decode cX7_term 1 = .ok (.lstore 5, 2) := by decide +kernel
theorem dX7_term_3 : decode cX7_term 3 = .ok (.lload_n 2, 1) := by decide +kernel
theorem dX7_term_4 : decode cX7_term 4 = .ok (.lstore 7, 2) := by decide +kernel
theorem dX7_term_6 : decode cX7_term 6 = .ok (.lload 5, 2) := by decide +kernel
theorem dX7_term_8 : decode cX7_term 8 = .ok (.lconst 0, 1) := by decide +kernel
theorem dX7_term_9 : decode cX7_term 9 = .ok (.lcmp, 1) := by decide +kernel
theorem dX7_term_10 : decode cX7_term 10 = .ok (.ifCond .eq 21, 3) := by decide +kernel
theorem dX7_term_13 : decode cX7_term 13 = .ok (.lload 7, 2) := by decide +kernel
theorem dX7_term_15 : decode cX7_term 15 = .ok (.lload 5, 2) := by decide +kernel
theorem dX7_term_17 : decode cX7_term 17 = .ok (.lrem, 1) := by decide +kernel
theorem dX7_term_18 : decode cX7_term 18 = .ok (.lstore 9, 2) := by decide +kernel
theorem dX7_term_20 : decode cX7_term 20 = .ok (.lload 5, 2) := by decide +kernel
theorem dX7_term_22 : decode cX7_term 22 = .ok (.lstore 7, 2) := by decide +kernel
theorem dX7_term_24 : decode cX7_term 24 = .ok (.lload 9, 2) := by decide +kernel
theorem dX7_term_26 : decode cX7_term 26 = .ok (.lstore 5, 2) := by decide +kernel
theorem dX7_term_28 : decode cX7_term 28 = .ok (.goto (-22), 3) := by decide +kernel
theorem dX7_term_31 : decode cX7_term 31 = .ok (.iload 4, 2) := by decide +kernel
theorem dX7_term_33 : decode cX7_term 33 = .ok (.ifCond .ne 10, 3) := by decide +kernel
theorem dX7_term_36 : decode cX7_term 36 = .ok (.lload_n 0, 1) := by decide +kernel
theorem dX7_term_37 : decode cX7_term 37 = .ok (.lload 7, 2) := by decide +kernel
theorem dX7_term_39 : decode cX7_term 39 = .ok (.ldiv, 1) := by decide +kernel
theorem dX7_term_40 : decode cX7_term 40 = .ok (.goto 7, 3) := by decide +kernel
theorem dX7_term_43 : decode cX7_term 43 = .ok (.lload_n 2, 1) := by decide +kernel
theorem dX7_term_44 : decode cX7_term 44 = .ok (.lload 7, 2) := by decide +kernel
theorem dX7_term_46 : decode cX7_term 46 = .ok (.ldiv, 1) := by decide +kernel
theorem dX7_term_47 : decode cX7_term 47 = .ok (.lreturn, 1) := by decide +kernel
theorem dX7_staysBy_0 : decode cX7_staysBy 0 = .ok (.aload_n 0, 1) := by decide +kernel
theorem dX7_staysBy_1 : decode cX7_staysBy 1 = .ok (.getfield 16, 3) := by decide +kernel
theorem dX7_staysBy_4 : decode cX7_staysBy 4 = .ok (.bipush 8, 2) := by decide +kernel
theorem dX7_staysBy_6 : decode cX7_staysBy 6 = .ok (.iload_n 1, 1) := by decide +kernel
theorem dX7_staysBy_7 : decode cX7_staysBy 7 = .ok (.imul, 1) := by decide +kernel
theorem dX7_staysBy_8 : decode cX7_staysBy 8 = .ok (.iaload, 1) := by decide +kernel
theorem dX7_staysBy_9 : decode cX7_staysBy 9 = .ok (.istore 4, 2) := by decide +kernel
theorem dX7_staysBy_11 : decode cX7_staysBy 11 = .ok (.aload_n 0, 1) := by decide +kernel
theorem dX7_staysBy_12 : decode cX7_staysBy 12 = .ok (.getfield 7, 3) := by decide +kernel
theorem dX7_staysBy_15 : decode cX7_staysBy 15 = .ok (.aload_n 0, 1) := by decide +kernel
theorem dX7_staysBy_16 : decode cX7_staysBy 16 = .ok (.getfield 16, 3) := by decide +kernel
theorem dX7_staysBy_19 : decode cX7_staysBy 19 = .ok (.bipush 8, 2) := by decide +kernel
theorem dX7_staysBy_21 : decode cX7_staysBy 21 = .ok (.iload_n 1, 1) := by decide +kernel
theorem dX7_staysBy_22 : decode cX7_staysBy 22 = .ok (.imul, 1) := by decide +kernel
theorem dX7_staysBy_23 : decode cX7_staysBy 23 = .ok (.iconst 1, 1) := by decide +kernel
theorem dX7_staysBy_24 : decode cX7_staysBy 24 = .ok (.iadd, 1) := by decide +kernel
theorem dX7_staysBy_25 : decode cX7_staysBy 25 = .ok (.iaload, 1) := by decide +kernel
theorem dX7_staysBy_26 : decode cX7_staysBy 26 = .ok (.iaload, 1) := by decide +kernel
theorem dX7_staysBy_27 : decode cX7_staysBy 27 = .ok (.iload_n 2, 1) := by decide +kernel
theorem dX7_staysBy_28 : decode cX7_staysBy 28 = .ok (.iload_n 3, 1) := by decide +kernel
theorem dX7_staysBy_29 : decode cX7_staysBy 29 = .ok (.imul, 1) := by decide +kernel
theorem dX7_staysBy_30 : decode cX7_staysBy 30 = .ok (.isub, 1) := by decide +kernel
theorem dX7_staysBy_31 : decode cX7_staysBy 31 = .ok (.istore 5, 2) := by decide +kernel
theorem dX7_staysBy_33 : decode cX7_staysBy 33 = .ok (.aload_n 0, 1) := by decide +kernel
theorem dX7_staysBy_34 : decode cX7_staysBy 34 = .ok (.getfield 16, 3) := by decide +kernel
theorem dX7_staysBy_37 : decode cX7_staysBy 37 = .ok (.bipush 8, 2) := by decide +kernel
theorem dX7_staysBy_39 : decode cX7_staysBy 39 = .ok (.iload_n 1, 1) := by decide +kernel
theorem dX7_staysBy_40 : decode cX7_staysBy 40 = .ok (.imul, 1) := by decide +kernel
theorem dX7_staysBy_41 : decode cX7_staysBy 41 = .ok (.iconst 5, 1) := by decide +kernel
theorem dX7_staysBy_42 : decode cX7_staysBy 42 = .ok (.iadd, 1) := by decide +kernel
theorem dX7_staysBy_43 : decode cX7_staysBy 43 = .ok (.iaload, 1) := by decide +kernel
theorem dX7_staysBy_44 : decode cX7_staysBy 44 = .ok (.iload_n 2, 1) := by decide +kernel
theorem dX7_staysBy_45 : decode cX7_staysBy 45 = .ok (.iload 4, 2) := by decide +kernel
theorem dX7_staysBy_47 : decode cX7_staysBy 47 = .ok (.iload_n 3, 1) := by decide +kernel
theorem dX7_staysBy_48 : decode cX7_staysBy 48 = .ok (.invokestatic 163, 3) := by decide +kernel
theorem dX7_staysBy_51 : decode cX7_staysBy 51 = .ok (.imul, 1) := by decide +kernel
theorem dX7_staysBy_52 : decode cX7_staysBy 52 = .ok (.isub, 1) := by decide +kernel
theorem dX7_staysBy_53 : decode cX7_staysBy 53 = .ok (.istore 6, 2) := by decide +kernel
theorem dX7_staysBy_55 : decode cX7_staysBy 55 = .ok (.aload_n 0, 1) := by decide +kernel
theorem dX7_staysBy_56 : decode cX7_staysBy 56 = .ok (.getfield 16, 3) := by decide +kernel
theorem dX7_staysBy_59 : decode cX7_staysBy 59 = .ok (.bipush 8, 2) := by decide +kernel
theorem dX7_staysBy_61 : decode cX7_staysBy 61 = .ok (.iload_n 1, 1) := by decide +kernel
theorem dX7_staysBy_62 : decode cX7_staysBy 62 = .ok (.imul, 1) := by decide +kernel
theorem dX7_staysBy_63 : decode cX7_staysBy 63 = .ok (.bipush 6, 2) := by decide +kernel
theorem dX7_staysBy_65 : decode cX7_staysBy 65 = .ok (.iadd, 1) := by decide +kernel
theorem dX7_staysBy_66 : decode cX7_staysBy 66 = .ok (.iaload, 1) := by decide +kernel
theorem dX7_staysBy_67 : decode cX7_staysBy 67 = .ok (.iconst 2, 1) := by decide +kernel
theorem dX7_staysBy_68 : decode cX7_staysBy 68 = .ok (.if_icmp .eq 31, 3) := by decide +kernel
theorem dX7_staysBy_71 : decode cX7_staysBy 71 = .ok (.aload_n 0, 1) := by decide +kernel
theorem dX7_staysBy_72 : decode cX7_staysBy 72 = .ok (.iload_n 1, 1) := by decide +kernel
theorem dX7_staysBy_73 : decode cX7_staysBy 73 = .ok (.invokevirtual 94, 3) := by decide +kernel
theorem dX7_staysBy_76 : decode cX7_staysBy 76 = .ok (.ifCond .eq 27, 3) := by decide +kernel
theorem dX7_staysBy_79 : decode cX7_staysBy 79 = .ok (.iload_n 2, 1) := by decide +kernel
theorem dX7_staysBy_80 : decode cX7_staysBy 80 = .ok (.ifCond .eq 19, 3) := by decide +kernel
theorem dX7_staysBy_83 : decode cX7_staysBy 83 = .ok (.iload 5, 2) := by decide +kernel
theorem dX7_staysBy_85 : decode cX7_staysBy 85 = .ok (.ifCond .le 18, 3) := by decide +kernel
theorem dX7_staysBy_88 : decode cX7_staysBy 88 = .ok (.iload 6, 2) := by decide +kernel
theorem dX7_staysBy_90 : decode cX7_staysBy 90 = .ok (.ifCond .le 13, 3) := by decide +kernel
theorem dX7_staysBy_93 : decode cX7_staysBy 93 = .ok (.iload 4, 2) := by decide +kernel
theorem dX7_staysBy_95 : decode cX7_staysBy 95 = .ok (.iconst 3, 1) := by decide +kernel
theorem dX7_staysBy_96 : decode cX7_staysBy 96 = .ok (.if_icmp .eq 7, 3) := by decide +kernel
theorem dX7_staysBy_99 : decode cX7_staysBy 99 = .ok (.iconst 1, 1) := by decide +kernel
theorem dX7_staysBy_100 : decode cX7_staysBy 100 = .ok (.goto 4, 3) := by decide +kernel
theorem dX7_staysBy_103 : decode cX7_staysBy 103 = .ok (.iconst 0, 1) := by decide +kernel
theorem dX7_staysBy_104 : decode cX7_staysBy 104 = .ok (.ireturn, 1) := by decide +kernel
theorem dX7_odds_0 : decode cX7_odds 0 = .ok (.aload_n 0, 1) := by decide +kernel
theorem dX7_odds_1 : decode cX7_odds 1 = .ok (.iload_n 1, 1) := by decide +kernel
theorem dX7_odds_2 : decode cX7_odds 2 = .ok (.invokevirtual 129, 3) := by decide +kernel
theorem dX7_odds_5 : decode cX7_odds 5 = .ok (.ifCond .ne 7, 3) := by decide +kernel
theorem dX7_odds_8 : decode cX7_odds 8 = .ok (.ldc2_w 222, 3) := by decide +kernel
theorem dX7_odds_11 : decode cX7_odds 11 = .ok (.lreturn, 1) := by decide +kernel
theorem dX7_odds_12 : decode cX7_odds 12 = .ok (.iload_n 2, 1) := by decide +kernel
theorem dX7_odds_13 : decode cX7_odds 13 = .ok (.i2l, 1) := by decide +kernel
theorem dX7_odds_14 : decode cX7_odds 14 = .ok (.lconst 1, 1) := by decide +kernel
theorem dX7_odds_15 : decode cX7_odds 15 = .ok (.ldc2_w 121, 3) := by decide +kernel
theorem dX7_odds_18 : decode cX7_odds 18 = .ok (.invokestatic 75, 3) := by decide +kernel
theorem dX7_odds_21 : decode cX7_odds 21 = .ok (.ifCond .eq 39, 3) := by decide +kernel
theorem dX7_odds_24 : decode cX7_odds 24 = .ok (.iload_n 3, 1) := by decide +kernel
theorem dX7_odds_25 : decode cX7_odds 25 = .ok (.i2l, 1) := by decide +kernel
theorem dX7_odds_26 : decode cX7_odds 26 = .ok (.lconst 0, 1) := by decide +kernel
theorem dX7_odds_27 : decode cX7_odds 27 = .ok (.ldc2_w 121, 3) := by decide +kernel
theorem dX7_odds_30 : decode cX7_odds 30 = .ok (.invokestatic 75, 3) := by decide +kernel
theorem dX7_odds_33 : decode cX7_odds 33 = .ok (.ifCond .eq 27, 3) := by decide +kernel
theorem dX7_odds_36 : decode cX7_odds 36 = .ok (.iload 4, 2) := by decide +kernel
theorem dX7_odds_38 : decode cX7_odds 38 = .ok (.i2l, 1) := by decide +kernel
theorem dX7_odds_39 : decode cX7_odds 39 = .ok (.lconst 1, 1) := by decide +kernel
theorem dX7_odds_40 : decode cX7_odds 40 = .ok (.ldc2_w 121, 3) := by decide +kernel
theorem dX7_odds_43 : decode cX7_odds 43 = .ok (.invokestatic 75, 3) := by decide +kernel
theorem dX7_odds_46 : decode cX7_odds 46 = .ok (.ifCond .eq 14, 3) := by decide +kernel
theorem dX7_odds_49 : decode cX7_odds 49 = .ok (.iload 5, 2) := by decide +kernel
theorem dX7_odds_51 : decode cX7_odds 51 = .ok (.i2l, 1) := by decide +kernel
theorem dX7_odds_52 : decode cX7_odds 52 = .ok (.lconst 0, 1) := by decide +kernel
theorem dX7_odds_53 : decode cX7_odds 53 = .ok (.lconst 1, 1) := by decide +kernel
theorem dX7_odds_54 : decode cX7_odds 54 = .ok (.invokestatic 75, 3) := by decide +kernel
theorem dX7_odds_57 : decode cX7_odds 57 = .ok (.ifCond .ne 7, 3) := by decide +kernel
theorem dX7_odds_60 : decode cX7_odds 60 = .ok (.ldc2_w 224, 3) := by decide +kernel
theorem dX7_odds_63 : decode cX7_odds 63 = .ok (.lreturn, 1) := by decide +kernel
theorem dX7_odds_64 : decode cX7_odds 64 = .ok (.lconst 0, 1) := by decide +kernel
theorem dX7_odds_65 : decode cX7_odds 65 = .ok (.lstore 6, 2) := by decide +kernel
theorem dX7_odds_67 : decode cX7_odds 67 = .ok (.lconst 1, 1) := by decide +kernel
theorem dX7_odds_68 : decode cX7_odds 68 = .ok (.lstore 8, 2) := by decide +kernel
theorem dX7_odds_70 : decode cX7_odds 70 = .ok (.lconst 1, 1) := by decide +kernel
theorem dX7_odds_71 : decode cX7_odds 71 = .ok (.lstore 10, 2) := by decide +kernel
theorem dX7_odds_73 : decode cX7_odds 73 = .ok (.iconst 0, 1) := by decide +kernel
theorem dX7_odds_74 : decode cX7_odds 74 = .ok (.istore 12, 2) := by decide +kernel
theorem dX7_odds_76 : decode cX7_odds 76 = .ok (.iload 12, 2) := by decide +kernel
theorem dX7_odds_78 : decode cX7_odds 78 = .ok (.iload_n 2, 1) := by decide +kernel
theorem dX7_odds_79 : decode cX7_odds 79 = .ok (.if_icmp .gt 107, 3) := by decide +kernel
theorem dX7_odds_82 : decode cX7_odds 82 = .ok (.lload 10, 2) := by decide +kernel
theorem dX7_odds_84 : decode cX7_odds 84 = .ok (.lstore 13, 2) := by decide +kernel
theorem dX7_odds_86 : decode cX7_odds 86 = .ok (.iconst 0, 1) := by decide +kernel
theorem dX7_odds_87 : decode cX7_odds 87 = .ok (.istore 15, 2) := by decide +kernel
theorem dX7_odds_89 : decode cX7_odds 89 = .ok (.iload 15, 2) := by decide +kernel
theorem dX7_odds_91 : decode cX7_odds 91 = .ok (.iload_n 2, 1) := by decide +kernel
theorem dX7_odds_92 : decode cX7_odds 92 = .ok (.if_icmp .ge 31, 3) := by decide +kernel
theorem dX7_odds_95 : decode cX7_odds 95 = .ok (.lload 13, 2) := by decide +kernel
theorem dX7_odds_97 : decode cX7_odds 97 = .ok (.iload 15, 2) := by decide +kernel
theorem dX7_odds_99 : decode cX7_odds 99 = .ok (.iload 12, 2) := by decide +kernel
theorem dX7_odds_101 : decode cX7_odds 101 = .ok (.if_icmp .ge 8, 3) := by decide +kernel
theorem dX7_odds_104 : decode cX7_odds 104 = .ok (.iload_n 3, 1) := by decide +kernel
theorem dX7_odds_105 : decode cX7_odds 105 = .ok (.i2l, 1) := by decide +kernel
theorem dX7_odds_106 : decode cX7_odds 106 = .ok (.goto 8, 3) := by decide +kernel
theorem dX7_odds_109 : decode cX7_odds 109 = .ok (.bipush 10, 2) := by decide +kernel
theorem dX7_odds_111 : decode cX7_odds 111 = .ok (.iload_n 3, 1) := by decide +kernel
theorem dX7_odds_112 : decode cX7_odds 112 = .ok (.isub, 1) := by decide +kernel
theorem dX7_odds_113 : decode cX7_odds 113 = .ok (.i2l, 1) := by decide +kernel
theorem dX7_odds_114 : decode cX7_odds 114 = .ok (.lmul, 1) := by decide +kernel
theorem dX7_odds_115 : decode cX7_odds 115 = .ok (.lstore 13, 2) := by decide +kernel
theorem dX7_odds_117 : decode cX7_odds 117 = .ok (.iinc 15 1, 3) := by decide +kernel
theorem dX7_odds_120 : decode cX7_odds 120 = .ok (.goto (-31), 3) := by decide +kernel
theorem dX7_odds_123 : decode cX7_odds 123 = .ok (.lload 6, 2) := by decide +kernel
theorem dX7_odds_125 : decode cX7_odds 125 = .ok (.aload_n 0, 1) := by decide +kernel
theorem dX7_odds_126 : decode cX7_odds 126 = .ok (.iload_n 1, 1) := by decide +kernel
theorem dX7_odds_127 : decode cX7_odds 127 = .ok (.iload 12, 2) := by decide +kernel
theorem dX7_odds_129 : decode cX7_odds 129 = .ok (.iload 4, 2) := by decide +kernel
theorem dX7_odds_131 : decode cX7_odds 131 = .ok (.invokevirtual 226, 3) := by decide +kernel
theorem dX7_odds_134 : decode cX7_odds 134 = .ok (.ifCond .eq 8, 3) := by decide +kernel
theorem dX7_odds_137 : decode cX7_odds 137 = .ok (.lload 13, 2) := by decide +kernel
theorem dX7_odds_139 : decode cX7_odds 139 = .ok (.goto 4, 3) := by decide +kernel
theorem dX7_odds_142 : decode cX7_odds 142 = .ok (.lconst 0, 1) := by decide +kernel
theorem dX7_odds_143 : decode cX7_odds 143 = .ok (.ladd, 1) := by decide +kernel
theorem dX7_odds_144 : decode cX7_odds 144 = .ok (.lstore 6, 2) := by decide +kernel
theorem dX7_odds_146 : decode cX7_odds 146 = .ok (.lload 10, 2) := by decide +kernel
theorem dX7_odds_148 : decode cX7_odds 148 = .ok (.iload_n 2, 1) := by decide +kernel
theorem dX7_odds_149 : decode cX7_odds 149 = .ok (.iload 12, 2) := by decide +kernel
theorem dX7_odds_151 : decode cX7_odds 151 = .ok (.isub, 1) := by decide +kernel
theorem dX7_odds_152 : decode cX7_odds 152 = .ok (.i2l, 1) := by decide +kernel
theorem dX7_odds_153 : decode cX7_odds 153 = .ok (.lmul, 1) := by decide +kernel
theorem dX7_odds_154 : decode cX7_odds 154 = .ok (.iload 12, 2) := by decide +kernel
theorem dX7_odds_156 : decode cX7_odds 156 = .ok (.iconst 1, 1) := by decide +kernel
theorem dX7_odds_157 : decode cX7_odds 157 = .ok (.iadd, 1) := by decide +kernel
theorem dX7_odds_158 : decode cX7_odds 158 = .ok (.i2l, 1) := by decide +kernel
theorem dX7_odds_159 : decode cX7_odds 159 = .ok (.ldiv, 1) := by decide +kernel
theorem dX7_odds_160 : decode cX7_odds 160 = .ok (.lstore 10, 2) := by decide +kernel
theorem dX7_odds_162 : decode cX7_odds 162 = .ok (.lload 8, 2) := by decide +kernel
theorem dX7_odds_164 : decode cX7_odds 164 = .ok (.iload 12, 2) := by decide +kernel
theorem dX7_odds_166 : decode cX7_odds 166 = .ok (.iload_n 2, 1) := by decide +kernel
theorem dX7_odds_167 : decode cX7_odds 167 = .ok (.if_icmp .ge 9, 3) := by decide +kernel
theorem dX7_odds_170 : decode cX7_odds 170 = .ok (.ldc2_w 229, 3) := by decide +kernel
theorem dX7_odds_173 : decode cX7_odds 173 = .ok (.goto 4, 3) := by decide +kernel
theorem dX7_odds_176 : decode cX7_odds 176 = .ok (.lconst 1, 1) := by decide +kernel
theorem dX7_odds_177 : decode cX7_odds 177 = .ok (.lmul, 1) := by decide +kernel
theorem dX7_odds_178 : decode cX7_odds 178 = .ok (.lstore 8, 2) := by decide +kernel
theorem dX7_odds_180 : decode cX7_odds 180 = .ok (.iinc 12 1, 3) := by decide +kernel
theorem dX7_odds_183 : decode cX7_odds 183 = .ok (.goto (-107), 3) := by decide +kernel
theorem dX7_odds_186 : decode cX7_odds 186 = .ok (.lload 6, 2) := by decide +kernel
theorem dX7_odds_188 : decode cX7_odds 188 = .ok (.lload 8, 2) := by decide +kernel
theorem dX7_odds_190 : decode cX7_odds 190 = .ok (.iload 5, 2) := by decide +kernel
theorem dX7_odds_192 : decode cX7_odds 192 = .ok (.invokestatic 231, 3) := by decide +kernel
theorem dX7_odds_195 : decode cX7_odds 195 = .ok (.lreturn, 1) := by decide +kernel
theorem dX7_copy_0 : decode cX7_copy 0 = .ok (.iconst 0, 1) := by decide +kernel
theorem dX7_copy_1 : decode cX7_copy 1 = .ok (.istore_n 2, 1) := by decide +kernel
theorem dX7_copy_2 : decode cX7_copy 2 = .ok (.iload_n 2, 1) := by decide +kernel
theorem dX7_copy_3 : decode cX7_copy 3 = .ok (.aload_n 0, 1) := by decide +kernel
theorem dX7_copy_4 : decode cX7_copy 4 = .ok (.arraylength, 1) := by decide +kernel
theorem dX7_copy_5 : decode cX7_copy 5 = .ok (.if_icmp .ge 15, 3) := by decide +kernel
theorem dX7_copy_8 : decode cX7_copy 8 = .ok (.aload_n 1, 1) := by decide +kernel
theorem dX7_copy_9 : decode cX7_copy 9 = .ok (.iload_n 2, 1) := by decide +kernel
theorem dX7_copy_10 : decode cX7_copy 10 = .ok (.aload_n 0, 1) := by decide +kernel
theorem dX7_copy_11 : decode cX7_copy 11 = .ok (.iload_n 2, 1) := by decide +kernel
theorem dX7_copy_12 : decode cX7_copy 12 = .ok (.iaload, 1) := by decide +kernel
theorem dX7_copy_13 : decode cX7_copy 13 = .ok (.iastore, 1) := by decide +kernel
theorem dX7_copy_14 : decode cX7_copy 14 = .ok (.iinc 2 1, 3) := by decide +kernel
theorem dX7_copy_17 : decode cX7_copy 17 = .ok (.goto (-15), 3) := by decide +kernel
theorem dX7_copy_20 : decode cX7_copy 20 = .ok (.return_, 1) := by decide +kernel
theorem dX7_draw_0 : decode cX7_draw 0 = .ok (.aload_n 0, 1) := by decide +kernel
theorem dX7_draw_1 : decode cX7_draw 1 = .ok (.ldc2_w 235, 3) := by decide +kernel
theorem dX7_draw_4 : decode cX7_draw 4 = .ok (.aload_n 0, 1) := by decide +kernel
theorem dX7_draw_5 : decode cX7_draw 5 = .ok (.getfield 237, 3) := by decide +kernel
theorem dX7_draw_8 : decode cX7_draw 8 = .ok (.i2l, 1) := by decide +kernel
theorem dX7_draw_9 : decode cX7_draw 9 = .ok (.lmul, 1) := by decide +kernel
theorem dX7_draw_10 : decode cX7_draw 10 = .ok (.ldc2_w 240, 3) := by decide +kernel
theorem dX7_draw_13 : decode cX7_draw 13 = .ok (.ladd, 1) := by decide +kernel
theorem dX7_draw_14 : decode cX7_draw 14 = .ok (.ldc2_w 242, 3) := by decide +kernel
theorem dX7_draw_17 : decode cX7_draw 17 = .ok (.land, 1) := by decide +kernel
theorem dX7_draw_18 : decode cX7_draw 18 = .ok (.l2i, 1) := by decide +kernel
theorem dX7_draw_19 : decode cX7_draw 19 = .ok (.putfield 237, 3) := by decide +kernel
theorem dX7_draw_22 : decode cX7_draw 22 = .ok (.aload_n 0, 1) := by decide +kernel
theorem dX7_draw_23 : decode cX7_draw 23 = .ok (.getfield 237, 3) := by decide +kernel
theorem dX7_draw_26 : decode cX7_draw 26 = .ok (.ldc 244, 2) := by decide +kernel
theorem dX7_draw_28 : decode cX7_draw 28 = .ok (.idiv, 1) := by decide +kernel
theorem dX7_draw_29 : decode cX7_draw 29 = .ok (.iload_n 1, 1) := by decide +kernel
theorem dX7_draw_30 : decode cX7_draw 30 = .ok (.irem, 1) := by decide +kernel
theorem dX7_draw_31 : decode cX7_draw 31 = .ok (.ireturn, 1) := by decide +kernel
theorem dX7_winter_0 : decode cX7_winter 0 = .ok (.iload_n 1, 1) := by decide +kernel
theorem dX7_winter_1 : decode cX7_winter 1 = .ok (.i2l, 1) := by decide +kernel
theorem dX7_winter_2 : decode cX7_winter 2 = .ok (.lconst 1, 1) := by decide +kernel
theorem dX7_winter_3 : decode cX7_winter 3 = .ok (.ldc2_w 245, 3) := by decide +kernel
theorem dX7_winter_6 : decode cX7_winter 6 = .ok (.invokestatic 75, 3) := by decide +kernel
theorem dX7_winter_9 : decode cX7_winter 9 = .ok (.ifCond .eq 19, 3) := by decide +kernel
theorem dX7_winter_12 : decode cX7_winter 12 = .ok (.iload_n 2, 1) := by decide +kernel
theorem dX7_winter_13 : decode cX7_winter 13 = .ok (.ifCond .lt 15, 3) := by decide +kernel
theorem dX7_winter_16 : decode cX7_winter 16 = .ok (.iload_n 3, 1) := by decide +kernel
theorem dX7_winter_17 : decode cX7_winter 17 = .ok (.i2l, 1) := by decide +kernel
theorem dX7_winter_18 : decode cX7_winter 18 = .ok (.lconst 0, 1) := by decide +kernel
theorem dX7_winter_19 : decode cX7_winter 19 = .ok (.ldc2_w 84, 3) := by decide +kernel
theorem dX7_winter_22 : decode cX7_winter 22 = .ok (.invokestatic 75, 3) := by decide +kernel
theorem dX7_winter_25 : decode cX7_winter 25 = .ok (.ifCond .ne 6, 3) := by decide +kernel
theorem dX7_winter_28 : decode cX7_winter 28 = .ok (.bipush (-102), 2) := by decide +kernel
theorem dX7_winter_30 : decode cX7_winter 30 = .ok (.ireturn, 1) := by decide +kernel
theorem dX7_winter_31 : decode cX7_winter 31 = .ok (.aload_n 0, 1) := by decide +kernel
theorem dX7_winter_32 : decode cX7_winter 32 = .ok (.getfield 7, 3) := by decide +kernel
theorem dX7_winter_35 : decode cX7_winter 35 = .ok (.aload_n 0, 1) := by decide +kernel
theorem dX7_winter_36 : decode cX7_winter 36 = .ok (.getfield 43, 3) := by decide +kernel
theorem dX7_winter_39 : decode cX7_winter 39 = .ok (.invokestatic 247, 3) := by decide +kernel
theorem dX7_winter_42 : decode cX7_winter 42 = .ok (.aload_n 0, 1) := by decide +kernel
theorem dX7_winter_43 : decode cX7_winter 43 = .ok (.getfield 13, 3) := by decide +kernel
theorem dX7_winter_46 : decode cX7_winter 46 = .ok (.aload_n 0, 1) := by decide +kernel
theorem dX7_winter_47 : decode cX7_winter 47 = .ok (.getfield 46, 3) := by decide +kernel
theorem dX7_winter_50 : decode cX7_winter 50 = .ok (.invokestatic 247, 3) := by decide +kernel
theorem dX7_winter_53 : decode cX7_winter 53 = .ok (.aload_n 0, 1) := by decide +kernel
theorem dX7_winter_54 : decode cX7_winter 54 = .ok (.getfield 16, 3) := by decide +kernel
theorem dX7_winter_57 : decode cX7_winter 57 = .ok (.aload_n 0, 1) := by decide +kernel
theorem dX7_winter_58 : decode cX7_winter 58 = .ok (.getfield 49, 3) := by decide +kernel
theorem dX7_winter_61 : decode cX7_winter 61 = .ok (.invokestatic 247, 3) := by decide +kernel
theorem dX7_winter_64 : decode cX7_winter 64 = .ok (.aload_n 0, 1) := by decide +kernel
theorem dX7_winter_65 : decode cX7_winter 65 = .ok (.iload_n 2, 1) := by decide +kernel
theorem dX7_winter_66 : decode cX7_winter 66 = .ok (.putfield 237, 3) := by decide +kernel
theorem dX7_winter_69 : decode cX7_winter 69 = .ok (.iconst 0, 1) := by decide +kernel
theorem dX7_winter_70 : decode cX7_winter 70 = .ok (.istore 4, 2) := by decide +kernel
theorem dX7_winter_72 : decode cX7_winter 72 = .ok (.iload 4, 2) := by decide +kernel
theorem dX7_winter_74 : decode cX7_winter 74 = .ok (.iload_n 1, 1) := by decide +kernel
theorem dX7_winter_75 : decode cX7_winter 75 = .ok (.if_icmp .ge 40, 3) := by decide +kernel
theorem dX7_winter_78 : decode cX7_winter 78 = .ok (.aload_n 0, 1) := by decide +kernel
theorem dX7_winter_79 : decode cX7_winter 79 = .ok (.iconst 4, 1) := by decide +kernel
theorem dX7_winter_80 : decode cX7_winter 80 = .ok (.invokevirtual 251, 3) := by decide +kernel
theorem dX7_winter_83 : decode cX7_winter 83 = .ok (.istore 5, 2) := by decide +kernel
