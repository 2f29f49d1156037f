theorem dX7_winter_85 : decode cX7_winter 85 = .ok (.aload_n 0, 1) := by decide +kernel
theorem dX7_winter_86 : decode cX7_winter 86 = .ok (.iload 5, 2) := by decide +kernel
theorem dX7_winter_88 : decode cX7_winter 88 = .ok (.iload 5, 2) := by decide +kernel
theorem dX7_winter_90 : decode cX7_winter 90 = .ok (.iconst 2, 1) := by decide +kernel
theorem dX7_winter_91 : decode cX7_winter 91 = .ok (.if_icmp .ge 14, 3) := by decide +kernel
theorem dX7_winter_94 : decode cX7_winter 94 = .ok (.iconst 1, 1) := by decide +kernel
theorem dX7_winter_95 : decode cX7_winter 95 = .ok (.aload_n 0, 1) := by decide +kernel
theorem dX7_winter_96 : decode cX7_winter 96 = .ok (.bipush 9, 2) := by decide +kernel
theorem dX7_winter_98 : decode cX7_winter 98 = .ok (.invokevirtual 251, 3) := by decide +kernel
theorem dX7_winter_101 : decode cX7_winter 101 = .ok (.iadd, 1) := by decide +kernel
theorem dX7_winter_102 : decode cX7_winter 102 = .ok (.goto 4, 3) := by decide +kernel
theorem dX7_winter_105 : decode cX7_winter 105 = .ok (.iconst 0, 1) := by decide +kernel
theorem dX7_winter_106 : decode cX7_winter 106 = .ok (.invokevirtual 176, 3) := by decide +kernel
theorem dX7_winter_109 : decode cX7_winter 109 = .ok (.iinc 4 1, 3) := by decide +kernel
theorem dX7_winter_112 : decode cX7_winter 112 = .ok (.goto (-40), 3) := by decide +kernel
theorem dX7_winter_115 : decode cX7_winter 115 = .ok (.aload_n 0, 1) := by decide +kernel
theorem dX7_winter_116 : decode cX7_winter 116 = .ok (.invokevirtual 173, 3) := by decide +kernel
theorem dX7_winter_119 : decode cX7_winter 119 = .ok (.istore 4, 2) := by decide +kernel
theorem dX7_winter_121 : decode cX7_winter 121 = .ok (.iconst 0, 1) := by decide +kernel
theorem dX7_winter_122 : decode cX7_winter 122 = .ok (.istore 5, 2) := by decide +kernel
theorem dX7_winter_124 : decode cX7_winter 124 = .ok (.iconst 0, 1) := by decide +kernel
theorem dX7_winter_125 : decode cX7_winter 125 = .ok (.istore 6, 2) := by decide +kernel
theorem dX7_winter_127 : decode cX7_winter 127 = .ok (.iload 6, 2) := by decide +kernel
theorem dX7_winter_129 : decode cX7_winter 129 = .ok (.aload_n 0, 1) := by decide +kernel
theorem dX7_winter_130 : decode cX7_winter 130 = .ok (.invokevirtual 71, 3) := by decide +kernel
theorem dX7_winter_133 : decode cX7_winter 133 = .ok (.if_icmp .ge 21, 3) := by decide +kernel
theorem dX7_winter_136 : decode cX7_winter 136 = .ok (.iload 5, 2) := by decide +kernel
theorem dX7_winter_138 : decode cX7_winter 138 = .ok (.aload_n 0, 1) := by decide +kernel
theorem dX7_winter_139 : decode cX7_winter 139 = .ok (.getfield 7, 3) := by decide +kernel
theorem dX7_winter_142 : decode cX7_winter 142 = .ok (.iload 6, 2) := by decide +kernel
theorem dX7_winter_144 : decode cX7_winter 144 = .ok (.iaload, 1) := by decide +kernel
theorem dX7_winter_145 : decode cX7_winter 145 = .ok (.iadd, 1) := by decide +kernel
theorem dX7_winter_146 : decode cX7_winter 146 = .ok (.istore 5, 2) := by decide +kernel
theorem dX7_winter_148 : decode cX7_winter 148 = .ok (.iinc 6 1, 3) := by decide +kernel
theorem dX7_winter_151 : decode cX7_winter 151 = .ok (.goto (-24), 3) := by decide +kernel
theorem dX7_winter_154 : decode cX7_winter 154 = .ok (.aload_n 0, 1) := by decide +kernel
theorem dX7_winter_155 : decode cX7_winter 155 = .ok (.getfield 43, 3) := by decide +kernel
theorem dX7_winter_158 : decode cX7_winter 158 = .ok (.aload_n 0, 1) := by decide +kernel
theorem dX7_winter_159 : decode cX7_winter 159 = .ok (.getfield 7, 3) := by decide +kernel
theorem dX7_winter_162 : decode cX7_winter 162 = .ok (.invokestatic 247, 3) := by decide +kernel
theorem dX7_winter_165 : decode cX7_winter 165 = .ok (.aload_n 0, 1) := by decide +kernel
theorem dX7_winter_166 : decode cX7_winter 166 = .ok (.getfield 46, 3) := by decide +kernel
theorem dX7_winter_169 : decode cX7_winter 169 = .ok (.aload_n 0, 1) := by decide +kernel
theorem dX7_winter_170 : decode cX7_winter 170 = .ok (.getfield 13, 3) := by decide +kernel
theorem dX7_winter_173 : decode cX7_winter 173 = .ok (.invokestatic 247, 3) := by decide +kernel
theorem dX7_winter_176 : decode cX7_winter 176 = .ok (.aload_n 0, 1) := by decide +kernel
theorem dX7_winter_177 : decode cX7_winter 177 = .ok (.getfield 49, 3) := by decide +kernel
theorem dX7_winter_180 : decode cX7_winter 180 = .ok (.aload_n 0, 1) := by decide +kernel
theorem dX7_winter_181 : decode cX7_winter 181 = .ok (.getfield 16, 3) := by decide +kernel
theorem dX7_winter_184 : decode cX7_winter 184 = .ok (.invokestatic 247, 3) := by decide +kernel
theorem dX7_winter_187 : decode cX7_winter 187 = .ok (.iload_n 3, 1) := by decide +kernel
theorem dX7_winter_188 : decode cX7_winter 188 = .ok (.ifCond .ne 8, 3) := by decide +kernel
theorem dX7_winter_191 : decode cX7_winter 191 = .ok (.iload 4, 2) := by decide +kernel
theorem dX7_winter_193 : decode cX7_winter 193 = .ok (.goto 17, 3) := by decide +kernel
theorem dX7_winter_196 : decode cX7_winter 196 = .ok (.iload_n 3, 1) := by decide +kernel
theorem dX7_winter_197 : decode cX7_winter 197 = .ok (.iconst 1, 1) := by decide +kernel
theorem dX7_winter_198 : decode cX7_winter 198 = .ok (.if_icmp .ne 8, 3) := by decide +kernel
theorem dX7_winter_201 : decode cX7_winter 201 = .ok (.iload 5, 2) := by decide +kernel
theorem dX7_winter_203 : decode cX7_winter 203 = .ok (.goto 7, 3) := by decide +kernel
theorem dX7_winter_206 : decode cX7_winter 206 = .ok (.aload_n 0, 1) := by decide +kernel
theorem dX7_winter_207 : decode cX7_winter 207 = .ok (.getfield 237, 3) := by decide +kernel
theorem dX7_winter_210 : decode cX7_winter 210 = .ok (.ireturn, 1) := by decide +kernel
theorem dX7_image_0 : decode cX7_image 0 = .ok (.aload_n 0, 1) := by decide +kernel
theorem dX7_image_1 : decode cX7_image 1 = .ok (.getfield 7, 3) := by decide +kernel
theorem dX7_image_4 : decode cX7_image 4 = .ok (.aload_n 0, 1) := by decide +kernel
theorem dX7_image_5 : decode cX7_image 5 = .ok (.getfield 52, 3) := by decide +kernel
theorem dX7_image_8 : decode cX7_image 8 = .ok (.invokestatic 247, 3) := by decide +kernel
theorem dX7_image_11 : decode cX7_image 11 = .ok (.aload_n 0, 1) := by decide +kernel
theorem dX7_image_12 : decode cX7_image 12 = .ok (.getfield 13, 3) := by decide +kernel
theorem dX7_image_15 : decode cX7_image 15 = .ok (.aload_n 0, 1) := by decide +kernel
theorem dX7_image_16 : decode cX7_image 16 = .ok (.getfield 55, 3) := by decide +kernel
theorem dX7_image_19 : decode cX7_image 19 = .ok (.invokestatic 247, 3) := by decide +kernel
theorem dX7_image_22 : decode cX7_image 22 = .ok (.aload_n 0, 1) := by decide +kernel
theorem dX7_image_23 : decode cX7_image 23 = .ok (.getfield 16, 3) := by decide +kernel
theorem dX7_image_26 : decode cX7_image 26 = .ok (.aload_n 0, 1) := by decide +kernel
theorem dX7_image_27 : decode cX7_image 27 = .ok (.getfield 58, 3) := by decide +kernel
theorem dX7_image_30 : decode cX7_image 30 = .ok (.invokestatic 247, 3) := by decide +kernel
theorem dX7_image_33 : decode cX7_image 33 = .ok (.aload_n 0, 1) := by decide +kernel
theorem dX7_image_34 : decode cX7_image 34 = .ok (.aload_n 0, 1) := by decide +kernel
theorem dX7_image_35 : decode cX7_image 35 = .ok (.getfield 79, 3) := by decide +kernel
theorem dX7_image_38 : decode cX7_image 38 = .ok (.putfield 254, 3) := by decide +kernel
theorem dX7_image_41 : decode cX7_image 41 = .ok (.aload_n 0, 1) := by decide +kernel
theorem dX7_image_42 : decode cX7_image 42 = .ok (.aload_n 0, 1) := by decide +kernel
theorem dX7_image_43 : decode cX7_image 43 = .ok (.getfield 88, 3) := by decide +kernel
theorem dX7_image_46 : decode cX7_image 46 = .ok (.putfield 257, 3) := by decide +kernel
theorem dX7_image_49 : decode cX7_image 49 = .ok (.aload_n 0, 1) := by decide +kernel
theorem dX7_image_50 : decode cX7_image 50 = .ok (.aload_n 0, 1) := by decide +kernel
theorem dX7_image_51 : decode cX7_image 51 = .ok (.getfield 91, 3) := by decide +kernel
theorem dX7_image_54 : decode cX7_image 54 = .ok (.putfield 61, 3) := by decide +kernel
theorem dX7_image_57 : decode cX7_image 57 = .ok (.aload_n 0, 1) := by decide +kernel
theorem dX7_image_58 : decode cX7_image 58 = .ok (.getfield 79, 3) := by decide +kernel
theorem dX7_image_61 : decode cX7_image 61 = .ok (.ireturn, 1) := by decide +kernel
theorem dX7_restore_0 : decode cX7_restore 0 = .ok (.aload_n 0, 1) := by decide +kernel
theorem dX7_restore_1 : decode cX7_restore 1 = .ok (.getfield 61, 3) := by decide +kernel
theorem dX7_restore_4 : decode cX7_restore 4 = .ok (.aload_n 0, 1) := by decide +kernel
theorem dX7_restore_5 : decode cX7_restore 5 = .ok (.getfield 91, 3) := by decide +kernel
theorem dX7_restore_8 : decode cX7_restore 8 = .ok (.if_icmp .eq 6, 3) := by decide +kernel
theorem dX7_restore_11 : decode cX7_restore 11 = .ok (.bipush (-103), 2) := by decide +kernel
theorem dX7_restore_13 : decode cX7_restore 13 = .ok (.ireturn, 1) := by decide +kernel
theorem dX7_restore_14 : decode cX7_restore 14 = .ok (.aload_n 0, 1) := by decide +kernel
theorem dX7_restore_15 : decode cX7_restore 15 = .ok (.getfield 52, 3) := by decide +kernel
theorem dX7_restore_18 : decode cX7_restore 18 = .ok (.aload_n 0, 1) := by decide +kernel
theorem dX7_restore_19 : decode cX7_restore 19 = .ok (.getfield 7, 3) := by decide +kernel
theorem dX7_restore_22 : decode cX7_restore 22 = .ok (.invokestatic 247, 3) := by decide +kernel
theorem dX7_restore_25 : decode cX7_restore 25 = .ok (.aload_n 0, 1) := by decide +kernel
theorem dX7_restore_26 : decode cX7_restore 26 = .ok (.getfield 55, 3) := by decide +kernel
theorem dX7_restore_29 : decode cX7_restore 29 = .ok (.aload_n 0, 1) := by decide +kernel
theorem dX7_restore_30 : decode cX7_restore 30 = .ok (.getfield 13, 3) := by decide +kernel
theorem dX7_restore_33 : decode cX7_restore 33 = .ok (.invokestatic 247, 3) := by decide +kernel
theorem dX7_restore_36 : decode cX7_restore 36 = .ok (.aload_n 0, 1) := by decide +kernel
theorem dX7_restore_37 : decode cX7_restore 37 = .ok (.getfield 58, 3) := by decide +kernel
theorem dX7_restore_40 : decode cX7_restore 40 = .ok (.aload_n 0, 1) := by decide +kernel
theorem dX7_restore_41 : decode cX7_restore 41 = .ok (.getfield 16, 3) := by decide +kernel
theorem dX7_restore_44 : decode cX7_restore 44 = .ok (.invokestatic 247, 3) := by decide +kernel
theorem dX7_restore_47 : decode cX7_restore 47 = .ok (.aload_n 0, 1) := by decide +kernel
theorem dX7_restore_48 : decode cX7_restore 48 = .ok (.aload_n 0, 1) := by decide +kernel
theorem dX7_restore_49 : decode cX7_restore 49 = .ok (.getfield 254, 3) := by decide +kernel
theorem dX7_restore_52 : decode cX7_restore 52 = .ok (.putfield 79, 3) := by decide +kernel
theorem dX7_restore_55 : decode cX7_restore 55 = .ok (.aload_n 0, 1) := by decide +kernel
theorem dX7_restore_56 : decode cX7_restore 56 = .ok (.aload_n 0, 1) := by decide +kernel
theorem dX7_restore_57 : decode cX7_restore 57 = .ok (.getfield 257, 3) := by decide +kernel
theorem dX7_restore_60 : decode cX7_restore 60 = .ok (.putfield 88, 3) := by decide +kernel
theorem dX7_restore_63 : decode cX7_restore 63 = .ok (.aload_n 0, 1) := by decide +kernel
theorem dX7_restore_64 : decode cX7_restore 64 = .ok (.getfield 79, 3) := by decide +kernel
theorem dX7_restore_67 : decode cX7_restore 67 = .ok (.ireturn, 1) := by decide +kernel
theorem dX7_countOf_0 : decode cX7_countOf 0 = .ok (.iload_n 1, 1) := by decide +kernel
theorem dX7_countOf_1 : decode cX7_countOf 1 = .ok (.tableswitch 69 0 5 #[39, 44, 49, 54, 59, 64], 39) := by decide +kernel
theorem dX7_countOf_40 : decode cX7_countOf 40 = .ok (.aload_n 0, 1) := by decide +kernel
theorem dX7_countOf_41 : decode cX7_countOf 41 = .ok (.invokevirtual 71, 3) := by decide +kernel
theorem dX7_countOf_44 : decode cX7_countOf 44 = .ok (.ireturn, 1) := by decide +kernel
theorem dX7_countOf_45 : decode cX7_countOf 45 = .ok (.aload_n 0, 1) := by decide +kernel
theorem dX7_countOf_46 : decode cX7_countOf 46 = .ok (.getfield 79, 3) := by decide +kernel
theorem dX7_countOf_49 : decode cX7_countOf 49 = .ok (.ireturn, 1) := by decide +kernel
theorem dX7_countOf_50 : decode cX7_countOf 50 = .ok (.aload_n 0, 1) := by decide +kernel
theorem dX7_countOf_51 : decode cX7_countOf 51 = .ok (.invokevirtual 173, 3) := by decide +kernel
theorem dX7_countOf_54 : decode cX7_countOf 54 = .ok (.ireturn, 1) := by decide +kernel
theorem dX7_countOf_55 : decode cX7_countOf 55 = .ok (.aload_n 0, 1) := by decide +kernel
theorem dX7_countOf_56 : decode cX7_countOf 56 = .ok (.getfield 88, 3) := by decide +kernel
theorem dX7_countOf_59 : decode cX7_countOf 59 = .ok (.ireturn, 1) := by decide +kernel
theorem dX7_countOf_60 : decode cX7_countOf 60 = .ok (.aload_n 0, 1) := by decide +kernel
theorem dX7_countOf_61 : decode cX7_countOf 61 = .ok (.getfield 137, 3) := by decide +kernel
theorem dX7_countOf_64 : decode cX7_countOf 64 = .ok (.ireturn, 1) := by decide +kernel
theorem dX7_countOf_65 : decode cX7_countOf 65 = .ok (.aload_n 0, 1) := by decide +kernel
theorem dX7_countOf_66 : decode cX7_countOf 66 = .ok (.getfield 199, 3) := by decide +kernel
theorem dX7_countOf_69 : decode cX7_countOf 69 = .ok (.ireturn, 1) := by decide +kernel
theorem dX7_countOf_70 : decode cX7_countOf 70 = .ok (.bipush (-102), 2) := by decide +kernel
theorem dX7_countOf_72 : decode cX7_countOf 72 = .ok (.ireturn, 1) := by decide +kernel
theorem dX7_count_0 : decode cX7_count 0 = .ok (.aload_n 0, 1) := by decide +kernel
theorem dX7_count_1 : decode cX7_count 1 = .ok (.iload_n 1, 1) := by decide +kernel
theorem dX7_count_2 : decode cX7_count 2 = .ok (.invokevirtual 260, 3) := by decide +kernel
theorem dX7_count_5 : decode cX7_count 5 = .ok (.ireturn, 1) := by decide +kernel
theorem dX7_say_0 : decode cX7_say 0 = .ok (.aload_n 0, 1) := by decide +kernel
theorem dX7_say_1 : decode cX7_say 1 = .ok (.ldc2_w 263, 3) := by decide +kernel
theorem dX7_say_4 : decode cX7_say 4 = .ok (.aload_n 0, 1) := by decide +kernel
theorem dX7_say_5 : decode cX7_say 5 = .ok (.getfield 265, 3) := by decide +kernel
theorem dX7_say_8 : decode cX7_say 8 = .ok (.lmul, 1) := by decide +kernel
theorem dX7_say_9 : decode cX7_say 9 = .ok (.lload_n 1, 1) := by decide +kernel
theorem dX7_say_10 : decode cX7_say 10 = .ok (.ladd, 1) := by decide +kernel
theorem dX7_say_11 : decode cX7_say 11 = .ok (.putfield 265, 3) := by decide +kernel
theorem dX7_say_14 : decode cX7_say 14 = .ok (.return_, 1) := by decide +kernel
theorem dX7_digest_0 : decode cX7_digest 0 = .ok (.aload_n 0, 1) := by decide +kernel
theorem dX7_digest_1 : decode cX7_digest 1 = .ok (.ldc2_w 269, 3) := by decide +kernel
theorem dX7_digest_4 : decode cX7_digest 4 = .ok (.putfield 265, 3) := by decide +kernel
theorem dX7_digest_7 : decode cX7_digest 7 = .ok (.iconst 0, 1) := by decide +kernel
theorem dX7_digest_8 : decode cX7_digest 8 = .ok (.istore_n 1, 1) := by decide +kernel
theorem dX7_digest_9 : decode cX7_digest 9 = .ok (.iload_n 1, 1) := by decide +kernel
theorem dX7_digest_10 : decode cX7_digest 10 = .ok (.aload_n 0, 1) := by decide +kernel
theorem dX7_digest_11 : decode cX7_digest 11 = .ok (.invokevirtual 71, 3) := by decide +kernel
theorem dX7_digest_14 : decode cX7_digest 14 = .ok (.if_icmp .ge 33, 3) := by decide +kernel
theorem dX7_digest_17 : decode cX7_digest 17 = .ok (.iconst 0, 1) := by decide +kernel
theorem dX7_digest_18 : decode cX7_digest 18 = .ok (.istore_n 2, 1) := by decide +kernel
theorem dX7_digest_19 : decode cX7_digest 19 = .ok (.iload_n 2, 1) := by decide +kernel
theorem dX7_digest_20 : decode cX7_digest 20 = .ok (.iconst 4, 1) := by decide +kernel
theorem dX7_digest_21 : decode cX7_digest 21 = .ok (.if_icmp .ge 20, 3) := by decide +kernel
theorem dX7_digest_24 : decode cX7_digest 24 = .ok (.aload_n 0, 1) := by decide +kernel
theorem dX7_digest_25 : decode cX7_digest 25 = .ok (.aload_n 0, 1) := by decide +kernel
theorem dX7_digest_26 : decode cX7_digest 26 = .ok (.iload_n 1, 1) := by decide +kernel
theorem dX7_digest_27 : decode cX7_digest 27 = .ok (.iload_n 2, 1) := by decide +kernel
theorem dX7_digest_28 : decode cX7_digest 28 = .ok (.invokevirtual 110, 3) := by decide +kernel
theorem dX7_digest_31 : decode cX7_digest 31 = .ok (.i2l, 1) := by decide +kernel
theorem dX7_digest_32 : decode cX7_digest 32 = .ok (.invokevirtual 271, 3) := by decide +kernel
theorem dX7_digest_35 : decode cX7_digest 35 = .ok (.iinc 2 1, 3) := by decide +kernel
theorem dX7_digest_38 : decode cX7_digest 38 = .ok (.goto (-19), 3) := by decide +kernel
theorem dX7_digest_41 : decode cX7_digest 41 = .ok (.iinc 1 1, 3) := by decide +kernel
theorem dX7_digest_44 : decode cX7_digest 44 = .ok (.goto (-35), 3) := by decide +kernel
theorem dX7_digest_47 : decode cX7_digest 47 = .ok (.iconst 0, 1) := by decide +kernel
theorem dX7_digest_48 : decode cX7_digest 48 = .ok (.istore_n 1, 1) := by decide +kernel
theorem dX7_digest_49 : decode cX7_digest 49 = .ok (.iload_n 1, 1) := by decide +kernel
theorem dX7_digest_50 : decode cX7_digest 50 = .ok (.aload_n 0, 1) := by decide +kernel
theorem dX7_digest_51 : decode cX7_digest 51 = .ok (.getfield 79, 3) := by decide +kernel
theorem dX7_digest_54 : decode cX7_digest 54 = .ok (.if_icmp .ge 34, 3) := by decide +kernel
theorem dX7_digest_57 : decode cX7_digest 57 = .ok (.iconst 0, 1) := by decide +kernel
theorem dX7_digest_58 : decode cX7_digest 58 = .ok (.istore_n 2, 1) := by decide +kernel
theorem dX7_digest_59 : decode cX7_digest 59 = .ok (.iload_n 2, 1) := by decide +kernel
theorem dX7_digest_60 : decode cX7_digest 60 = .ok (.bipush 8, 2) := by decide +kernel
theorem dX7_digest_62 : decode cX7_digest 62 = .ok (.if_icmp .ge 20, 3) := by decide +kernel
theorem dX7_digest_65 : decode cX7_digest 65 = .ok (.aload_n 0, 1) := by decide +kernel
theorem dX7_digest_66 : decode cX7_digest 66 = .ok (.aload_n 0, 1) := by decide +kernel
theorem dX7_digest_67 : decode cX7_digest 67 = .ok (.iload_n 1, 1) := by decide +kernel
theorem dX7_digest_68 : decode cX7_digest 68 = .ok (.iload_n 2, 1) := by decide +kernel
theorem dX7_digest_69 : decode cX7_digest 69 = .ok (.invokevirtual 132, 3) := by decide +kernel
theorem dX7_digest_72 : decode cX7_digest 72 = .ok (.i2l, 1) := by decide +kernel
theorem dX7_digest_73 : decode cX7_digest 73 = .ok (.invokevirtual 271, 3) := by decide +kernel
theorem dX7_digest_76 : decode cX7_digest 76 = .ok (.iinc 2 1, 3) := by decide +kernel
theorem dX7_digest_79 : decode cX7_digest 79 = .ok (.goto (-20), 3) := by decide +kernel
theorem dX7_digest_82 : decode cX7_digest 82 = .ok (.iinc 1 1, 3) := by decide +kernel
theorem dX7_digest_85 : decode cX7_digest 85 = .ok (.goto (-36), 3) := by decide +kernel
theorem dX7_digest_88 : decode cX7_digest 88 = .ok (.iconst 0, 1) := by decide +kernel
theorem dX7_digest_89 : decode cX7_digest 89 = .ok (.istore_n 1, 1) := by decide +kernel
theorem dX7_digest_90 : decode cX7_digest 90 = .ok (.iload_n 1, 1) := by decide +kernel
theorem dX7_digest_91 : decode cX7_digest 91 = .ok (.bipush 6, 2) := by decide +kernel
theorem dX7_digest_93 : decode cX7_digest 93 = .ok (.if_icmp .ge 19, 3) := by decide +kernel
theorem dX7_digest_96 : decode cX7_digest 96 = .ok (.aload_n 0, 1) := by decide +kernel
theorem dX7_digest_97 : decode cX7_digest 97 = .ok (.aload_n 0, 1) := by decide +kernel
theorem dX7_digest_98 : decode cX7_digest 98 = .ok (.iload_n 1, 1) := by decide +kernel
theorem dX7_digest_99 : decode cX7_digest 99 = .ok (.invokevirtual 188, 3) := by decide +kernel
theorem dX7_digest_102 : decode cX7_digest 102 = .ok (.i2l, 1) := by decide +kernel
theorem dX7_digest_103 : decode cX7_digest 103 = .ok (.invokevirtual 271, 3) := by decide +kernel
theorem dX7_digest_106 : decode cX7_digest 106 = .ok (.iinc 1 1, 3) := by decide +kernel
theorem dX7_digest_109 : decode cX7_digest 109 = .ok (.goto (-19), 3) := by decide +kernel
theorem dX7_digest_112 : decode cX7_digest 112 = .ok (.aload_n 0, 1) := by decide +kernel
theorem dX7_digest_113 : decode cX7_digest 113 = .ok (.invokevirtual 208, 3) := by decide +kernel
theorem dX7_digest_116 : decode cX7_digest 116 = .ok (.istore_n 1, 1) := by decide +kernel
theorem dX7_digest_117 : decode cX7_digest 117 = .ok (.aload_n 0, 1) := by decide +kernel
theorem dX7_digest_118 : decode cX7_digest 118 = .ok (.bipush 6, 2) := by decide +kernel
theorem dX7_digest_120 : decode cX7_digest 120 = .ok (.iload_n 1, 1) := by decide +kernel
theorem dX7_digest_121 : decode cX7_digest 121 = .ok (.isub, 1) := by decide +kernel
theorem dX7_digest_122 : decode cX7_digest 122 = .ok (.i2l, 1) := by decide +kernel
theorem dX7_digest_123 : decode cX7_digest 123 = .ok (.invokevirtual 271, 3) := by decide +kernel
theorem dX7_digest_126 : decode cX7_digest 126 = .ok (.aload_n 0, 1) := by decide +kernel
theorem dX7_digest_127 : decode cX7_digest 127 = .ok (.iload_n 1, 1) := by decide +kernel
theorem dX7_digest_128 : decode cX7_digest 128 = .ok (.i2l, 1) := by decide +kernel
theorem dX7_digest_129 : decode cX7_digest 129 = .ok (.invokevirtual 271, 3) := by decide +kernel
theorem dX7_digest_132 : decode cX7_digest 132 = .ok (.aload_n 0, 1) := by decide +kernel
theorem dX7_digest_133 : decode cX7_digest 133 = .ok (.aload_n 0, 1) := by decide +kernel
theorem dX7_digest_134 : decode cX7_digest 134 = .ok (.iconst 0, 1) := by decide +kernel
theorem dX7_digest_135 : decode cX7_digest 135 = .ok (.aload_n 0, 1) := by decide +kernel
theorem dX7_digest_136 : decode cX7_digest 136 = .ok (.invokevirtual 71, 3) := by decide +kernel
theorem dX7_digest_139 : decode cX7_digest 139 = .ok (.iconst 1, 1) := by decide +kernel
theorem dX7_digest_140 : decode cX7_digest 140 = .ok (.isub, 1) := by decide +kernel
theorem dX7_digest_141 : decode cX7_digest 141 = .ok (.iconst 0, 1) := by decide +kernel
theorem dX7_digest_142 : decode cX7_digest 142 = .ok (.invokevirtual 218, 3) := by decide +kernel
theorem dX7_digest_145 : decode cX7_digest 145 = .ok (.i2l, 1) := by decide +kernel
theorem dX7_digest_146 : decode cX7_digest 146 = .ok (.invokevirtual 271, 3) := by decide +kernel
theorem dX7_digest_149 : decode cX7_digest 149 = .ok (.aload_n 0, 1) := by decide +kernel
theorem dX7_digest_150 : decode cX7_digest 150 = .ok (.aload_n 0, 1) := by decide +kernel
theorem dX7_digest_151 : decode cX7_digest 151 = .ok (.iconst 0, 1) := by decide +kernel
theorem dX7_digest_152 : decode cX7_digest 152 = .ok (.aload_n 0, 1) := by decide +kernel
theorem dX7_digest_153 : decode cX7_digest 153 = .ok (.invokevirtual 71, 3) := by decide +kernel
theorem dX7_digest_156 : decode cX7_digest 156 = .ok (.iconst 1, 1) := by decide +kernel
theorem dX7_digest_157 : decode cX7_digest 157 = .ok (.isub, 1) := by decide +kernel
theorem dX7_digest_158 : decode cX7_digest 158 = .ok (.iconst 1, 1) := by decide +kernel
theorem dX7_digest_159 : decode cX7_digest 159 = .ok (.invokevirtual 218, 3) := by decide +kernel
theorem dX7_digest_162 : decode cX7_digest 162 = .ok (.i2l, 1) := by decide +kernel
theorem dX7_digest_163 : decode cX7_digest 163 = .ok (.invokevirtual 271, 3) := by decide +kernel
theorem dX7_digest_166 : decode cX7_digest 166 = .ok (.iconst 0, 1) := by decide +kernel
theorem dX7_digest_167 : decode cX7_digest 167 = .ok (.istore_n 2, 1) := by decide +kernel
theorem dX7_digest_168 : decode cX7_digest 168 = .ok (.iload_n 2, 1) := by decide +kernel
theorem dX7_digest_169 : decode cX7_digest 169 = .ok (.aload_n 0, 1) := by decide +kernel
theorem dX7_digest_170 : decode cX7_digest 170 = .ok (.getfield 137, 3) := by decide +kernel
theorem dX7_digest_173 : decode cX7_digest 173 = .ok (.if_icmp .ge 20, 3) := by decide +kernel
theorem dX7_digest_176 : decode cX7_digest 176 = .ok (.aload_n 0, 1) := by decide +kernel
theorem dX7_digest_177 : decode cX7_digest 177 = .ok (.aload_n 0, 1) := by decide +kernel
theorem dX7_digest_178 : decode cX7_digest 178 = .ok (.getfield 19, 3) := by decide +kernel
theorem dX7_digest_181 : decode cX7_digest 181 = .ok (.iload_n 2, 1) := by decide +kernel
theorem dX7_digest_182 : decode cX7_digest 182 = .ok (.iaload, 1) := by decide +kernel
theorem dX7_digest_183 : decode cX7_digest 183 = .ok (.i2l, 1) := by decide +kernel
theorem dX7_digest_184 : decode cX7_digest 184 = .ok (.invokevirtual 271, 3) := by decide +kernel
theorem dX7_digest_187 : decode cX7_digest 187 = .ok (.iinc 2 1, 3) := by decide +kernel
theorem dX7_digest_190 : decode cX7_digest 190 = .ok (.goto (-22), 3) := by decide +kernel
theorem dX7_digest_193 : decode cX7_digest 193 = .ok (.iconst 0, 1) := by decide +kernel
theorem dX7_digest_194 : decode cX7_digest 194 = .ok (.istore_n 2, 1) := by decide +kernel
theorem dX7_digest_195 : decode cX7_digest 195 = .ok (.iload_n 2, 1) := by decide +kernel
theorem dX7_digest_196 : decode cX7_digest 196 = .ok (.bipush 6, 2) := by decide +kernel
theorem dX7_digest_198 : decode cX7_digest 198 = .ok (.if_icmp .ge 19, 3) := by decide +kernel
theorem dX7_digest_201 : decode cX7_digest 201 = .ok (.aload_n 0, 1) := by decide +kernel
theorem dX7_digest_202 : decode cX7_digest 202 = .ok (.aload_n 0, 1) := by decide +kernel
theorem dX7_digest_203 : decode cX7_digest 203 = .ok (.iload_n 2, 1) := by decide +kernel
theorem dX7_digest_204 : decode cX7_digest 204 = .ok (.invokevirtual 260, 3) := by decide +kernel
theorem dX7_digest_207 : decode cX7_digest 207 = .ok (.i2l, 1) := by decide +kernel
theorem dX7_digest_208 : decode cX7_digest 208 = .ok (.invokevirtual 271, 3) := by decide +kernel
theorem dX7_digest_211 : decode cX7_digest 211 = .ok (.iinc 2 1, 3) := by decide +kernel
theorem dX7_digest_214 : decode cX7_digest 214 = .ok (.goto (-19), 3) := by decide +kernel
theorem dX7_digest_217 : decode cX7_digest 217 = .ok (.aload_n 0, 1) := by decide +kernel
theorem dX7_digest_218 : decode cX7_digest 218 = .ok (.getfield 265, 3) := by decide +kernel
theorem dX7_digest_221 : decode cX7_digest 221 = .ok (.lreturn, 1) := by decide +kernel
