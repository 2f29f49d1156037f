theorem dX7_days_49 : decode cX7_days 49 = .ok (.getfield 88, 3) := by decide +kernel
theorem dX7_days_52 : decode cX7_days 52 = .ok (.aload_n 0, 1) := by decide +kernel
theorem dX7_days_53 : decode cX7_days 53 = .ok (.getfield 144, 3) := by decide +kernel
theorem dX7_days_56 : decode cX7_days 56 = .ok (.iadd, 1) := by decide +kernel
theorem dX7_days_57 : decode cX7_days 57 = .ok (.putfield 88, 3) := by decide +kernel
theorem dX7_days_60 : decode cX7_days 60 = .ok (.aload_n 0, 1) := by decide +kernel
theorem dX7_days_61 : decode cX7_days 61 = .ok (.iconst 0, 1) := by decide +kernel
theorem dX7_days_62 : decode cX7_days 62 = .ok (.putfield 137, 3) := by decide +kernel
theorem dX7_days_65 : decode cX7_days 65 = .ok (.iload_n 1, 1) := by decide +kernel
theorem dX7_days_66 : decode cX7_days 66 = .ok (.aload_n 0, 1) := by decide +kernel
theorem dX7_days_67 : decode cX7_days 67 = .ok (.invokevirtual 173, 3) := by decide +kernel
theorem dX7_days_70 : decode cX7_days 70 = .ok (.isub, 1) := by decide +kernel
theorem dX7_days_71 : decode cX7_days 71 = .ok (.ireturn, 1) := by decide +kernel
theorem dX7_stays_0 : decode cX7_stays 0 = .ok (.iload_n 2, 1) := by decide +kernel
theorem dX7_stays_1 : decode cX7_stays 1 = .ok (.istore 4, 2) := by decide +kernel
theorem dX7_stays_3 : decode cX7_stays 3 = .ok (.iload_n 3, 1) := by decide +kernel
theorem dX7_stays_4 : decode cX7_stays 4 = .ok (.istore 5, 2) := by decide +kernel
theorem dX7_stays_6 : decode cX7_stays 6 = .ok (.iload 4, 2) := by decide +kernel
theorem dX7_stays_8 : decode cX7_stays 8 = .ok (.iload 5, 2) := by decide +kernel
theorem dX7_stays_10 : decode cX7_stays 10 = .ok (.if_icmp .gt 7, 3) := by decide +kernel
theorem dX7_stays_13 : decode cX7_stays 13 = .ok (.iconst 1, 1) := by decide +kernel
theorem dX7_stays_14 : decode cX7_stays 14 = .ok (.goto 4, 3) := by decide +kernel
theorem dX7_stays_17 : decode cX7_stays 17 = .ok (.iconst 0, 1) := by decide +kernel
theorem dX7_stays_18 : decode cX7_stays 18 = .ok (.istore 6, 2) := by decide +kernel
theorem dX7_stays_20 : decode cX7_stays 20 = .ok (.iconst 0, 1) := by decide +kernel
theorem dX7_stays_21 : decode cX7_stays 21 = .ok (.istore 7, 2) := by decide +kernel
theorem dX7_stays_23 : decode cX7_stays 23 = .ok (.iload 7, 2) := by decide +kernel
theorem dX7_stays_25 : decode cX7_stays 25 = .ok (.aload_n 0, 1) := by decide +kernel
theorem dX7_stays_26 : decode cX7_stays 26 = .ok (.getfield 144, 3) := by decide +kernel
theorem dX7_stays_29 : decode cX7_stays 29 = .ok (.if_icmp .ge 113, 3) := by decide +kernel
theorem dX7_stays_32 : decode cX7_stays 32 = .ok (.iload 6, 2) := by decide +kernel
theorem dX7_stays_34 : decode cX7_stays 34 = .ok (.ifCond .eq 108, 3) := by decide +kernel
theorem dX7_stays_37 : decode cX7_stays 37 = .ok (.aload_n 0, 1) := by decide +kernel
theorem dX7_stays_38 : decode cX7_stays 38 = .ok (.getfield 25, 3) := by decide +kernel
theorem dX7_stays_41 : decode cX7_stays 41 = .ok (.iload 7, 2) := by decide +kernel
theorem dX7_stays_43 : decode cX7_stays 43 = .ok (.iaload, 1) := by decide +kernel
theorem dX7_stays_44 : decode cX7_stays 44 = .ok (.istore 8, 2) := by decide +kernel
theorem dX7_stays_46 : decode cX7_stays 46 = .ok (.aload_n 0, 1) := by decide +kernel
theorem dX7_stays_47 : decode cX7_stays 47 = .ok (.getfield 22, 3) := by decide +kernel
theorem dX7_stays_50 : decode cX7_stays 50 = .ok (.iload 7, 2) := by decide +kernel
theorem dX7_stays_52 : decode cX7_stays 52 = .ok (.iaload, 1) := by decide +kernel
theorem dX7_stays_53 : decode cX7_stays 53 = .ok (.iconst 1, 1) := by decide +kernel
theorem dX7_stays_54 : decode cX7_stays 54 = .ok (.if_icmp .ne 50, 3) := by decide +kernel
theorem dX7_stays_57 : decode cX7_stays 57 = .ok (.iload 5, 2) := by decide +kernel
theorem dX7_stays_59 : decode cX7_stays 59 = .ok (.iload 8, 2) := by decide +kernel
theorem dX7_stays_61 : decode cX7_stays 61 = .ok (.invokestatic 160, 3) := by decide +kernel
theorem dX7_stays_64 : decode cX7_stays 64 = .ok (.istore 5, 2) := by decide +kernel
theorem dX7_stays_66 : decode cX7_stays 66 = .ok (.iload 4, 2) := by decide +kernel
theorem dX7_stays_68 : decode cX7_stays 68 = .ok (.iload_n 1, 1) := by decide +kernel
theorem dX7_stays_69 : decode cX7_stays 69 = .ok (.iload 8, 2) := by decide +kernel
theorem dX7_stays_71 : decode cX7_stays 71 = .ok (.invokestatic 163, 3) := by decide +kernel
theorem dX7_stays_74 : decode cX7_stays 74 = .ok (.invokestatic 160, 3) := by decide +kernel
theorem dX7_stays_77 : decode cX7_stays 77 = .ok (.istore 4, 2) := by decide +kernel
theorem dX7_stays_79 : decode cX7_stays 79 = .ok (.iload 5, 2) := by decide +kernel
theorem dX7_stays_81 : decode cX7_stays 81 = .ok (.ifCond .le 17, 3) := by decide +kernel
theorem dX7_stays_84 : decode cX7_stays 84 = .ok (.iload 4, 2) := by decide +kernel
theorem dX7_stays_86 : decode cX7_stays 86 = .ok (.ifCond .le 12, 3) := by decide +kernel
theorem dX7_stays_89 : decode cX7_stays 89 = .ok (.iload_n 1, 1) := by decide +kernel
theorem dX7_stays_90 : decode cX7_stays 90 = .ok (.iconst 3, 1) := by decide +kernel
theorem dX7_stays_91 : decode cX7_stays 91 = .ok (.if_icmp .eq 7, 3) := by decide +kernel
theorem dX7_stays_94 : decode cX7_stays 94 = .ok (.iconst 1, 1) := by decide +kernel
theorem dX7_stays_95 : decode cX7_stays 95 = .ok (.goto 4, 3) := by decide +kernel
theorem dX7_stays_98 : decode cX7_stays 98 = .ok (.iconst 0, 1) := by decide +kernel
theorem dX7_stays_99 : decode cX7_stays 99 = .ok (.istore 6, 2) := by decide +kernel
theorem dX7_stays_101 : decode cX7_stays 101 = .ok (.goto 35, 3) := by decide +kernel
theorem dX7_stays_104 : decode cX7_stays 104 = .ok (.aload_n 0, 1) := by decide +kernel
theorem dX7_stays_105 : decode cX7_stays 105 = .ok (.getfield 22, 3) := by decide +kernel
theorem dX7_stays_108 : decode cX7_stays 108 = .ok (.iload 7, 2) := by decide +kernel
theorem dX7_stays_110 : decode cX7_stays 110 = .ok (.iaload, 1) := by decide +kernel
theorem dX7_stays_111 : decode cX7_stays 111 = .ok (.ifCond .ne 25, 3) := by decide +kernel
theorem dX7_stays_114 : decode cX7_stays 114 = .ok (.iload 5, 2) := by decide +kernel
theorem dX7_stays_116 : decode cX7_stays 116 = .ok (.iload 8, 2) := by decide +kernel
theorem dX7_stays_118 : decode cX7_stays 118 = .ok (.iadd, 1) := by decide +kernel
theorem dX7_stays_119 : decode cX7_stays 119 = .ok (.bipush 99, 2) := by decide +kernel
theorem dX7_stays_121 : decode cX7_stays 121 = .ok (.if_icmp .le 8, 3) := by decide +kernel
theorem dX7_stays_124 : decode cX7_stays 124 = .ok (.bipush 99, 2) := by decide +kernel
theorem dX7_stays_126 : decode cX7_stays 126 = .ok (.goto 8, 3) := by decide +kernel
theorem dX7_stays_129 : decode cX7_stays 129 = .ok (.iload 5, 2) := by decide +kernel
theorem dX7_stays_131 : decode cX7_stays 131 = .ok (.iload 8, 2) := by decide +kernel
theorem dX7_stays_133 : decode cX7_stays 133 = .ok (.iadd, 1) := by decide +kernel
theorem dX7_stays_134 : decode cX7_stays 134 = .ok (.istore 5, 2) := by decide +kernel
theorem dX7_stays_136 : decode cX7_stays 136 = .ok (.iinc 7 1, 3) := by decide +kernel
theorem dX7_stays_139 : decode cX7_stays 139 = .ok (.goto (-116), 3) := by decide +kernel
theorem dX7_stays_142 : decode cX7_stays 142 = .ok (.iload 6, 2) := by decide +kernel
theorem dX7_stays_144 : decode cX7_stays 144 = .ok (.ireturn, 1) := by decide +kernel
theorem dX7_needed_0 : decode cX7_needed 0 = .ok (.aload_n 0, 1) := by decide +kernel
theorem dX7_needed_1 : decode cX7_needed 1 = .ok (.iload_n 2, 1) := by decide +kernel
theorem dX7_needed_2 : decode cX7_needed 2 = .ok (.invokevirtual 98, 3) := by decide +kernel
theorem dX7_needed_5 : decode cX7_needed 5 = .ok (.ifCond .ne 6, 3) := by decide +kernel
theorem dX7_needed_8 : decode cX7_needed 8 = .ok (.bipush (-101), 2) := by decide +kernel
theorem dX7_needed_10 : decode cX7_needed 10 = .ok (.ireturn, 1) := by decide +kernel
theorem dX7_needed_11 : decode cX7_needed 11 = .ok (.iload_n 1, 1) := by decide +kernel
theorem dX7_needed_12 : decode cX7_needed 12 = .ok (.i2l, 1) := by decide +kernel
theorem dX7_needed_13 : decode cX7_needed 13 = .ok (.lconst 0, 1) := by decide +kernel
theorem dX7_needed_14 : decode cX7_needed 14 = .ok (.ldc2_w 86, 3) := by decide +kernel
theorem dX7_needed_17 : decode cX7_needed 17 = .ok (.invokestatic 75, 3) := by decide +kernel
theorem dX7_needed_20 : decode cX7_needed 20 = .ok (.ifCond .ne 6, 3) := by decide +kernel
theorem dX7_needed_23 : decode cX7_needed 23 = .ok (.bipush (-102), 2) := by decide +kernel
theorem dX7_needed_25 : decode cX7_needed 25 = .ok (.ireturn, 1) := by decide +kernel
theorem dX7_needed_26 : decode cX7_needed 26 = .ok (.aload_n 0, 1) := by decide +kernel
theorem dX7_needed_27 : decode cX7_needed 27 = .ok (.invokevirtual 169, 3) := by decide +kernel
theorem dX7_needed_30 : decode cX7_needed 30 = .ok (.ifCond .ne 6, 3) := by decide +kernel
theorem dX7_needed_33 : decode cX7_needed 33 = .ok (.bipush (-103), 2) := by decide +kernel
theorem dX7_needed_35 : decode cX7_needed 35 = .ok (.ireturn, 1) := by decide +kernel
theorem dX7_needed_36 : decode cX7_needed 36 = .ok (.iconst 1, 1) := by decide +kernel
theorem dX7_needed_37 : decode cX7_needed 37 = .ok (.istore_n 3, 1) := by decide +kernel
theorem dX7_needed_38 : decode cX7_needed 38 = .ok (.iload_n 3, 1) := by decide +kernel
theorem dX7_needed_39 : decode cX7_needed 39 = .ok (.bipush 10, 2) := by decide +kernel
theorem dX7_needed_41 : decode cX7_needed 41 = .ok (.if_icmp .ge 37, 3) := by decide +kernel
theorem dX7_needed_44 : decode cX7_needed 44 = .ok (.aload_n 0, 1) := by decide +kernel
theorem dX7_needed_45 : decode cX7_needed 45 = .ok (.iload_n 1, 1) := by decide +kernel
theorem dX7_needed_46 : decode cX7_needed 46 = .ok (.iload_n 1, 1) := by decide +kernel
theorem dX7_needed_47 : decode cX7_needed 47 = .ok (.iconst 1, 1) := by decide +kernel
theorem dX7_needed_48 : decode cX7_needed 48 = .ok (.if_icmp .ne 9, 3) := by decide +kernel
theorem dX7_needed_51 : decode cX7_needed 51 = .ok (.iconst 2, 1) := by decide +kernel
theorem dX7_needed_52 : decode cX7_needed 52 = .ok (.iload_n 3, 1) := by decide +kernel
theorem dX7_needed_53 : decode cX7_needed 53 = .ok (.imul, 1) := by decide +kernel
theorem dX7_needed_54 : decode cX7_needed 54 = .ok (.goto 4, 3) := by decide +kernel
theorem dX7_needed_57 : decode cX7_needed 57 = .ok (.iload_n 3, 1) := by decide +kernel
theorem dX7_needed_58 : decode cX7_needed 58 = .ok (.aload_n 0, 1) := by decide +kernel
theorem dX7_needed_59 : decode cX7_needed 59 = .ok (.getfield 7, 3) := by decide +kernel
theorem dX7_needed_62 : decode cX7_needed 62 = .ok (.iload_n 2, 1) := by decide +kernel
theorem dX7_needed_63 : decode cX7_needed 63 = .ok (.iaload, 1) := by decide +kernel
theorem dX7_needed_64 : decode cX7_needed 64 = .ok (.invokevirtual 180, 3) := by decide +kernel
theorem dX7_needed_67 : decode cX7_needed 67 = .ok (.ifCond .eq 5, 3) := by decide +kernel
theorem dX7_needed_70 : decode cX7_needed 70 = .ok (.iload_n 3, 1) := by decide +kernel
theorem dX7_needed_71 : decode cX7_needed 71 = .ok (.ireturn, 1) := by decide +kernel
theorem dX7_needed_72 : decode cX7_needed 72 = .ok (.iinc 3 1, 3) := by decide +kernel
theorem dX7_needed_75 : decode cX7_needed 75 = .ok (.goto (-37), 3) := by decide +kernel
theorem dX7_needed_78 : decode cX7_needed 78 = .ok (.iconst (-1), 1) := by decide +kernel
theorem dX7_needed_79 : decode cX7_needed 79 = .ok (.ireturn, 1) := by decide +kernel
theorem dX7_bears_0 : decode cX7_bears 0 = .ok (.aload_n 0, 1) := by decide +kernel
theorem dX7_bears_1 : decode cX7_bears 1 = .ok (.iload_n 1, 1) := by decide +kernel
theorem dX7_bears_2 : decode cX7_bears 2 = .ok (.invokevirtual 98, 3) := by decide +kernel
theorem dX7_bears_5 : decode cX7_bears 5 = .ok (.ifCond .ne 6, 3) := by decide +kernel
theorem dX7_bears_8 : decode cX7_bears 8 = .ok (.bipush (-101), 2) := by decide +kernel
theorem dX7_bears_10 : decode cX7_bears 10 = .ok (.ireturn, 1) := by decide +kernel
theorem dX7_bears_11 : decode cX7_bears 11 = .ok (.aload_n 0, 1) := by decide +kernel
theorem dX7_bears_12 : decode cX7_bears 12 = .ok (.invokevirtual 169, 3) := by decide +kernel
theorem dX7_bears_15 : decode cX7_bears 15 = .ok (.ifCond .ne 6, 3) := by decide +kernel
theorem dX7_bears_18 : decode cX7_bears 18 = .ok (.bipush (-103), 2) := by decide +kernel
theorem dX7_bears_20 : decode cX7_bears 20 = .ok (.ireturn, 1) := by decide +kernel
theorem dX7_bears_21 : decode cX7_bears 21 = .ok (.aload_n 0, 1) := by decide +kernel
theorem dX7_bears_22 : decode cX7_bears 22 = .ok (.getfield 7, 3) := by decide +kernel
theorem dX7_bears_25 : decode cX7_bears 25 = .ok (.iload_n 1, 1) := by decide +kernel
theorem dX7_bears_26 : decode cX7_bears 26 = .ok (.iaload, 1) := by decide +kernel
theorem dX7_bears_27 : decode cX7_bears 27 = .ok (.istore_n 2, 1) := by decide +kernel
theorem dX7_bears_28 : decode cX7_bears 28 = .ok (.iconst 0, 1) := by decide +kernel
theorem dX7_bears_29 : decode cX7_bears 29 = .ok (.istore_n 3, 1) := by decide +kernel
theorem dX7_bears_30 : decode cX7_bears 30 = .ok (.iload_n 2, 1) := by decide +kernel
theorem dX7_bears_31 : decode cX7_bears 31 = .ok (.iconst 4, 1) := by decide +kernel
theorem dX7_bears_32 : decode cX7_bears 32 = .ok (.if_icmp .ge 62, 3) := by decide +kernel
theorem dX7_bears_35 : decode cX7_bears 35 = .ok (.iload_n 3, 1) := by decide +kernel
theorem dX7_bears_36 : decode cX7_bears 36 = .ok (.aload_n 0, 1) := by decide +kernel
theorem dX7_bears_37 : decode cX7_bears 37 = .ok (.getfield 144, 3) := by decide +kernel
theorem dX7_bears_40 : decode cX7_bears 40 = .ok (.if_icmp .ge 54, 3) := by decide +kernel
theorem dX7_bears_43 : decode cX7_bears 43 = .ok (.aload_n 0, 1) := by decide +kernel
theorem dX7_bears_44 : decode cX7_bears 44 = .ok (.getfield 22, 3) := by decide +kernel
theorem dX7_bears_47 : decode cX7_bears 47 = .ok (.iload_n 3, 1) := by decide +kernel
theorem dX7_bears_48 : decode cX7_bears 48 = .ok (.iaload, 1) := by decide +kernel
theorem dX7_bears_49 : decode cX7_bears 49 = .ok (.ifCond .ne 14, 3) := by decide +kernel
theorem dX7_bears_52 : decode cX7_bears 52 = .ok (.iload_n 2, 1) := by decide +kernel
theorem dX7_bears_53 : decode cX7_bears 53 = .ok (.aload_n 0, 1) := by decide +kernel
theorem dX7_bears_54 : decode cX7_bears 54 = .ok (.getfield 25, 3) := by decide +kernel
theorem dX7_bears_57 : decode cX7_bears 57 = .ok (.iload_n 3, 1) := by decide +kernel
theorem dX7_bears_58 : decode cX7_bears 58 = .ok (.iaload, 1) := by decide +kernel
theorem dX7_bears_59 : decode cX7_bears 59 = .ok (.iadd, 1) := by decide +kernel
theorem dX7_bears_60 : decode cX7_bears 60 = .ok (.goto 27, 3) := by decide +kernel
theorem dX7_bears_63 : decode cX7_bears 63 = .ok (.aload_n 0, 1) := by decide +kernel
theorem dX7_bears_64 : decode cX7_bears 64 = .ok (.getfield 22, 3) := by decide +kernel
theorem dX7_bears_67 : decode cX7_bears 67 = .ok (.iload_n 3, 1) := by decide +kernel
theorem dX7_bears_68 : decode cX7_bears 68 = .ok (.iaload, 1) := by decide +kernel
theorem dX7_bears_69 : decode cX7_bears 69 = .ok (.iconst 1, 1) := by decide +kernel
theorem dX7_bears_70 : decode cX7_bears 70 = .ok (.if_icmp .ne 16, 3) := by decide +kernel
theorem dX7_bears_73 : decode cX7_bears 73 = .ok (.iload_n 2, 1) := by decide +kernel
theorem dX7_bears_74 : decode cX7_bears 74 = .ok (.aload_n 0, 1) := by decide +kernel
theorem dX7_bears_75 : decode cX7_bears 75 = .ok (.getfield 25, 3) := by decide +kernel
theorem dX7_bears_78 : decode cX7_bears 78 = .ok (.iload_n 3, 1) := by decide +kernel
theorem dX7_bears_79 : decode cX7_bears 79 = .ok (.iaload, 1) := by decide +kernel
theorem dX7_bears_80 : decode cX7_bears 80 = .ok (.invokestatic 160, 3) := by decide +kernel
theorem dX7_bears_83 : decode cX7_bears 83 = .ok (.goto 4, 3) := by decide +kernel
theorem dX7_bears_86 : decode cX7_bears 86 = .ok (.iload_n 2, 1) := by decide +kernel
theorem dX7_bears_87 : decode cX7_bears 87 = .ok (.istore_n 2, 1) := by decide +kernel
theorem dX7_bears_88 : decode cX7_bears 88 = .ok (.iinc 3 1, 3) := by decide +kernel
theorem dX7_bears_91 : decode cX7_bears 91 = .ok (.goto (-61), 3) := by decide +kernel
theorem dX7_bears_94 : decode cX7_bears 94 = .ok (.iload_n 2, 1) := by decide +kernel
theorem dX7_bears_95 : decode cX7_bears 95 = .ok (.iconst 4, 1) := by decide +kernel
theorem dX7_bears_96 : decode cX7_bears 96 = .ok (.if_icmp .ge 7, 3) := by decide +kernel
theorem dX7_bears_99 : decode cX7_bears 99 = .ok (.iconst (-1), 1) := by decide +kernel
theorem dX7_bears_100 : decode cX7_bears 100 = .ok (.goto 4, 3) := by decide +kernel
theorem dX7_bears_103 : decode cX7_bears 103 = .ok (.iload_n 3, 1) := by decide +kernel
theorem dX7_bears_104 : decode cX7_bears 104 = .ok (.ireturn, 1) := by decide +kernel
theorem dX7_owesOf_0 : decode cX7_owesOf 0 = .ok (.iconst 0, 1) := by decide +kernel
theorem dX7_owesOf_1 : decode cX7_owesOf 1 = .ok (.istore 4, 2) := by decide +kernel
theorem dX7_owesOf_3 : decode cX7_owesOf 3 = .ok (.iconst 0, 1) := by decide +kernel
theorem dX7_owesOf_4 : decode cX7_owesOf 4 = .ok (.istore 5, 2) := by decide +kernel
theorem dX7_owesOf_6 : decode cX7_owesOf 6 = .ok (.iload 5, 2) := by decide +kernel
theorem dX7_owesOf_8 : decode cX7_owesOf 8 = .ok (.aload_n 0, 1) := by decide +kernel
theorem dX7_owesOf_9 : decode cX7_owesOf 9 = .ok (.getfield 79, 3) := by decide +kernel
theorem dX7_owesOf_12 : decode cX7_owesOf 12 = .ok (.if_icmp .ge 82, 3) := by decide +kernel
theorem dX7_owesOf_15 : decode cX7_owesOf 15 = .ok (.aload_n 0, 1) := by decide +kernel
theorem dX7_owesOf_16 : decode cX7_owesOf 16 = .ok (.getfield 16, 3) := by decide +kernel
theorem dX7_owesOf_19 : decode cX7_owesOf 19 = .ok (.bipush 8, 2) := by decide +kernel
theorem dX7_owesOf_21 : decode cX7_owesOf 21 = .ok (.iload 5, 2) := by decide +kernel
theorem dX7_owesOf_23 : decode cX7_owesOf 23 = .ok (.imul, 1) := by decide +kernel
theorem dX7_owesOf_24 : decode cX7_owesOf 24 = .ok (.iconst 2, 1) := by decide +kernel
theorem dX7_owesOf_25 : decode cX7_owesOf 25 = .ok (.iadd, 1) := by decide +kernel
theorem dX7_owesOf_26 : decode cX7_owesOf 26 = .ok (.iaload, 1) := by decide +kernel
theorem dX7_owesOf_27 : decode cX7_owesOf 27 = .ok (.iload_n 1, 1) := by decide +kernel
theorem dX7_owesOf_28 : decode cX7_owesOf 28 = .ok (.if_icmp .ne 37, 3) := by decide +kernel
theorem dX7_owesOf_31 : decode cX7_owesOf 31 = .ok (.aload_n 0, 1) := by decide +kernel
theorem dX7_owesOf_32 : decode cX7_owesOf 32 = .ok (.getfield 16, 3) := by decide +kernel
theorem dX7_owesOf_35 : decode cX7_owesOf 35 = .ok (.bipush 8, 2) := by decide +kernel
theorem dX7_owesOf_37 : decode cX7_owesOf 37 = .ok (.iload 5, 2) := by decide +kernel
theorem dX7_owesOf_39 : decode cX7_owesOf 39 = .ok (.imul, 1) := by decide +kernel
theorem dX7_owesOf_40 : decode cX7_owesOf 40 = .ok (.iconst 3, 1) := by decide +kernel
theorem dX7_owesOf_41 : decode cX7_owesOf 41 = .ok (.iadd, 1) := by decide +kernel
theorem dX7_owesOf_42 : decode cX7_owesOf 42 = .ok (.iaload, 1) := by decide +kernel
theorem dX7_owesOf_43 : decode cX7_owesOf 43 = .ok (.iload_n 2, 1) := by decide +kernel
theorem dX7_owesOf_44 : decode cX7_owesOf 44 = .ok (.if_icmp .ne 21, 3) := by decide +kernel
theorem dX7_owesOf_47 : decode cX7_owesOf 47 = .ok (.iload_n 3, 1) := by decide +kernel
theorem dX7_owesOf_48 : decode cX7_owesOf 48 = .ok (.ifCond .eq 13, 3) := by decide +kernel
theorem dX7_owesOf_51 : decode cX7_owesOf 51 = .ok (.aload_n 0, 1) := by decide +kernel
theorem dX7_owesOf_52 : decode cX7_owesOf 52 = .ok (.iload 5, 2) := by decide +kernel
theorem dX7_owesOf_54 : decode cX7_owesOf 54 = .ok (.invokevirtual 126, 3) := by decide +kernel
theorem dX7_owesOf_57 : decode cX7_owesOf 57 = .ok (.iconst 1, 1) := by decide +kernel
theorem dX7_owesOf_58 : decode cX7_owesOf 58 = .ok (.if_icmp .le 7, 3) := by decide +kernel
theorem dX7_owesOf_61 : decode cX7_owesOf 61 = .ok (.iconst 1, 1) := by decide +kernel
theorem dX7_owesOf_62 : decode cX7_owesOf 62 = .ok (.goto 4, 3) := by decide +kernel
theorem dX7_owesOf_65 : decode cX7_owesOf 65 = .ok (.iconst 0, 1) := by decide +kernel
theorem dX7_owesOf_66 : decode cX7_owesOf 66 = .ok (.istore 6, 2) := by decide +kernel
theorem dX7_owesOf_68 : decode cX7_owesOf 68 = .ok (.iload 4, 2) := by decide +kernel
theorem dX7_owesOf_70 : decode cX7_owesOf 70 = .ok (.iload 6, 2) := by decide +kernel
theorem dX7_owesOf_72 : decode cX7_owesOf 72 = .ok (.ifCond .eq 12, 3) := by decide +kernel
theorem dX7_owesOf_75 : decode cX7_owesOf 75 = .ok (.aload_n 0, 1) := by decide +kernel
theorem dX7_owesOf_76 : decode cX7_owesOf 76 = .ok (.iload 5, 2) := by decide +kernel
theorem dX7_owesOf_78 : decode cX7_owesOf 78 = .ok (.invokevirtual 123, 3) := by decide +kernel
theorem dX7_owesOf_81 : decode cX7_owesOf 81 = .ok (.goto 4, 3) := by decide +kernel
theorem dX7_owesOf_84 : decode cX7_owesOf 84 = .ok (.iconst 0, 1) := by decide +kernel
theorem dX7_owesOf_85 : decode cX7_owesOf 85 = .ok (.iadd, 1) := by decide +kernel
theorem dX7_owesOf_86 : decode cX7_owesOf 86 = .ok (.istore 4, 2) := by decide +kernel
theorem dX7_owesOf_88 : decode cX7_owesOf 88 = .ok (.iinc 5 1, 3) := by decide +kernel
theorem dX7_owesOf_91 : decode cX7_owesOf 91 = .ok (.goto (-85), 3) := by decide +kernel
theorem dX7_owesOf_94 : decode cX7_owesOf 94 = .ok (.iload 4, 2) := by decide +kernel
theorem dX7_owesOf_96 : decode cX7_owesOf 96 = .ok (.ireturn, 1) := by decide +kernel
theorem dX7_owes_0 : decode cX7_owes 0 = .ok (.iload_n 1, 1) := by decide +kernel
theorem dX7_owes_1 : decode cX7_owes 1 = .ok (.invokestatic 118, 3) := by decide +kernel
theorem dX7_owes_4 : decode cX7_owes 4 = .ok (.ifCond .eq 25, 3) := by decide +kernel
theorem dX7_owes_7 : decode cX7_owes 7 = .ok (.iload_n 2, 1) := by decide +kernel
theorem dX7_owes_8 : decode cX7_owes 8 = .ok (.invokestatic 118, 3) := by decide +kernel
theorem dX7_owes_11 : decode cX7_owes 11 = .ok (.ifCond .eq 18, 3) := by decide +kernel
theorem dX7_owes_14 : decode cX7_owes 14 = .ok (.iload_n 1, 1) := by decide +kernel
theorem dX7_owes_15 : decode cX7_owes 15 = .ok (.iload_n 2, 1) := by decide +kernel
theorem dX7_owes_16 : decode cX7_owes 16 = .ok (.if_icmp .eq 13, 3) := by decide +kernel
theorem dX7_owes_19 : decode cX7_owes 19 = .ok (.aload_n 0, 1) := by decide +kernel
theorem dX7_owes_20 : decode cX7_owes 20 = .ok (.iload_n 1, 1) := by decide +kernel
theorem dX7_owes_21 : decode cX7_owes 21 = .ok (.iload_n 2, 1) := by decide +kernel
theorem dX7_owes_22 : decode cX7_owes 22 = .ok (.iload_n 3, 1) := by decide +kernel
theorem dX7_owes_23 : decode cX7_owes 23 = .ok (.invokevirtual 184, 3) := by decide +kernel
theorem dX7_owes_26 : decode cX7_owes 26 = .ok (.goto 5, 3) := by decide +kernel
theorem dX7_owes_29 : decode cX7_owes 29 = .ok (.bipush (-101), 2) := by decide +kernel
theorem dX7_owes_31 : decode cX7_owes 31 = .ok (.ireturn, 1) := by decide +kernel
theorem dX7_restOf_0 : decode cX7_restOf 0 = .ok (.iconst 0, 1) := by decide +kernel
theorem dX7_restOf_1 : decode cX7_restOf 1 = .ok (.istore_n 2, 1) := by decide +kernel
theorem dX7_restOf_2 : decode cX7_restOf 2 = .ok (.iconst 0, 1) := by decide +kernel
theorem dX7_restOf_3 : decode cX7_restOf 3 = .ok (.istore_n 3, 1) := by decide +kernel
theorem dX7_restOf_4 : decode cX7_restOf 4 = .ok (.iload_n 3, 1) := by decide +kernel
theorem dX7_restOf_5 : decode cX7_restOf 5 = .ok (.bipush 6, 2) := by decide +kernel
theorem dX7_restOf_7 : decode cX7_restOf 7 = .ok (.if_icmp .ge 27, 3) := by decide +kernel
theorem dX7_restOf_10 : decode cX7_restOf 10 = .ok (.iload_n 2, 1) := by decide +kernel
theorem dX7_restOf_11 : decode cX7_restOf 11 = .ok (.aload_n 0, 1) := by decide +kernel
theorem dX7_restOf_12 : decode cX7_restOf 12 = .ok (.iload_n 3, 1) := by decide +kernel
theorem dX7_restOf_13 : decode cX7_restOf 13 = .ok (.iload_n 1, 1) := by decide +kernel
theorem dX7_restOf_14 : decode cX7_restOf 14 = .ok (.iconst 0, 1) := by decide +kernel
theorem dX7_restOf_15 : decode cX7_restOf 15 = .ok (.invokevirtual 184, 3) := by decide +kernel
theorem dX7_restOf_18 : decode cX7_restOf 18 = .ok (.aload_n 0, 1) := by decide +kernel
theorem dX7_restOf_19 : decode cX7_restOf 19 = .ok (.iload_n 1, 1) := by decide +kernel
theorem dX7_restOf_20 : decode cX7_restOf 20 = .ok (.iload_n 3, 1) := by decide +kernel
theorem dX7_restOf_21 : decode cX7_restOf 21 = .ok (.iconst 0, 1) := by decide +kernel
theorem dX7_restOf_22 : decode cX7_restOf 22 = .ok (.invokevirtual 184, 3) := by decide +kernel
theorem dX7_restOf_25 : decode cX7_restOf 25 = .ok (.isub, 1) := by decide +kernel
theorem dX7_restOf_26 : decode cX7_restOf 26 = .ok (.iadd, 1) := by decide +kernel
theorem dX7_restOf_27 : decode cX7_restOf 27 = .ok (.istore_n 2, 1) := by decide +kernel
theorem dX7_restOf_28 : decode cX7_restOf 28 = .ok (.iinc 3 1, 3) := by decide +kernel
theorem dX7_restOf_31 : decode cX7_restOf 31 = .ok (.goto (-27), 3) := by decide +kernel
theorem dX7_restOf_34 : decode cX7_restOf 34 = .ok (.iload_n 2, 1) := by decide +kernel
theorem dX7_restOf_35 : decode cX7_restOf 35 = .ok (.ireturn, 1) := by decide +kernel
theorem dX7_rest_0 : decode cX7_rest 0 = .ok (.iload_n 1, 1) := by decide +kernel
theorem dX7_rest_1 : decode cX7_rest 1 = .ok (.invokestatic 118, 3) := by decide +kernel
theorem dX7_rest_4 : decode cX7_rest 4 = .ok (.ifCond .eq 11, 3) := by decide +kernel
theorem dX7_rest_7 : decode cX7_rest 7 = .ok (.aload_n 0, 1) := by decide +kernel
theorem dX7_rest_8 : decode cX7_rest 8 = .ok (.iload_n 1, 1) := by decide +kernel
theorem dX7_rest_9 : decode cX7_rest 9 = .ok (.invokevirtual 188, 3) := by decide +kernel
theorem dX7_rest_12 : decode cX7_rest 12 = .ok (.goto 5, 3) := by decide +kernel
theorem dX7_rest_15 : decode cX7_rest 15 = .ok (.ldc 191, 2) := by decide +kernel
theorem dX7_rest_17 : decode cX7_rest 17 = .ok (.ireturn, 1) := by decide +kernel
theorem dX7_weightOf_0 : decode cX7_weightOf 0 = .ok (.iconst 0, 1) := by decide +kernel
theorem dX7_weightOf_1 : decode cX7_weightOf 1 = .ok (.istore_n 2, 1) := by decide +kernel
theorem dX7_weightOf_2 : decode cX7_weightOf 2 = .ok (.iconst 0, 1) := by decide +kernel
theorem dX7_weightOf_3 : decode cX7_weightOf 3 = .ok (.istore_n 3, 1) := by decide +kernel
theorem dX7_weightOf_4 : decode cX7_weightOf 4 = .ok (.iload_n 3, 1) := by decide +kernel
theorem dX7_weightOf_5 : decode cX7_weightOf 5 = .ok (.aload_n 0, 1) := by decide +kernel
theorem dX7_weightOf_6 : decode cX7_weightOf 6 = .ok (.getfield 79, 3) := by decide +kernel
theorem dX7_weightOf_9 : decode cX7_weightOf 9 = .ok (.if_icmp .ge 41, 3) := by decide +kernel
theorem dX7_weightOf_12 : decode cX7_weightOf 12 = .ok (.iload_n 2, 1) := by decide +kernel
theorem dX7_weightOf_13 : decode cX7_weightOf 13 = .ok (.iload_n 1, 1) := by decide +kernel
theorem dX7_weightOf_14 : decode cX7_weightOf 14 = .ok (.iload_n 3, 1) := by decide +kernel
theorem dX7_weightOf_15 : decode cX7_weightOf 15 = .ok (.ishr, 1) := by decide +kernel
theorem dX7_weightOf_16 : decode cX7_weightOf 16 = .ok (.iconst 1, 1) := by decide +kernel
theorem dX7_weightOf_17 : decode cX7_weightOf 17 = .ok (.iand, 1) := by decide +kernel
theorem dX7_weightOf_18 : decode cX7_weightOf 18 = .ok (.iconst 1, 1) := by decide +kernel
theorem dX7_weightOf_19 : decode cX7_weightOf 19 = .ok (.if_icmp .ne 22, 3) := by decide +kernel
theorem dX7_weightOf_22 : decode cX7_weightOf 22 = .ok (.aload_n 0, 1) := by decide +kernel
theorem dX7_weightOf_23 : decode cX7_weightOf 23 = .ok (.getfield 7, 3) := by decide +kernel
theorem dX7_weightOf_26 : decode cX7_weightOf 26 = .ok (.aload_n 0, 1) := by decide +kernel
theorem dX7_weightOf_27 : decode cX7_weightOf 27 = .ok (.getfield 16, 3) := by decide +kernel
theorem dX7_weightOf_30 : decode cX7_weightOf 30 = .ok (.bipush 8, 2) := by decide +kernel
theorem dX7_weightOf_32 : decode cX7_weightOf 32 = .ok (.iload_n 3, 1) := by decide +kernel
theorem dX7_weightOf_33 : decode cX7_weightOf 33 = .ok (.imul, 1) := by decide +kernel
theorem dX7_weightOf_34 : decode cX7_weightOf 34 = .ok (.iconst 1, 1) := by decide +kernel
theorem dX7_weightOf_35 : decode cX7_weightOf 35 = .ok (.iadd, 1) := by decide +kernel
theorem dX7_weightOf_36 : decode cX7_weightOf 36 = .ok (.iaload, 1) := by decide +kernel
theorem dX7_weightOf_37 : decode cX7_weightOf 37 = .ok (.iaload, 1) := by decide +kernel
theorem dX7_weightOf_38 : decode cX7_weightOf 38 = .ok (.goto 4, 3) := by decide +kernel
theorem dX7_weightOf_41 : decode cX7_weightOf 41 = .ok (.iconst 0, 1) := by decide +kernel
theorem dX7_weightOf_42 : decode cX7_weightOf 42 = .ok (.iadd, 1) := by decide +kernel
theorem dX7_weightOf_43 : decode cX7_weightOf 43 = .ok (.istore_n 2, 1) := by decide +kernel
theorem dX7_weightOf_44 : decode cX7_weightOf 44 = .ok (.iinc 3 1, 3) := by decide +kernel
theorem dX7_weightOf_47 : decode cX7_weightOf 47 = .ok (.goto (-43), 3) := by decide +kernel
theorem dX7_weightOf_50 : decode cX7_weightOf 50 = .ok (.iload_n 2, 1) := by decide +kernel
theorem dX7_weightOf_51 : decode cX7_weightOf 51 = .ok (.ireturn, 1) := by decide +kernel
theorem dX7_ones_0 : decode cX7_ones 0 = .ok (.iconst 0, 1) := by decide +kernel
theorem dX7_ones_1 : decode cX7_ones 1 = .ok (.istore_n 1, 1) := by decide +kernel
theorem dX7_ones_2 : decode cX7_ones 2 = .ok (.iconst 0, 1) := by decide +kernel
theorem dX7_ones_3 : decode cX7_ones 3 = .ok (.istore_n 2, 1) := by decide +kernel
theorem dX7_ones_4 : decode cX7_ones 4 = .ok (.iload_n 2, 1) := by decide +kernel
theorem dX7_ones_5 : decode cX7_ones 5 = .ok (.bipush 10, 2) := by decide +kernel
theorem dX7_ones_7 : decode cX7_ones 7 = .ok (.if_icmp .ge 17, 3) := by decide +kernel
theorem dX7_ones_10 : decode cX7_ones 10 = .ok (.iload_n 1, 1) := by decide +kernel
theorem dX7_ones_11 : decode cX7_ones 11 = .ok (.iload_n 0, 1) := by decide +kernel
theorem dX7_ones_12 : decode cX7_ones 12 = .ok (.iload_n 2, 1) := by decide +kernel
theorem dX7_ones_13 : decode cX7_ones 13 = .ok (.ishr, 1) := by decide +kernel
theorem dX7_ones_14 : decode cX7_ones 14 = .ok (.iconst 1, 1) := by decide +kernel
theorem dX7_ones_15 : decode cX7_ones 15 = .ok (.iand, 1) := by decide +kernel
theorem dX7_ones_16 : decode cX7_ones 16 = .ok (.iadd, 1) := by decide +kernel
theorem dX7_ones_17 : decode cX7_ones 17 = .ok (.istore_n 1, 1) := by decide +kernel
theorem dX7_ones_18 : decode cX7_ones 18 = .ok (.iinc 2 1, 3) := by decide +kernel
theorem dX7_ones_21 : decode cX7_ones 21 = .ok (.goto (-17), 3) := by decide +kernel
theorem dX7_ones_24 : decode cX7_ones 24 = .ok (.iload_n 1, 1) := by decide +kernel
theorem dX7_ones_25 : decode cX7_ones 25 = .ok (.ireturn, 1) := by decide +kernel
theorem dX7_layFits_0 : decode cX7_layFits 0 = .ok (.iconst 1, 1) := by decide +kernel
theorem dX7_layFits_1 : decode cX7_layFits 1 = .ok (.aload_n 0, 1) := by decide +kernel
theorem dX7_layFits_2 : decode cX7_layFits 2 = .ok (.getfield 79, 3) := by decide +kernel
theorem dX7_layFits_5 : decode cX7_layFits 5 = .ok (.ishl, 1) := by decide +kernel
theorem dX7_layFits_6 : decode cX7_layFits 6 = .ok (.istore_n 2, 1) := by decide +kernel
theorem dX7_layFits_7 : decode cX7_layFits 7 = .ok (.iconst 0, 1) := by decide +kernel
theorem dX7_layFits_8 : decode cX7_layFits 8 = .ok (.istore_n 3, 1) := by decide +kernel
theorem dX7_layFits_9 : decode cX7_layFits 9 = .ok (.iload_n 3, 1) := by decide +kernel
theorem dX7_layFits_10 : decode cX7_layFits 10 = .ok (.iload_n 2, 1) := by decide +kernel
theorem dX7_layFits_11 : decode cX7_layFits 11 = .ok (.if_icmp .ge 30, 3) := by decide +kernel
theorem dX7_layFits_14 : decode cX7_layFits 14 = .ok (.aload_n 0, 1) := by decide +kernel
theorem dX7_layFits_15 : decode cX7_layFits 15 = .ok (.getfield 28, 3) := by decide +kernel
theorem dX7_layFits_18 : decode cX7_layFits 18 = .ok (.iload_n 3, 1) := by decide +kernel
theorem dX7_layFits_19 : decode cX7_layFits 19 = .ok (.aload_n 0, 1) := by decide +kernel
theorem dX7_layFits_20 : decode cX7_layFits 20 = .ok (.iload_n 3, 1) := by decide +kernel
theorem dX7_layFits_21 : decode cX7_layFits 21 = .ok (.invokevirtual 192, 3) := by decide +kernel
theorem dX7_layFits_24 : decode cX7_layFits 24 = .ok (.iload_n 1, 1) := by decide +kernel
theorem dX7_layFits_25 : decode cX7_layFits 25 = .ok (.if_icmp .gt 7, 3) := by decide +kernel
theorem dX7_layFits_28 : decode cX7_layFits 28 = .ok (.iconst 1, 1) := by decide +kernel
theorem dX7_layFits_29 : decode cX7_layFits 29 = .ok (.goto 5, 3) := by decide +kernel
theorem dX7_layFits_32 : decode cX7_layFits 32 = .ok (.bipush 9, 2) := by decide +kernel
theorem dX7_layFits_34 : decode cX7_layFits 34 = .ok (.iastore, 1) := by decide +kernel
theorem dX7_layFits_35 : decode cX7_layFits 35 = .ok (.iinc 3 1, 3) := by decide +kernel
theorem dX7_layFits_38 : decode cX7_layFits 38 = .ok (.goto (-29), 3) := by decide +kernel
theorem dX7_layFits_41 : decode cX7_layFits 41 = .ok (.iconst 2, 1) := by decide +kernel
theorem dX7_layFits_42 : decode cX7_layFits 42 = .ok (.istore_n 3, 1) := by decide +kernel
theorem dX7_layFits_43 : decode cX7_layFits 43 = .ok (.iload_n 3, 1) := by decide +kernel
theorem dX7_layFits_44 : decode cX7_layFits 44 = .ok (.iconst 4, 1) := by decide +kernel
theorem dX7_layFits_45 : decode cX7_layFits 45 = .ok (.if_icmp .ge 114, 3) := by decide +kernel
theorem dX7_layFits_48 : decode cX7_layFits 48 = .ok (.iconst 0, 1) := by decide +kernel
theorem dX7_layFits_49 : decode cX7_layFits 49 = .ok (.istore 4, 2) := by decide +kernel
theorem dX7_layFits_51 : decode cX7_layFits 51 = .ok (.iload 4, 2) := by decide +kernel
theorem dX7_layFits_53 : decode cX7_layFits 53 = .ok (.iload_n 2, 1) := by decide +kernel
theorem dX7_layFits_54 : decode cX7_layFits 54 = .ok (.if_icmp .ge 99, 3) := by decide +kernel
theorem dX7_layFits_57 : decode cX7_layFits 57 = .ok (.iload 4, 2) := by decide +kernel
theorem dX7_layFits_59 : decode cX7_layFits 59 = .ok (.istore 5, 2) := by decide +kernel
theorem dX7_layFits_61 : decode cX7_layFits 61 = .ok (.iload 5, 2) := by decide +kernel
theorem dX7_layFits_63 : decode cX7_layFits 63 = .ok (.ifCond .le 84, 3) := by decide +kernel
theorem dX7_layFits_66 : decode cX7_layFits 66 = .ok (.aload_n 0, 1) := by decide +kernel
theorem dX7_layFits_67 : decode cX7_layFits 67 = .ok (.getfield 28, 3) := by decide +kernel
theorem dX7_layFits_70 : decode cX7_layFits 70 = .ok (.iload 4, 2) := by decide +kernel
theorem dX7_layFits_72 : decode cX7_layFits 72 = .ok (.iaload, 1) := by decide +kernel
theorem dX7_layFits_73 : decode cX7_layFits 73 = .ok (.bipush 9, 2) := by decide +kernel
theorem dX7_layFits_75 : decode cX7_layFits 75 = .ok (.if_icmp .ne 72, 3) := by decide +kernel
theorem dX7_layFits_78 : decode cX7_layFits 78 = .ok (.aload_n 0, 1) := by decide +kernel
theorem dX7_layFits_79 : decode cX7_layFits 79 = .ok (.getfield 28, 3) := by decide +kernel
theorem dX7_layFits_82 : decode cX7_layFits 82 = .ok (.iload 5, 2) := by decide +kernel
theorem dX7_layFits_84 : decode cX7_layFits 84 = .ok (.iaload, 1) := by decide +kernel
theorem dX7_layFits_85 : decode cX7_layFits 85 = .ok (.iconst 1, 1) := by decide +kernel
theorem dX7_layFits_86 : decode cX7_layFits 86 = .ok (.if_icmp .ne 23, 3) := by decide +kernel
theorem dX7_layFits_89 : decode cX7_layFits 89 = .ok (.aload_n 0, 1) := by decide +kernel
theorem dX7_layFits_90 : decode cX7_layFits 90 = .ok (.getfield 28, 3) := by decide +kernel
theorem dX7_layFits_93 : decode cX7_layFits 93 = .ok (.iload 4, 2) := by decide +kernel
theorem dX7_layFits_95 : decode cX7_layFits 95 = .ok (.iload 5, 2) := by decide +kernel
theorem dX7_layFits_97 : decode cX7_layFits 97 = .ok (.isub, 1) := by decide +kernel
theorem dX7_layFits_98 : decode cX7_layFits 98 = .ok (.iaload, 1) := by decide +kernel
theorem dX7_layFits_99 : decode cX7_layFits 99 = .ok (.iload_n 3, 1) := by decide +kernel
theorem dX7_layFits_100 : decode cX7_layFits 100 = .ok (.iconst 1, 1) := by decide +kernel
theorem dX7_layFits_101 : decode cX7_layFits 101 = .ok (.isub, 1) := by decide +kernel
theorem dX7_layFits_102 : decode cX7_layFits 102 = .ok (.if_icmp .ne 7, 3) := by decide +kernel
theorem dX7_layFits_105 : decode cX7_layFits 105 = .ok (.iconst 1, 1) := by decide +kernel
theorem dX7_layFits_106 : decode cX7_layFits 106 = .ok (.goto 4, 3) := by decide +kernel
theorem dX7_layFits_109 : decode cX7_layFits 109 = .ok (.iconst 0, 1) := by decide +kernel
theorem dX7_layFits_110 : decode cX7_layFits 110 = .ok (.istore 6, 2) := by decide +kernel
theorem dX7_layFits_112 : decode cX7_layFits 112 = .ok (.aload_n 0, 1) := by decide +kernel
theorem dX7_layFits_113 : decode cX7_layFits 113 = .ok (.getfield 28, 3) := by decide +kernel
theorem dX7_layFits_116 : decode cX7_layFits 116 = .ok (.iload 4, 2) := by decide +kernel
theorem dX7_layFits_118 : decode cX7_layFits 118 = .ok (.iload 6, 2) := by decide +kernel
theorem dX7_layFits_120 : decode cX7_layFits 120 = .ok (.ifCond .eq 7, 3) := by decide +kernel
theorem dX7_layFits_123 : decode cX7_layFits 123 = .ok (.iload_n 3, 1) := by decide +kernel
theorem dX7_layFits_124 : decode cX7_layFits 124 = .ok (.goto 10, 3) := by decide +kernel
theorem dX7_layFits_127 : decode cX7_layFits 127 = .ok (.aload_n 0, 1) := by decide +kernel
theorem dX7_layFits_128 : decode cX7_layFits 128 = .ok (.getfield 28, 3) := by decide +kernel
theorem dX7_layFits_131 : decode cX7_layFits 131 = .ok (.iload 4, 2) := by decide +kernel
theorem dX7_layFits_133 : decode cX7_layFits 133 = .ok (.iaload, 1) := by decide +kernel
theorem dX7_layFits_134 : decode cX7_layFits 134 = .ok (.iastore, 1) := by decide +kernel
theorem dX7_layFits_135 : decode cX7_layFits 135 = .ok (.iload 5, 2) := by decide +kernel
theorem dX7_layFits_137 : decode cX7_layFits 137 = .ok (.iconst 1, 1) := by decide +kernel
theorem dX7_layFits_138 : decode cX7_layFits 138 = .ok (.isub, 1) := by decide +kernel
theorem dX7_layFits_139 : decode cX7_layFits 139 = .ok (.iload 4, 2) := by decide +kernel
theorem dX7_layFits_141 : decode cX7_layFits 141 = .ok (.iand, 1) := by decide +kernel
theorem dX7_layFits_142 : decode cX7_layFits 142 = .ok (.istore 5, 2) := by decide +kernel
theorem dX7_layFits_144 : decode cX7_layFits 144 = .ok (.goto (-83), 3) := by decide +kernel
theorem dX7_layFits_147 : decode cX7_layFits 147 = .ok (.iinc 4 1, 3) := by decide +kernel
theorem dX7_layFits_150 : decode cX7_layFits 150 = .ok (.goto (-99), 3) := by decide +kernel
theorem dX7_layFits_153 : decode cX7_layFits 153 = .ok (.iinc 3 1, 3) := by decide +kernel
theorem dX7_layFits_156 : decode cX7_layFits 156 = .ok (.goto (-113), 3) := by decide +kernel
theorem dX7_layFits_159 : decode cX7_layFits 159 = .ok (.return_, 1) := by decide +kernel
theorem dX7_sledges_0 : decode cX7_sledges 0 = .ok (.iload_n 1, 1) := by decide +kernel
theorem dX7_sledges_1 : decode cX7_sledges 1 = .ok (.i2l, 1) := by decide +kernel
theorem dX7_sledges_2 : decode cX7_sledges 2 = .ok (.lconst 1, 1) := by decide +kernel
theorem dX7_sledges_3 : decode cX7_sledges 3 = .ok (.ldc2_w 195, 3) := by decide +kernel
theorem dX7_sledges_6 : decode cX7_sledges 6 = .ok (.invokestatic 75, 3) := by decide +kernel
theorem dX7_sledges_9 : decode cX7_sledges 9 = .ok (.ifCond .eq 25, 3) := by decide +kernel
theorem dX7_sledges_12 : decode cX7_sledges 12 = .ok (.iload_n 2, 1) := by decide +kernel
theorem dX7_sledges_13 : decode cX7_sledges 13 = .ok (.i2l, 1) := by decide +kernel
theorem dX7_sledges_14 : decode cX7_sledges 14 = .ok (.lconst 1, 1) := by decide +kernel
theorem dX7_sledges_15 : decode cX7_sledges 15 = .ok (.ldc2_w 197, 3) := by decide +kernel
theorem dX7_sledges_18 : decode cX7_sledges 18 = .ok (.invokestatic 75, 3) := by decide +kernel
theorem dX7_sledges_21 : decode cX7_sledges 21 = .ok (.ifCond .eq 13, 3) := by decide +kernel
theorem dX7_sledges_24 : decode cX7_sledges 24 = .ok (.iload_n 3, 1) := by decide +kernel
theorem dX7_sledges_25 : decode cX7_sledges 25 = .ok (.i2l, 1) := by decide +kernel
theorem dX7_sledges_26 : decode cX7_sledges 26 = .ok (.lconst 0, 1) := by decide +kernel
theorem dX7_sledges_27 : decode cX7_sledges 27 = .ok (.lconst 1, 1) := by decide +kernel
theorem dX7_sledges_28 : decode cX7_sledges 28 = .ok (.invokestatic 75, 3) := by decide +kernel
theorem dX7_sledges_31 : decode cX7_sledges 31 = .ok (.ifCond .ne 6, 3) := by decide +kernel
theorem dX7_sledges_34 : decode cX7_sledges 34 = .ok (.bipush (-102), 2) := by decide +kernel
theorem dX7_sledges_36 : decode cX7_sledges 36 = .ok (.ireturn, 1) := by decide +kernel
theorem dX7_sledges_37 : decode cX7_sledges 37 = .ok (.aload_n 0, 1) := by decide +kernel
theorem dX7_sledges_38 : decode cX7_sledges 38 = .ok (.getfield 199, 3) := by decide +kernel
theorem dX7_sledges_41 : decode cX7_sledges 41 = .ok (.bipush 20, 2) := by decide +kernel
theorem dX7_sledges_43 : decode cX7_sledges 43 = .ok (.if_icmp .ne 6, 3) := by decide +kernel
theorem dX7_sledges_46 : decode cX7_sledges 46 = .ok (.bipush (-103), 2) := by decide +kernel
theorem dX7_sledges_48 : decode cX7_sledges 48 = .ok (.ireturn, 1) := by decide +kernel
theorem dX7_sledges_49 : decode cX7_sledges 49 = .ok (.aload_n 0, 1) := by decide +kernel
theorem dX7_sledges_50 : decode cX7_sledges 50 = .ok (.dup, 1) := by decide +kernel
theorem dX7_sledges_51 : decode cX7_sledges 51 = .ok (.getfield 199, 3) := by decide +kernel
theorem dX7_sledges_54 : decode cX7_sledges 54 = .ok (.iconst 1, 1) := by decide +kernel
theorem dX7_sledges_55 : decode cX7_sledges 55 = .ok (.iadd, 1) := by decide +kernel
theorem dX7_sledges_56 : decode cX7_sledges 56 = .ok (.putfield 199, 3) := by decide +kernel
theorem dX7_sledges_59 : decode cX7_sledges 59 = .ok (.aload_n 0, 1) := by decide +kernel
theorem dX7_sledges_60 : decode cX7_sledges 60 = .ok (.iload_n 2, 1) := by decide +kernel
theorem dX7_sledges_61 : decode cX7_sledges 61 = .ok (.invokevirtual 202, 3) := by decide +kernel
theorem dX7_sledges_64 : decode cX7_sledges 64 = .ok (.iconst 0, 1) := by decide +kernel
theorem dX7_sledges_65 : decode cX7_sledges 65 = .ok (.istore 4, 2) := by decide +kernel
theorem dX7_sledges_67 : decode cX7_sledges 67 = .ok (.iconst 0, 1) := by decide +kernel
theorem dX7_sledges_68 : decode cX7_sledges 68 = .ok (.istore 5, 2) := by decide +kernel
theorem dX7_sledges_70 : decode cX7_sledges 70 = .ok (.iconst 1, 1) := by decide +kernel
theorem dX7_sledges_71 : decode cX7_sledges 71 = .ok (.istore 6, 2) := by decide +kernel
theorem dX7_sledges_73 : decode cX7_sledges 73 = .ok (.iload 6, 2) := by decide +kernel
theorem dX7_sledges_75 : decode cX7_sledges 75 = .ok (.iconst 1, 1) := by decide +kernel
theorem dX7_sledges_76 : decode cX7_sledges 76 = .ok (.aload_n 0, 1) := by decide +kernel
theorem dX7_sledges_77 : decode cX7_sledges 77 = .ok (.getfield 79, 3) := by decide +kernel
theorem dX7_sledges_80 : decode cX7_sledges 80 = .ok (.ishl, 1) := by decide +kernel
theorem dX7_sledges_81 : decode cX7_sledges 81 = .ok (.if_icmp .ge 152, 3) := by decide +kernel
theorem dX7_sledges_84 : decode cX7_sledges 84 = .ok (.iconst 0, 1) := by decide +kernel
theorem dX7_sledges_85 : decode cX7_sledges 85 = .ok (.istore 7, 2) := by decide +kernel
theorem dX7_sledges_87 : decode cX7_sledges 87 = .ok (.aload_n 0, 1) := by decide +kernel
theorem dX7_sledges_88 : decode cX7_sledges 88 = .ok (.getfield 28, 3) := by decide +kernel
theorem dX7_sledges_91 : decode cX7_sledges 91 = .ok (.iload 6, 2) := by decide +kernel
theorem dX7_sledges_93 : decode cX7_sledges 93 = .ok (.iaload, 1) := by decide +kernel
theorem dX7_sledges_94 : decode cX7_sledges 94 = .ok (.iload_n 1, 1) := by decide +kernel
theorem dX7_sledges_95 : decode cX7_sledges 95 = .ok (.if_icmp .gt 7, 3) := by decide +kernel
theorem dX7_sledges_98 : decode cX7_sledges 98 = .ok (.iconst 1, 1) := by decide +kernel
theorem dX7_sledges_99 : decode cX7_sledges 99 = .ok (.goto 4, 3) := by decide +kernel
theorem dX7_sledges_102 : decode cX7_sledges 102 = .ok (.iconst 0, 1) := by decide +kernel
theorem dX7_sledges_103 : decode cX7_sledges 103 = .ok (.istore 8, 2) := by decide +kernel
theorem dX7_sledges_105 : decode cX7_sledges 105 = .ok (.iconst 0, 1) := by decide +kernel
theorem dX7_sledges_106 : decode cX7_sledges 106 = .ok (.istore 9, 2) := by decide +kernel
theorem dX7_sledges_108 : decode cX7_sledges 108 = .ok (.iload 9, 2) := by decide +kernel
theorem dX7_sledges_110 : decode cX7_sledges 110 = .ok (.aload_n 0, 1) := by decide +kernel
theorem dX7_sledges_111 : decode cX7_sledges 111 = .ok (.getfield 79, 3) := by decide +kernel
theorem dX7_sledges_114 : decode cX7_sledges 114 = .ok (.if_icmp .ge 73, 3) := by decide +kernel
theorem dX7_sledges_117 : decode cX7_sledges 117 = .ok (.iload 6, 2) := by decide +kernel
theorem dX7_sledges_119 : decode cX7_sledges 119 = .ok (.iload 9, 2) := by decide +kernel
theorem dX7_sledges_121 : decode cX7_sledges 121 = .ok (.ishr, 1) := by decide +kernel
theorem dX7_sledges_122 : decode cX7_sledges 122 = .ok (.iconst 1, 1) := by decide +kernel
theorem dX7_sledges_123 : decode cX7_sledges 123 = .ok (.iand, 1) := by decide +kernel
theorem dX7_sledges_124 : decode cX7_sledges 124 = .ok (.iconst 1, 1) := by decide +kernel
theorem dX7_sledges_125 : decode cX7_sledges 125 = .ok (.if_icmp .ne 7, 3) := by decide +kernel
theorem dX7_sledges_128 : decode cX7_sledges 128 = .ok (.iconst 1, 1) := by decide +kernel
theorem dX7_sledges_129 : decode cX7_sledges 129 = .ok (.goto 4, 3) := by decide +kernel
theorem dX7_sledges_132 : decode cX7_sledges 132 = .ok (.iconst 0, 1) := by decide +kernel
theorem dX7_sledges_133 : decode cX7_sledges 133 = .ok (.istore 10, 2) := by decide +kernel
theorem dX7_sledges_135 : decode cX7_sledges 135 = .ok (.iload 8, 2) := by decide +kernel
theorem dX7_sledges_137 : decode cX7_sledges 137 = .ok (.ifCond .eq 21, 3) := by decide +kernel
theorem dX7_sledges_140 : decode cX7_sledges 140 = .ok (.iload 10, 2) := by decide +kernel
theorem dX7_sledges_142 : decode cX7_sledges 142 = .ok (.ifCond .eq 12, 3) := by decide +kernel
theorem dX7_sledges_145 : decode cX7_sledges 145 = .ok (.aload_n 0, 1) := by decide +kernel
theorem dX7_sledges_146 : decode cX7_sledges 146 = .ok (.iload 9, 2) := by decide +kernel
theorem dX7_sledges_148 : decode cX7_sledges 148 = .ok (.invokevirtual 94, 3) := by decide +kernel
theorem dX7_sledges_151 : decode cX7_sledges 151 = .ok (.ifCond .eq 7, 3) := by decide +kernel
theorem dX7_sledges_154 : decode cX7_sledges 154 = .ok (.iconst 1, 1) := by decide +kernel
theorem dX7_sledges_155 : decode cX7_sledges 155 = .ok (.goto 4, 3) := by decide +kernel
theorem dX7_sledges_158 : decode cX7_sledges 158 = .ok (.iconst 0, 1) := by decide +kernel
theorem dX7_sledges_159 : decode cX7_sledges 159 = .ok (.istore 8, 2) := by decide +kernel
theorem dX7_sledges_161 : decode cX7_sledges 161 = .ok (.iload 7, 2) := by decide +kernel
theorem dX7_sledges_163 : decode cX7_sledges 163 = .ok (.iload 10, 2) := by decide +kernel
theorem dX7_sledges_165 : decode cX7_sledges 165 = .ok (.ifCond .eq 12, 3) := by decide +kernel
theorem dX7_sledges_168 : decode cX7_sledges 168 = .ok (.aload_n 0, 1) := by decide +kernel
theorem dX7_sledges_169 : decode cX7_sledges 169 = .ok (.iload 9, 2) := by decide +kernel
theorem dX7_sledges_171 : decode cX7_sledges 171 = .ok (.invokevirtual 123, 3) := by decide +kernel
theorem dX7_sledges_174 : decode cX7_sledges 174 = .ok (.goto 4, 3) := by decide +kernel
theorem dX7_sledges_177 : decode cX7_sledges 177 = .ok (.iconst 0, 1) := by decide +kernel
theorem dX7_sledges_178 : decode cX7_sledges 178 = .ok (.iadd, 1) := by decide +kernel
theorem dX7_sledges_179 : decode cX7_sledges 179 = .ok (.istore 7, 2) := by decide +kernel
theorem dX7_sledges_181 : decode cX7_sledges 181 = .ok (.iinc 9 1, 3) := by decide +kernel
theorem dX7_sledges_184 : decode cX7_sledges 184 = .ok (.goto (-76), 3) := by decide +kernel
theorem dX7_sledges_187 : decode cX7_sledges 187 = .ok (.iload 8, 2) := by decide +kernel
theorem dX7_sledges_189 : decode cX7_sledges 189 = .ok (.ifCond .eq 38, 3) := by decide +kernel
theorem dX7_sledges_192 : decode cX7_sledges 192 = .ok (.iload 7, 2) := by decide +kernel
theorem dX7_sledges_194 : decode cX7_sledges 194 = .ok (.iload 5, 2) := by decide +kernel
theorem dX7_sledges_196 : decode cX7_sledges 196 = .ok (.if_icmp .gt 23, 3) := by decide +kernel
theorem dX7_sledges_199 : decode cX7_sledges 199 = .ok (.iload 7, 2) := by decide +kernel
theorem dX7_sledges_201 : decode cX7_sledges 201 = .ok (.iload 5, 2) := by decide +kernel
theorem dX7_sledges_203 : decode cX7_sledges 203 = .ok (.if_icmp .ne 24, 3) := by decide +kernel
theorem dX7_sledges_206 : decode cX7_sledges 206 = .ok (.iload 6, 2) := by decide +kernel
theorem dX7_sledges_208 : decode cX7_sledges 208 = .ok (.invokestatic 205, 3) := by decide +kernel
theorem dX7_sledges_211 : decode cX7_sledges 211 = .ok (.iload 4, 2) := by decide +kernel
theorem dX7_sledges_213 : decode cX7_sledges 213 = .ok (.invokestatic 205, 3) := by decide +kernel
theorem dX7_sledges_216 : decode cX7_sledges 216 = .ok (.if_icmp .ge 11, 3) := by decide +kernel
theorem dX7_sledges_219 : decode cX7_sledges 219 = .ok (.iload 6, 2) := by decide +kernel
theorem dX7_sledges_221 : decode cX7_sledges 221 = .ok (.istore 4, 2) := by decide +kernel
theorem dX7_sledges_223 : decode cX7_sledges 223 = .ok (.iload 7, 2) := by decide +kernel
theorem dX7_sledges_225 : decode cX7_sledges 225 = .ok (.istore 5, 2) := by decide +kernel
theorem dX7_sledges_227 : decode cX7_sledges 227 = .ok (.iinc 6 1, 3) := by decide +kernel
theorem dX7_sledges_230 : decode cX7_sledges 230 = .ok (.goto (-157), 3) := by decide +kernel
theorem dX7_sledges_233 : decode cX7_sledges 233 = .ok (.iload_n 3, 1) := by decide +kernel
theorem dX7_sledges_234 : decode cX7_sledges 234 = .ok (.ifCond .ne 8, 3) := by decide +kernel
theorem dX7_sledges_237 : decode cX7_sledges 237 = .ok (.iload 5, 2) := by decide +kernel
theorem dX7_sledges_239 : decode cX7_sledges 239 = .ok (.goto 5, 3) := by decide +kernel
theorem dX7_sledges_242 : decode cX7_sledges 242 = .ok (.iload 4, 2) := by decide +kernel
theorem dX7_sledges_244 : decode cX7_sledges 244 = .ok (.ireturn, 1) := by decide +kernel
theorem dX7_groupsOf_0 : decode cX7_groupsOf 0 = .ok (.iconst 0, 1) := by decide +kernel
theorem dX7_groupsOf_1 : decode cX7_groupsOf 1 = .ok (.istore_n 1, 1) := by decide +kernel
theorem dX7_groupsOf_2 : decode cX7_groupsOf 2 = .ok (.iload_n 1, 1) := by decide +kernel
theorem dX7_groupsOf_3 : decode cX7_groupsOf 3 = .ok (.bipush 6, 2) := by decide +kernel
theorem dX7_groupsOf_5 : decode cX7_groupsOf 5 = .ok (.if_icmp .ge 20, 3) := by decide +kernel
theorem dX7_groupsOf_8 : decode cX7_groupsOf 8 = .ok (.aload_n 0, 1) := by decide +kernel
theorem dX7_groupsOf_9 : decode cX7_groupsOf 9 = .ok (.getfield 34, 3) := by decide +kernel
theorem dX7_groupsOf_12 : decode cX7_groupsOf 12 = .ok (.iload_n 1, 1) := by decide +kernel
theorem dX7_groupsOf_13 : decode cX7_groupsOf 13 = .ok (.aload_n 0, 1) := by decide +kernel
theorem dX7_groupsOf_14 : decode cX7_groupsOf 14 = .ok (.iload_n 1, 1) := by decide +kernel
theorem dX7_groupsOf_15 : decode cX7_groupsOf 15 = .ok (.invokevirtual 188, 3) := by decide +kernel
theorem dX7_groupsOf_18 : decode cX7_groupsOf 18 = .ok (.iastore, 1) := by decide +kernel
theorem dX7_groupsOf_19 : decode cX7_groupsOf 19 = .ok (.iinc 1 1, 3) := by decide +kernel
theorem dX7_groupsOf_22 : decode cX7_groupsOf 22 = .ok (.goto (-20), 3) := by decide +kernel
theorem dX7_groupsOf_25 : decode cX7_groupsOf 25 = .ok (.iconst 1, 1) := by decide +kernel
theorem dX7_groupsOf_26 : decode cX7_groupsOf 26 = .ok (.istore_n 1, 1) := by decide +kernel
theorem dX7_groupsOf_27 : decode cX7_groupsOf 27 = .ok (.iload_n 1, 1) := by decide +kernel
theorem dX7_groupsOf_28 : decode cX7_groupsOf 28 = .ok (.bipush 64, 2) := by decide +kernel
theorem dX7_groupsOf_30 : decode cX7_groupsOf 30 = .ok (.if_icmp .ge 157, 3) := by decide +kernel
theorem dX7_groupsOf_33 : decode cX7_groupsOf 33 = .ok (.iconst 0, 1) := by decide +kernel
theorem dX7_groupsOf_34 : decode cX7_groupsOf 34 = .ok (.istore_n 2, 1) := by decide +kernel
theorem dX7_groupsOf_35 : decode cX7_groupsOf 35 = .ok (.iconst 0, 1) := by decide +kernel
theorem dX7_groupsOf_36 : decode cX7_groupsOf 36 = .ok (.istore_n 3, 1) := by decide +kernel
theorem dX7_groupsOf_37 : decode cX7_groupsOf 37 = .ok (.iload_n 3, 1) := by decide +kernel
theorem dX7_groupsOf_38 : decode cX7_groupsOf 38 = .ok (.bipush 6, 2) := by decide +kernel
theorem dX7_groupsOf_40 : decode cX7_groupsOf 40 = .ok (.if_icmp .ge 31, 3) := by decide +kernel
theorem dX7_groupsOf_43 : decode cX7_groupsOf 43 = .ok (.iload_n 2, 1) := by decide +kernel
theorem dX7_groupsOf_44 : decode cX7_groupsOf 44 = .ok (.iload_n 1, 1) := by decide +kernel
theorem dX7_groupsOf_45 : decode cX7_groupsOf 45 = .ok (.iload_n 3, 1) := by decide +kernel
theorem dX7_groupsOf_46 : decode cX7_groupsOf 46 = .ok (.ishr, 1) := by decide +kernel
theorem dX7_groupsOf_47 : decode cX7_groupsOf 47 = .ok (.iconst 1, 1) := by decide +kernel
theorem dX7_groupsOf_48 : decode cX7_groupsOf 48 = .ok (.iand, 1) := by decide +kernel
theorem dX7_groupsOf_49 : decode cX7_groupsOf 49 = .ok (.iconst 1, 1) := by decide +kernel
theorem dX7_groupsOf_50 : decode cX7_groupsOf 50 = .ok (.if_icmp .ne 12, 3) := by decide +kernel
theorem dX7_groupsOf_53 : decode cX7_groupsOf 53 = .ok (.aload_n 0, 1) := by decide +kernel
theorem dX7_groupsOf_54 : decode cX7_groupsOf 54 = .ok (.getfield 34, 3) := by decide +kernel
theorem dX7_groupsOf_57 : decode cX7_groupsOf 57 = .ok (.iload_n 3, 1) := by decide +kernel
