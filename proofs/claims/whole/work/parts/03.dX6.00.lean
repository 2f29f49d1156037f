theorem dX6_init_0 : decode cX6_init 0 = .ok (.aload_n 0, 1) := by decide +kernel
theorem dX6_init_1 : decode cX6_init 1 = .ok (.invokespecial 1, 3) := by decide +kernel
theorem dX6_init_4 : decode cX6_init 4 = .ok (.aload_n 0, 1) := by decide +kernel
theorem dX6_init_5 : decode cX6_init 5 = .ok (.new 7, 3) := by decide +kernel
theorem dX6_init_8 : decode cX6_init 8 = .ok (.dup, 1) := by decide +kernel
theorem dX6_init_9 : decode cX6_init 9 = .ok (.invokespecial 9, 3) := by decide +kernel
theorem dX6_init_12 : decode cX6_init 12 = .ok (.putfield 10, 3) := by decide +kernel
theorem dX6_init_15 : decode cX6_init 15 = .ok (.aload_n 0, 1) := by decide +kernel
theorem dX6_init_16 : decode cX6_init 16 = .ok (.new 7, 3) := by decide +kernel
theorem dX6_init_19 : decode cX6_init 19 = .ok (.dup, 1) := by decide +kernel
theorem dX6_init_20 : decode cX6_init 20 = .ok (.invokespecial 9, 3) := by decide +kernel
theorem dX6_init_23 : decode cX6_init 23 = .ok (.putfield 16, 3) := by decide +kernel
theorem dX6_init_26 : decode cX6_init 26 = .ok (.aload_n 0, 1) := by decide +kernel
theorem dX6_init_27 : decode cX6_init 27 = .ok (.new 7, 3) := by decide +kernel
theorem dX6_init_30 : decode cX6_init 30 = .ok (.dup, 1) := by decide +kernel
theorem dX6_init_31 : decode cX6_init 31 = .ok (.invokespecial 9, 3) := by decide +kernel
theorem dX6_init_34 : decode cX6_init 34 = .ok (.putfield 19, 3) := by decide +kernel
theorem dX6_init_37 : decode cX6_init 37 = .ok (.aload_n 0, 1) := by decide +kernel
theorem dX6_init_38 : decode cX6_init 38 = .ok (.new 22, 3) := by decide +kernel
theorem dX6_init_41 : decode cX6_init 41 = .ok (.dup, 1) := by decide +kernel
theorem dX6_init_42 : decode cX6_init 42 = .ok (.invokespecial 24, 3) := by decide +kernel
theorem dX6_init_45 : decode cX6_init 45 = .ok (.putfield 25, 3) := by decide +kernel
theorem dX6_init_48 : decode cX6_init 48 = .ok (.aload_n 0, 1) := by decide +kernel
theorem dX6_init_49 : decode cX6_init 49 = .ok (.new 29, 3) := by decide +kernel
theorem dX6_init_52 : decode cX6_init 52 = .ok (.dup, 1) := by decide +kernel
theorem dX6_init_53 : decode cX6_init 53 = .ok (.invokespecial 31, 3) := by decide +kernel
theorem dX6_init_56 : decode cX6_init 56 = .ok (.putfield 32, 3) := by decide +kernel
theorem dX6_init_59 : decode cX6_init 59 = .ok (.aload_n 0, 1) := by decide +kernel
theorem dX6_init_60 : decode cX6_init 60 = .ok (.new 36, 3) := by decide +kernel
theorem dX6_init_63 : decode cX6_init 63 = .ok (.dup, 1) := by decide +kernel
theorem dX6_init_64 : decode cX6_init 64 = .ok (.invokespecial 38, 3) := by decide +kernel
theorem dX6_init_67 : decode cX6_init 67 = .ok (.putfield 39, 3) := by decide +kernel
theorem dX6_init_70 : decode cX6_init 70 = .ok (.aload_n 0, 1) := by decide +kernel
theorem dX6_init_71 : decode cX6_init 71 = .ok (.new 43, 3) := by decide +kernel
theorem dX6_init_74 : decode cX6_init 74 = .ok (.dup, 1) := by decide +kernel
theorem dX6_init_75 : decode cX6_init 75 = .ok (.invokespecial 45, 3) := by decide +kernel
theorem dX6_init_78 : decode cX6_init 78 = .ok (.putfield 46, 3) := by decide +kernel
theorem dX6_init_81 : decode cX6_init 81 = .ok (.aload_n 0, 1) := by decide +kernel
theorem dX6_init_82 : decode cX6_init 82 = .ok (.getfield 10, 3) := by decide +kernel
theorem dX6_init_85 : decode cX6_init 85 = .ok (.iconst 3, 1) := by decide +kernel
theorem dX6_init_86 : decode cX6_init 86 = .ok (.iconst 3, 1) := by decide +kernel
theorem dX6_init_87 : decode cX6_init 87 = .ok (.invokevirtual 50, 3) := by decide +kernel
theorem dX6_init_90 : decode cX6_init 90 = .ok (.return_, 1) := by decide +kernel
theorem dX6_lake_0 : decode cX6_lake 0 = .ok (.iload_n 1, 1) := by decide +kernel
theorem dX6_lake_1 : decode cX6_lake 1 = .ok (.iconst 2, 1) := by decide +kernel
theorem dX6_lake_2 : decode cX6_lake 2 = .ok (.iconst 4, 1) := by decide +kernel
theorem dX6_lake_3 : decode cX6_lake 3 = .ok (.invokestatic 54, 3) := by decide +kernel
theorem dX6_lake_6 : decode cX6_lake 6 = .ok (.ifCond .eq 12, 3) := by decide +kernel
theorem dX6_lake_9 : decode cX6_lake 9 = .ok (.iload_n 2, 1) := by decide +kernel
theorem dX6_lake_10 : decode cX6_lake 10 = .ok (.iconst 2, 1) := by decide +kernel
theorem dX6_lake_11 : decode cX6_lake 11 = .ok (.iconst 4, 1) := by decide +kernel
theorem dX6_lake_12 : decode cX6_lake 12 = .ok (.invokestatic 54, 3) := by decide +kernel
theorem dX6_lake_15 : decode cX6_lake 15 = .ok (.ifCond .ne 6, 3) := by decide +kernel
theorem dX6_lake_18 : decode cX6_lake 18 = .ok (.bipush (-102), 2) := by decide +kernel
theorem dX6_lake_20 : decode cX6_lake 20 = .ok (.ireturn, 1) := by decide +kernel
theorem dX6_lake_21 : decode cX6_lake 21 = .ok (.aload_n 0, 1) := by decide +kernel
theorem dX6_lake_22 : decode cX6_lake 22 = .ok (.getfield 10, 3) := by decide +kernel
theorem dX6_lake_25 : decode cX6_lake 25 = .ok (.iload_n 1, 1) := by decide +kernel
theorem dX6_lake_26 : decode cX6_lake 26 = .ok (.iload_n 2, 1) := by decide +kernel
theorem dX6_lake_27 : decode cX6_lake 27 = .ok (.invokevirtual 50, 3) := by decide +kernel
theorem dX6_lake_30 : decode cX6_lake 30 = .ok (.aload_n 0, 1) := by decide +kernel
theorem dX6_lake_31 : decode cX6_lake 31 = .ok (.iconst 0, 1) := by decide +kernel
theorem dX6_lake_32 : decode cX6_lake 32 = .ok (.putfield 58, 3) := by decide +kernel
theorem dX6_lake_35 : decode cX6_lake 35 = .ok (.aload_n 0, 1) := by decide +kernel
theorem dX6_lake_36 : decode cX6_lake 36 = .ok (.getfield 10, 3) := by decide +kernel
theorem dX6_lake_39 : decode cX6_lake 39 = .ok (.getfield 62, 3) := by decide +kernel
theorem dX6_lake_42 : decode cX6_lake 42 = .ok (.ireturn, 1) := by decide +kernel
theorem dX6_ice_0 : decode cX6_ice 0 = .ok (.aload_n 0, 1) := by decide +kernel
theorem dX6_ice_1 : decode cX6_ice 1 = .ok (.getfield 10, 3) := by decide +kernel
theorem dX6_ice_4 : decode cX6_ice 4 = .ok (.iload_n 1, 1) := by decide +kernel
theorem dX6_ice_5 : decode cX6_ice 5 = .ok (.invokevirtual 66, 3) := by decide +kernel
theorem dX6_ice_8 : decode cX6_ice 8 = .ok (.ifCond .ne 6, 3) := by decide +kernel
theorem dX6_ice_11 : decode cX6_ice 11 = .ok (.bipush (-101), 2) := by decide +kernel
theorem dX6_ice_13 : decode cX6_ice 13 = .ok (.ireturn, 1) := by decide +kernel
theorem dX6_ice_14 : decode cX6_ice 14 = .ok (.iload_n 2, 1) := by decide +kernel
theorem dX6_ice_15 : decode cX6_ice 15 = .ok (.iconst 0, 1) := by decide +kernel
theorem dX6_ice_16 : decode cX6_ice 16 = .ok (.bipush 99, 2) := by decide +kernel
theorem dX6_ice_18 : decode cX6_ice 18 = .ok (.invokestatic 54, 3) := by decide +kernel
theorem dX6_ice_21 : decode cX6_ice 21 = .ok (.ifCond .ne 6, 3) := by decide +kernel
theorem dX6_ice_24 : decode cX6_ice 24 = .ok (.bipush (-102), 2) := by decide +kernel
theorem dX6_ice_26 : decode cX6_ice 26 = .ok (.ireturn, 1) := by decide +kernel
theorem dX6_ice_27 : decode cX6_ice 27 = .ok (.aload_n 0, 1) := by decide +kernel
theorem dX6_ice_28 : decode cX6_ice 28 = .ok (.getfield 10, 3) := by decide +kernel
theorem dX6_ice_31 : decode cX6_ice 31 = .ok (.iload_n 1, 1) := by decide +kernel
theorem dX6_ice_32 : decode cX6_ice 32 = .ok (.invokevirtual 70, 3) := by decide +kernel
theorem dX6_ice_35 : decode cX6_ice 35 = .ok (.ifCond .le 6, 3) := by decide +kernel
theorem dX6_ice_38 : decode cX6_ice 38 = .ok (.bipush (-103), 2) := by decide +kernel
theorem dX6_ice_40 : decode cX6_ice 40 = .ok (.ireturn, 1) := by decide +kernel
theorem dX6_ice_41 : decode cX6_ice 41 = .ok (.aload_n 0, 1) := by decide +kernel
theorem dX6_ice_42 : decode cX6_ice 42 = .ok (.getfield 10, 3) := by decide +kernel
theorem dX6_ice_45 : decode cX6_ice 45 = .ok (.getfield 74, 3) := by decide +kernel
theorem dX6_ice_48 : decode cX6_ice 48 = .ok (.iload_n 1, 1) := by decide +kernel
theorem dX6_ice_49 : decode cX6_ice 49 = .ok (.iaload, 1) := by decide +kernel
theorem dX6_ice_50 : decode cX6_ice 50 = .ok (.istore_n 3, 1) := by decide +kernel
theorem dX6_ice_51 : decode cX6_ice 51 = .ok (.aload_n 0, 1) := by decide +kernel
theorem dX6_ice_52 : decode cX6_ice 52 = .ok (.getfield 10, 3) := by decide +kernel
theorem dX6_ice_55 : decode cX6_ice 55 = .ok (.getfield 74, 3) := by decide +kernel
theorem dX6_ice_58 : decode cX6_ice 58 = .ok (.iload_n 1, 1) := by decide +kernel
theorem dX6_ice_59 : decode cX6_ice 59 = .ok (.iload_n 2, 1) := by decide +kernel
theorem dX6_ice_60 : decode cX6_ice 60 = .ok (.iastore, 1) := by decide +kernel
theorem dX6_ice_61 : decode cX6_ice 61 = .ok (.iload_n 3, 1) := by decide +kernel
theorem dX6_ice_62 : decode cX6_ice 62 = .ok (.ireturn, 1) := by decide +kernel
theorem dX6_square_0 : decode cX6_square 0 = .ok (.aload_n 0, 1) := by decide +kernel
theorem dX6_square_1 : decode cX6_square 1 = .ok (.getfield 10, 3) := by decide +kernel
theorem dX6_square_4 : decode cX6_square 4 = .ok (.iload_n 1, 1) := by decide +kernel
theorem dX6_square_5 : decode cX6_square 5 = .ok (.invokevirtual 66, 3) := by decide +kernel
theorem dX6_square_8 : decode cX6_square 8 = .ok (.ifCond .ne 6, 3) := by decide +kernel
theorem dX6_square_11 : decode cX6_square 11 = .ok (.bipush (-101), 2) := by decide +kernel
theorem dX6_square_13 : decode cX6_square 13 = .ok (.ireturn, 1) := by decide +kernel
theorem dX6_square_14 : decode cX6_square 14 = .ok (.iload_n 2, 1) := by decide +kernel
theorem dX6_square_15 : decode cX6_square 15 = .ok (.tableswitch 75 0 3 #[29, 39, 47, 56], 29) := by decide +kernel
theorem dX6_square_44 : decode cX6_square 44 = .ok (.aload_n 0, 1) := by decide +kernel
theorem dX6_square_45 : decode cX6_square 45 = .ok (.getfield 10, 3) := by decide +kernel
theorem dX6_square_48 : decode cX6_square 48 = .ok (.getfield 74, 3) := by decide +kernel
theorem dX6_square_51 : decode cX6_square 51 = .ok (.iload_n 1, 1) := by decide +kernel
theorem dX6_square_52 : decode cX6_square 52 = .ok (.iaload, 1) := by decide +kernel
theorem dX6_square_53 : decode cX6_square 53 = .ok (.ireturn, 1) := by decide +kernel
theorem dX6_square_54 : decode cX6_square 54 = .ok (.aload_n 0, 1) := by decide +kernel
theorem dX6_square_55 : decode cX6_square 55 = .ok (.getfield 10, 3) := by decide +kernel
theorem dX6_square_58 : decode cX6_square 58 = .ok (.getfield 78, 3) := by decide +kernel
theorem dX6_square_61 : decode cX6_square 61 = .ok (.ireturn, 1) := by decide +kernel
theorem dX6_square_62 : decode cX6_square 62 = .ok (.aload_n 0, 1) := by decide +kernel
theorem dX6_square_63 : decode cX6_square 63 = .ok (.getfield 10, 3) := by decide +kernel
theorem dX6_square_66 : decode cX6_square 66 = .ok (.iload_n 1, 1) := by decide +kernel
theorem dX6_square_67 : decode cX6_square 67 = .ok (.invokevirtual 70, 3) := by decide +kernel
theorem dX6_square_70 : decode cX6_square 70 = .ok (.ireturn, 1) := by decide +kernel
theorem dX6_square_71 : decode cX6_square 71 = .ok (.aload_n 0, 1) := by decide +kernel
theorem dX6_square_72 : decode cX6_square 72 = .ok (.getfield 10, 3) := by decide +kernel
theorem dX6_square_75 : decode cX6_square 75 = .ok (.getfield 74, 3) := by decide +kernel
theorem dX6_square_78 : decode cX6_square 78 = .ok (.iload_n 1, 1) := by decide +kernel
theorem dX6_square_79 : decode cX6_square 79 = .ok (.iaload, 1) := by decide +kernel
theorem dX6_square_80 : decode cX6_square 80 = .ok (.iconst 4, 1) := by decide +kernel
theorem dX6_square_81 : decode cX6_square 81 = .ok (.if_icmp .lt 7, 3) := by decide +kernel
theorem dX6_square_84 : decode cX6_square 84 = .ok (.iconst 1, 1) := by decide +kernel
theorem dX6_square_85 : decode cX6_square 85 = .ok (.goto 4, 3) := by decide +kernel
theorem dX6_square_88 : decode cX6_square 88 = .ok (.iconst 0, 1) := by decide +kernel
theorem dX6_square_89 : decode cX6_square 89 = .ok (.ireturn, 1) := by decide +kernel
theorem dX6_square_90 : decode cX6_square 90 = .ok (.bipush (-102), 2) := by decide +kernel
theorem dX6_square_92 : decode cX6_square 92 = .ok (.ireturn, 1) := by decide +kernel
theorem dX6_fish_0 : decode cX6_fish 0 = .ok (.aload_n 0, 1) := by decide +kernel
theorem dX6_fish_1 : decode cX6_fish 1 = .ok (.getfield 10, 3) := by decide +kernel
theorem dX6_fish_4 : decode cX6_fish 4 = .ok (.iload_n 1, 1) := by decide +kernel
theorem dX6_fish_5 : decode cX6_fish 5 = .ok (.invokevirtual 66, 3) := by decide +kernel
theorem dX6_fish_8 : decode cX6_fish 8 = .ok (.ifCond .ne 6, 3) := by decide +kernel
theorem dX6_fish_11 : decode cX6_fish 11 = .ok (.bipush (-101), 2) := by decide +kernel
theorem dX6_fish_13 : decode cX6_fish 13 = .ok (.ireturn, 1) := by decide +kernel
theorem dX6_fish_14 : decode cX6_fish 14 = .ok (.aload_n 0, 1) := by decide +kernel
theorem dX6_fish_15 : decode cX6_fish 15 = .ok (.getfield 10, 3) := by decide +kernel
theorem dX6_fish_18 : decode cX6_fish 18 = .ok (.getfield 74, 3) := by decide +kernel
theorem dX6_fish_21 : decode cX6_fish 21 = .ok (.iload_n 1, 1) := by decide +kernel
theorem dX6_fish_22 : decode cX6_fish 22 = .ok (.iaload, 1) := by decide +kernel
theorem dX6_fish_23 : decode cX6_fish 23 = .ok (.ifCond .ne 6, 3) := by decide +kernel
theorem dX6_fish_26 : decode cX6_fish 26 = .ok (.bipush (-103), 2) := by decide +kernel
theorem dX6_fish_28 : decode cX6_fish 28 = .ok (.ireturn, 1) := by decide +kernel
theorem dX6_fish_29 : decode cX6_fish 29 = .ok (.aload_n 0, 1) := by decide +kernel
theorem dX6_fish_30 : decode cX6_fish 30 = .ok (.getfield 10, 3) := by decide +kernel
theorem dX6_fish_33 : decode cX6_fish 33 = .ok (.iload_n 1, 1) := by decide +kernel
theorem dX6_fish_34 : decode cX6_fish 34 = .ok (.invokevirtual 81, 3) := by decide +kernel
theorem dX6_fish_37 : decode cX6_fish 37 = .ok (.ireturn, 1) := by decide +kernel
theorem dX6_write_0 : decode cX6_write 0 = .ok (.aload_n 0, 1) := by decide +kernel
theorem dX6_write_1 : decode cX6_write 1 = .ok (.getfield 10, 3) := by decide +kernel
theorem dX6_write_4 : decode cX6_write 4 = .ok (.iload_n 2, 1) := by decide +kernel
theorem dX6_write_5 : decode cX6_write 5 = .ok (.invokevirtual 66, 3) := by decide +kernel
theorem dX6_write_8 : decode cX6_write 8 = .ok (.ifCond .eq 12, 3) := by decide +kernel
theorem dX6_write_11 : decode cX6_write 11 = .ok (.iload_n 3, 1) := by decide +kernel
theorem dX6_write_12 : decode cX6_write 12 = .ok (.iload 4, 2) := by decide +kernel
theorem dX6_write_14 : decode cX6_write 14 = .ok (.invokestatic 84, 3) := by decide +kernel
theorem dX6_write_17 : decode cX6_write 17 = .ok (.ifCond .ne 6, 3) := by decide +kernel
theorem dX6_write_20 : decode cX6_write 20 = .ok (.bipush (-101), 2) := by decide +kernel
theorem dX6_write_22 : decode cX6_write 22 = .ok (.ireturn, 1) := by decide +kernel
theorem dX6_write_23 : decode cX6_write 23 = .ok (.iload_n 1, 1) := by decide +kernel
theorem dX6_write_24 : decode cX6_write 24 = .ok (.invokestatic 88, 3) := by decide +kernel
theorem dX6_write_27 : decode cX6_write 27 = .ok (.ifCond .eq 25, 3) := by decide +kernel
theorem dX6_write_30 : decode cX6_write 30 = .ok (.iload 5, 2) := by decide +kernel
theorem dX6_write_32 : decode cX6_write 32 = .ok (.iconst 1, 1) := by decide +kernel
theorem dX6_write_33 : decode cX6_write 33 = .ok (.bipush 99, 2) := by decide +kernel
theorem dX6_write_35 : decode cX6_write 35 = .ok (.invokestatic 54, 3) := by decide +kernel
theorem dX6_write_38 : decode cX6_write 38 = .ok (.ifCond .eq 14, 3) := by decide +kernel
theorem dX6_write_41 : decode cX6_write 41 = .ok (.iload 6, 2) := by decide +kernel
theorem dX6_write_43 : decode cX6_write 43 = .ok (.iconst 1, 1) := by decide +kernel
theorem dX6_write_44 : decode cX6_write 44 = .ok (.bipush 9, 2) := by decide +kernel
theorem dX6_write_46 : decode cX6_write 46 = .ok (.invokestatic 54, 3) := by decide +kernel
theorem dX6_write_49 : decode cX6_write 49 = .ok (.ifCond .ne 6, 3) := by decide +kernel
theorem dX6_write_52 : decode cX6_write 52 = .ok (.bipush (-102), 2) := by decide +kernel
theorem dX6_write_54 : decode cX6_write 54 = .ok (.ireturn, 1) := by decide +kernel
theorem dX6_write_55 : decode cX6_write 55 = .ok (.aload_n 0, 1) := by decide +kernel
theorem dX6_write_56 : decode cX6_write 56 = .ok (.getfield 10, 3) := by decide +kernel
theorem dX6_write_59 : decode cX6_write 59 = .ok (.getfield 74, 3) := by decide +kernel
theorem dX6_write_62 : decode cX6_write 62 = .ok (.iload_n 2, 1) := by decide +kernel
theorem dX6_write_63 : decode cX6_write 63 = .ok (.iaload, 1) := by decide +kernel
theorem dX6_write_64 : decode cX6_write 64 = .ok (.iload_n 1, 1) := by decide +kernel
theorem dX6_write_65 : decode cX6_write 65 = .ok (.iload 6, 2) := by decide +kernel
theorem dX6_write_67 : decode cX6_write 67 = .ok (.invokestatic 91, 3) := by decide +kernel
theorem dX6_write_70 : decode cX6_write 70 = .ok (.if_icmp .ge 6, 3) := by decide +kernel
theorem dX6_write_73 : decode cX6_write 73 = .ok (.bipush (-103), 2) := by decide +kernel
theorem dX6_write_75 : decode cX6_write 75 = .ok (.ireturn, 1) := by decide +kernel
theorem dX6_write_76 : decode cX6_write 76 = .ok (.aload_n 0, 1) := by decide +kernel
theorem dX6_write_77 : decode cX6_write 77 = .ok (.getfield 10, 3) := by decide +kernel
theorem dX6_write_80 : decode cX6_write 80 = .ok (.getfield 97, 3) := by decide +kernel
theorem dX6_write_83 : decode cX6_write 83 = .ok (.bipush 10, 2) := by decide +kernel
theorem dX6_write_85 : decode cX6_write 85 = .ok (.if_icmp .lt 6, 3) := by decide +kernel
theorem dX6_write_88 : decode cX6_write 88 = .ok (.bipush (-104), 2) := by decide +kernel
theorem dX6_write_90 : decode cX6_write 90 = .ok (.ireturn, 1) := by decide +kernel
theorem dX6_write_91 : decode cX6_write 91 = .ok (.aload_n 0, 1) := by decide +kernel
theorem dX6_write_92 : decode cX6_write 92 = .ok (.getfield 10, 3) := by decide +kernel
theorem dX6_write_95 : decode cX6_write 95 = .ok (.getfield 97, 3) := by decide +kernel
theorem dX6_write_98 : decode cX6_write 98 = .ok (.istore 7, 2) := by decide +kernel
theorem dX6_write_100 : decode cX6_write 100 = .ok (.aload_n 0, 1) := by decide +kernel
theorem dX6_write_101 : decode cX6_write 101 = .ok (.getfield 10, 3) := by decide +kernel
theorem dX6_write_104 : decode cX6_write 104 = .ok (.getfield 100, 3) := by decide +kernel
theorem dX6_write_107 : decode cX6_write 107 = .ok (.iload 7, 2) := by decide +kernel
theorem dX6_write_109 : decode cX6_write 109 = .ok (.aaload, 1) := by decide +kernel
theorem dX6_write_110 : decode cX6_write 110 = .ok (.astore 8, 2) := by decide +kernel
theorem dX6_write_112 : decode cX6_write 112 = .ok (.aload 8, 2) := by decide +kernel
theorem dX6_write_114 : decode cX6_write 114 = .ok (.iload_n 1, 1) := by decide +kernel
theorem dX6_write_115 : decode cX6_write 115 = .ok (.iload_n 2, 1) := by decide +kernel
theorem dX6_write_116 : decode cX6_write 116 = .ok (.iload_n 3, 1) := by decide +kernel
theorem dX6_write_117 : decode cX6_write 117 = .ok (.iload 4, 2) := by decide +kernel
theorem dX6_write_119 : decode cX6_write 119 = .ok (.invokevirtual 104, 3) := by decide +kernel
theorem dX6_write_122 : decode cX6_write 122 = .ok (.aload 8, 2) := by decide +kernel
theorem dX6_write_124 : decode cX6_write 124 = .ok (.iload 5, 2) := by decide +kernel
theorem dX6_write_126 : decode cX6_write 126 = .ok (.iload_n 1, 1) := by decide +kernel
theorem dX6_write_127 : decode cX6_write 127 = .ok (.iload 6, 2) := by decide +kernel
theorem dX6_write_129 : decode cX6_write 129 = .ok (.invokestatic 91, 3) := by decide +kernel
theorem dX6_write_132 : decode cX6_write 132 = .ok (.invokevirtual 108, 3) := by decide +kernel
theorem dX6_write_135 : decode cX6_write 135 = .ok (.aload_n 0, 1) := by decide +kernel
theorem dX6_write_136 : decode cX6_write 136 = .ok (.getfield 10, 3) := by decide +kernel
theorem dX6_write_139 : decode cX6_write 139 = .ok (.iload 7, 2) := by decide +kernel
theorem dX6_write_141 : decode cX6_write 141 = .ok (.iconst 1, 1) := by decide +kernel
theorem dX6_write_142 : decode cX6_write 142 = .ok (.iadd, 1) := by decide +kernel
theorem dX6_write_143 : decode cX6_write 143 = .ok (.putfield 97, 3) := by decide +kernel
theorem dX6_write_146 : decode cX6_write 146 = .ok (.iload 7, 2) := by decide +kernel
theorem dX6_write_148 : decode cX6_write 148 = .ok (.ireturn, 1) := by decide +kernel
theorem dX6_about_0 : decode cX6_about 0 = .ok (.aload_n 0, 1) := by decide +kernel
theorem dX6_about_1 : decode cX6_about 1 = .ok (.getfield 10, 3) := by decide +kernel
theorem dX6_about_4 : decode cX6_about 4 = .ok (.iload_n 1, 1) := by decide +kernel
theorem dX6_about_5 : decode cX6_about 5 = .ok (.invokevirtual 111, 3) := by decide +kernel
theorem dX6_about_8 : decode cX6_about 8 = .ok (.ifCond .ne 6, 3) := by decide +kernel
theorem dX6_about_11 : decode cX6_about 11 = .ok (.bipush (-101), 2) := by decide +kernel
theorem dX6_about_13 : decode cX6_about 13 = .ok (.ireturn, 1) := by decide +kernel
theorem dX6_about_14 : decode cX6_about 14 = .ok (.aload_n 0, 1) := by decide +kernel
theorem dX6_about_15 : decode cX6_about 15 = .ok (.getfield 10, 3) := by decide +kernel
theorem dX6_about_18 : decode cX6_about 18 = .ok (.getfield 100, 3) := by decide +kernel
theorem dX6_about_21 : decode cX6_about 21 = .ok (.iload_n 1, 1) := by decide +kernel
theorem dX6_about_22 : decode cX6_about 22 = .ok (.aaload, 1) := by decide +kernel
theorem dX6_about_23 : decode cX6_about 23 = .ok (.astore_n 3, 1) := by decide +kernel
theorem dX6_about_24 : decode cX6_about 24 = .ok (.iload_n 2, 1) := by decide +kernel
theorem dX6_about_25 : decode cX6_about 25 = .ok (.tableswitch 92 0 7 #[47, 52, 57, 62, 67, 72, 77, 86], 47) := by decide +kernel
theorem dX6_about_72 : decode cX6_about 72 = .ok (.aload_n 3, 1) := by decide +kernel
theorem dX6_about_73 : decode cX6_about 73 = .ok (.getfield 114, 3) := by decide +kernel
theorem dX6_about_76 : decode cX6_about 76 = .ok (.ireturn, 1) := by decide +kernel
theorem dX6_about_77 : decode cX6_about 77 = .ok (.aload_n 3, 1) := by decide +kernel
theorem dX6_about_78 : decode cX6_about 78 = .ok (.getfield 117, 3) := by decide +kernel
theorem dX6_about_81 : decode cX6_about 81 = .ok (.ireturn, 1) := by decide +kernel
theorem dX6_about_82 : decode cX6_about 82 = .ok (.aload_n 3, 1) := by decide +kernel
theorem dX6_about_83 : decode cX6_about 83 = .ok (.getfield 120, 3) := by decide +kernel
theorem dX6_about_86 : decode cX6_about 86 = .ok (.ireturn, 1) := by decide +kernel
theorem dX6_about_87 : decode cX6_about 87 = .ok (.aload_n 3, 1) := by decide +kernel
theorem dX6_about_88 : decode cX6_about 88 = .ok (.getfield 123, 3) := by decide +kernel
theorem dX6_about_91 : decode cX6_about 91 = .ok (.ireturn, 1) := by decide +kernel
theorem dX6_about_92 : decode cX6_about 92 = .ok (.aload_n 3, 1) := by decide +kernel
theorem dX6_about_93 : decode cX6_about 93 = .ok (.getfield 126, 3) := by decide +kernel
theorem dX6_about_96 : decode cX6_about 96 = .ok (.ireturn, 1) := by decide +kernel
theorem dX6_about_97 : decode cX6_about 97 = .ok (.aload_n 3, 1) := by decide +kernel
theorem dX6_about_98 : decode cX6_about 98 = .ok (.getfield 129, 3) := by decide +kernel
theorem dX6_about_101 : decode cX6_about 101 = .ok (.ireturn, 1) := by decide +kernel
theorem dX6_about_102 : decode cX6_about 102 = .ok (.aload_n 0, 1) := by decide +kernel
theorem dX6_about_103 : decode cX6_about 103 = .ok (.getfield 10, 3) := by decide +kernel
theorem dX6_about_106 : decode cX6_about 106 = .ok (.iload_n 1, 1) := by decide +kernel
theorem dX6_about_107 : decode cX6_about 107 = .ok (.invokevirtual 132, 3) := by decide +kernel
theorem dX6_about_110 : decode cX6_about 110 = .ok (.ireturn, 1) := by decide +kernel
theorem dX6_about_111 : decode cX6_about 111 = .ok (.aload_n 0, 1) := by decide +kernel
theorem dX6_about_112 : decode cX6_about 112 = .ok (.aload_n 3, 1) := by decide +kernel
theorem dX6_about_113 : decode cX6_about 113 = .ok (.invokevirtual 135, 3) := by decide +kernel
theorem dX6_about_116 : decode cX6_about 116 = .ok (.ireturn, 1) := by decide +kernel
theorem dX6_about_117 : decode cX6_about 117 = .ok (.bipush (-102), 2) := by decide +kernel
theorem dX6_about_119 : decode cX6_about 119 = .ok (.ireturn, 1) := by decide +kernel
theorem dX6_conditionOf_0 : decode cX6_conditionOf 0 = .ok (.aload_n 1, 1) := by decide +kernel
theorem dX6_conditionOf_1 : decode cX6_conditionOf 1 = .ok (.getfield 139, 3) := by decide +kernel
theorem dX6_conditionOf_4 : decode cX6_conditionOf 4 = .ok (.ifCond .eq 5, 3) := by decide +kernel
theorem dX6_conditionOf_7 : decode cX6_conditionOf 7 = .ok (.iconst 3, 1) := by decide +kernel
theorem dX6_conditionOf_8 : decode cX6_conditionOf 8 = .ok (.ireturn, 1) := by decide +kernel
theorem dX6_conditionOf_9 : decode cX6_conditionOf 9 = .ok (.aload_n 1, 1) := by decide +kernel
theorem dX6_conditionOf_10 : decode cX6_conditionOf 10 = .ok (.invokevirtual 142, 3) := by decide +kernel
theorem dX6_conditionOf_13 : decode cX6_conditionOf 13 = .ok (.ifCond .ne 5, 3) := by decide +kernel
theorem dX6_conditionOf_16 : decode cX6_conditionOf 16 = .ok (.iconst 0, 1) := by decide +kernel
theorem dX6_conditionOf_17 : decode cX6_conditionOf 17 = .ok (.ireturn, 1) := by decide +kernel
theorem dX6_conditionOf_18 : decode cX6_conditionOf 18 = .ok (.aload_n 0, 1) := by decide +kernel
theorem dX6_conditionOf_19 : decode cX6_conditionOf 19 = .ok (.getfield 10, 3) := by decide +kernel
theorem dX6_conditionOf_22 : decode cX6_conditionOf 22 = .ok (.getfield 78, 3) := by decide +kernel
theorem dX6_conditionOf_25 : decode cX6_conditionOf 25 = .ok (.ifCond .le 7, 3) := by decide +kernel
theorem dX6_conditionOf_28 : decode cX6_conditionOf 28 = .ok (.iconst 1, 1) := by decide +kernel
theorem dX6_conditionOf_29 : decode cX6_conditionOf 29 = .ok (.goto 4, 3) := by decide +kernel
theorem dX6_conditionOf_32 : decode cX6_conditionOf 32 = .ok (.iconst 2, 1) := by decide +kernel
theorem dX6_conditionOf_33 : decode cX6_conditionOf 33 = .ok (.ireturn, 1) := by decide +kernel
theorem dX6_as_0 : decode cX6_as 0 = .ok (.aload_n 0, 1) := by decide +kernel
theorem dX6_as_1 : decode cX6_as 1 = .ok (.getfield 10, 3) := by decide +kernel
theorem dX6_as_4 : decode cX6_as 4 = .ok (.iload_n 1, 1) := by decide +kernel
theorem dX6_as_5 : decode cX6_as 5 = .ok (.invokevirtual 111, 3) := by decide +kernel
theorem dX6_as_8 : decode cX6_as 8 = .ok (.ifCond .ne 6, 3) := by decide +kernel
theorem dX6_as_11 : decode cX6_as 11 = .ok (.bipush (-101), 2) := by decide +kernel
theorem dX6_as_13 : decode cX6_as 13 = .ok (.ireturn, 1) := by decide +kernel
theorem dX6_as_14 : decode cX6_as 14 = .ok (.iload_n 2, 1) := by decide +kernel
theorem dX6_as_15 : decode cX6_as 15 = .ok (.invokestatic 88, 3) := by decide +kernel
theorem dX6_as_18 : decode cX6_as 18 = .ok (.ifCond .ne 6, 3) := by decide +kernel
theorem dX6_as_21 : decode cX6_as 21 = .ok (.bipush (-102), 2) := by decide +kernel
theorem dX6_as_23 : decode cX6_as 23 = .ok (.ireturn, 1) := by decide +kernel
theorem dX6_as_24 : decode cX6_as 24 = .ok (.aload_n 0, 1) := by decide +kernel
theorem dX6_as_25 : decode cX6_as 25 = .ok (.getfield 10, 3) := by decide +kernel
theorem dX6_as_28 : decode cX6_as 28 = .ok (.getfield 100, 3) := by decide +kernel
theorem dX6_as_31 : decode cX6_as 31 = .ok (.iload_n 1, 1) := by decide +kernel
theorem dX6_as_32 : decode cX6_as 32 = .ok (.aaload, 1) := by decide +kernel
theorem dX6_as_33 : decode cX6_as 33 = .ok (.getfield 114, 3) := by decide +kernel
theorem dX6_as_36 : decode cX6_as 36 = .ok (.iload_n 2, 1) := by decide +kernel
theorem dX6_as_37 : decode cX6_as 37 = .ok (.invokestatic 146, 3) := by decide +kernel
theorem dX6_as_40 : decode cX6_as 40 = .ok (.ifCond .eq 7, 3) := by decide +kernel
theorem dX6_as_43 : decode cX6_as 43 = .ok (.iload_n 1, 1) := by decide +kernel
theorem dX6_as_44 : decode cX6_as 44 = .ok (.goto 4, 3) := by decide +kernel
theorem dX6_as_47 : decode cX6_as 47 = .ok (.iconst (-1), 1) := by decide +kernel
theorem dX6_as_48 : decode cX6_as 48 = .ok (.ireturn, 1) := by decide +kernel
theorem dX6_saw_0 : decode cX6_saw 0 = .ok (.aload_n 0, 1) := by decide +kernel
theorem dX6_saw_1 : decode cX6_saw 1 = .ok (.getfield 10, 3) := by decide +kernel
theorem dX6_saw_4 : decode cX6_saw 4 = .ok (.iload_n 1, 1) := by decide +kernel
theorem dX6_saw_5 : decode cX6_saw 5 = .ok (.invokevirtual 111, 3) := by decide +kernel
theorem dX6_saw_8 : decode cX6_saw 8 = .ok (.ifCond .ne 6, 3) := by decide +kernel
theorem dX6_saw_11 : decode cX6_saw 11 = .ok (.bipush (-101), 2) := by decide +kernel
theorem dX6_saw_13 : decode cX6_saw 13 = .ok (.ireturn, 1) := by decide +kernel
theorem dX6_saw_14 : decode cX6_saw 14 = .ok (.aload_n 0, 1) := by decide +kernel
theorem dX6_saw_15 : decode cX6_saw 15 = .ok (.getfield 10, 3) := by decide +kernel
theorem dX6_saw_18 : decode cX6_saw 18 = .ok (.getfield 100, 3) := by decide +kernel
theorem dX6_saw_21 : decode cX6_saw 21 = .ok (.iload_n 1, 1) := by decide +kernel
theorem dX6_saw_22 : decode cX6_saw 22 = .ok (.aaload, 1) := by decide +kernel
theorem dX6_saw_23 : decode cX6_saw 23 = .ok (.invokevirtual 142, 3) := by decide +kernel
theorem dX6_saw_26 : decode cX6_saw 26 = .ok (.ifCond .ne 6, 3) := by decide +kernel
theorem dX6_saw_29 : decode cX6_saw 29 = .ok (.bipush (-103), 2) := by decide +kernel
theorem dX6_saw_31 : decode cX6_saw 31 = .ok (.ireturn, 1) := by decide +kernel
theorem dX6_saw_32 : decode cX6_saw 32 = .ok (.aload_n 0, 1) := by decide +kernel
theorem dX6_saw_33 : decode cX6_saw 33 = .ok (.getfield 10, 3) := by decide +kernel
theorem dX6_saw_36 : decode cX6_saw 36 = .ok (.iload_n 1, 1) := by decide +kernel
theorem dX6_saw_37 : decode cX6_saw 37 = .ok (.invokevirtual 149, 3) := by decide +kernel
theorem dX6_saw_40 : decode cX6_saw 40 = .ok (.istore_n 2, 1) := by decide +kernel
theorem dX6_saw_41 : decode cX6_saw 41 = .ok (.aload_n 0, 1) := by decide +kernel
theorem dX6_saw_42 : decode cX6_saw 42 = .ok (.getfield 10, 3) := by decide +kernel
theorem dX6_saw_45 : decode cX6_saw 45 = .ok (.getfield 100, 3) := by decide +kernel
theorem dX6_saw_48 : decode cX6_saw 48 = .ok (.iload_n 1, 1) := by decide +kernel
theorem dX6_saw_49 : decode cX6_saw 49 = .ok (.aaload, 1) := by decide +kernel
theorem dX6_saw_50 : decode cX6_saw 50 = .ok (.iload_n 2, 1) := by decide +kernel
theorem dX6_saw_51 : decode cX6_saw 51 = .ok (.invokevirtual 152, 3) := by decide +kernel
theorem dX6_saw_54 : decode cX6_saw 54 = .ok (.iload_n 2, 1) := by decide +kernel
theorem dX6_saw_55 : decode cX6_saw 55 = .ok (.ireturn, 1) := by decide +kernel
theorem dX6_letters_0 : decode cX6_letters 0 = .ok (.lload_n 1, 1) := by decide +kernel
theorem dX6_letters_1 : decode cX6_letters 1 = .ok (.invokestatic 156, 3) := by decide +kernel
theorem dX6_letters_4 : decode cX6_letters 4 = .ok (.istore_n 3, 1) := by decide +kernel
theorem dX6_letters_5 : decode cX6_letters 5 = .ok (.iload_n 3, 1) := by decide +kernel
theorem dX6_letters_6 : decode cX6_letters 6 = .ok (.ifCond .ge 6, 3) := by decide +kernel
theorem dX6_letters_9 : decode cX6_letters 9 = .ok (.bipush (-102), 2) := by decide +kernel
theorem dX6_letters_11 : decode cX6_letters 11 = .ok (.ireturn, 1) := by decide +kernel
theorem dX6_letters_12 : decode cX6_letters 12 = .ok (.aload_n 0, 1) := by decide +kernel
theorem dX6_letters_13 : decode cX6_letters 13 = .ok (.getfield 25, 3) := by decide +kernel
theorem dX6_letters_16 : decode cX6_letters 16 = .ok (.getfield 160, 3) := by decide +kernel
theorem dX6_letters_19 : decode cX6_letters 19 = .ok (.iload_n 3, 1) := by decide +kernel
theorem dX6_letters_20 : decode cX6_letters 20 = .ok (.iadd, 1) := by decide +kernel
theorem dX6_letters_21 : decode cX6_letters 21 = .ok (.bipush 24, 2) := by decide +kernel
theorem dX6_letters_23 : decode cX6_letters 23 = .ok (.if_icmp .le 6, 3) := by decide +kernel
theorem dX6_letters_26 : decode cX6_letters 26 = .ok (.bipush (-104), 2) := by decide +kernel
theorem dX6_letters_28 : decode cX6_letters 28 = .ok (.ireturn, 1) := by decide +kernel
theorem dX6_letters_29 : decode cX6_letters 29 = .ok (.aload_n 0, 1) := by decide +kernel
theorem dX6_letters_30 : decode cX6_letters 30 = .ok (.getfield 25, 3) := by decide +kernel
theorem dX6_letters_33 : decode cX6_letters 33 = .ok (.lload_n 1, 1) := by decide +kernel
theorem dX6_letters_34 : decode cX6_letters 34 = .ok (.iload_n 3, 1) := by decide +kernel
theorem dX6_letters_35 : decode cX6_letters 35 = .ok (.invokevirtual 163, 3) := by decide +kernel
theorem dX6_letters_38 : decode cX6_letters 38 = .ok (.aload_n 0, 1) := by decide +kernel
theorem dX6_letters_39 : decode cX6_letters 39 = .ok (.getfield 25, 3) := by decide +kernel
theorem dX6_letters_42 : decode cX6_letters 42 = .ok (.getfield 160, 3) := by decide +kernel
theorem dX6_letters_45 : decode cX6_letters 45 = .ok (.ireturn, 1) := by decide +kernel
theorem dX6_blank_0 : decode cX6_blank 0 = .ok (.aload_n 0, 1) := by decide +kernel
theorem dX6_blank_1 : decode cX6_blank 1 = .ok (.getfield 25, 3) := by decide +kernel
theorem dX6_blank_4 : decode cX6_blank 4 = .ok (.getfield 160, 3) := by decide +kernel
theorem dX6_blank_7 : decode cX6_blank 7 = .ok (.istore_n 1, 1) := by decide +kernel
theorem dX6_blank_8 : decode cX6_blank 8 = .ok (.aload_n 0, 1) := by decide +kernel
theorem dX6_blank_9 : decode cX6_blank 9 = .ok (.getfield 25, 3) := by decide +kernel
theorem dX6_blank_12 : decode cX6_blank 12 = .ok (.iconst 0, 1) := by decide +kernel
theorem dX6_blank_13 : decode cX6_blank 13 = .ok (.putfield 160, 3) := by decide +kernel
theorem dX6_blank_16 : decode cX6_blank 16 = .ok (.iload_n 1, 1) := by decide +kernel
theorem dX6_blank_17 : decode cX6_blank 17 = .ok (.ireturn, 1) := by decide +kernel
theorem dX6_fault_0 : decode cX6_fault 0 = .ok (.aload_n 0, 1) := by decide +kernel
theorem dX6_fault_1 : decode cX6_fault 1 = .ok (.getfield 25, 3) := by decide +kernel
theorem dX6_fault_4 : decode cX6_fault 4 = .ok (.invokevirtual 167, 3) := by decide +kernel
theorem dX6_fault_7 : decode cX6_fault 7 = .ok (.ireturn, 1) := by decide +kernel
theorem dX6_days_0 : decode cX6_days 0 = .ok (.aload_n 0, 1) := by decide +kernel
theorem dX6_days_1 : decode cX6_days 1 = .ok (.getfield 25, 3) := by decide +kernel
theorem dX6_days_4 : decode cX6_days 4 = .ok (.invokevirtual 171, 3) := by decide +kernel
theorem dX6_days_7 : decode cX6_days 7 = .ok (.ifCond .ne 6, 3) := by decide +kernel
theorem dX6_days_10 : decode cX6_days 10 = .ok (.bipush (-103), 2) := by decide +kernel
theorem dX6_days_12 : decode cX6_days 12 = .ok (.ireturn, 1) := by decide +kernel
theorem dX6_days_13 : decode cX6_days 13 = .ok (.iconst 0, 1) := by decide +kernel
theorem dX6_days_14 : decode cX6_days 14 = .ok (.istore_n 1, 1) := by decide +kernel
theorem dX6_days_15 : decode cX6_days 15 = .ok (.iconst 0, 1) := by decide +kernel
theorem dX6_days_16 : decode cX6_days 16 = .ok (.istore_n 2, 1) := by decide +kernel
theorem dX6_days_17 : decode cX6_days 17 = .ok (.iload_n 2, 1) := by decide +kernel
theorem dX6_days_18 : decode cX6_days 18 = .ok (.aload_n 0, 1) := by decide +kernel
theorem dX6_days_19 : decode cX6_days 19 = .ok (.getfield 25, 3) := by decide +kernel
theorem dX6_days_22 : decode cX6_days 22 = .ok (.getfield 160, 3) := by decide +kernel
theorem dX6_days_25 : decode cX6_days 25 = .ok (.if_icmp .ge 59, 3) := by decide +kernel
theorem dX6_days_28 : decode cX6_days 28 = .ok (.aload_n 0, 1) := by decide +kernel
theorem dX6_days_29 : decode cX6_days 29 = .ok (.getfield 25, 3) := by decide +kernel
theorem dX6_days_32 : decode cX6_days 32 = .ok (.iload_n 2, 1) := by decide +kernel
theorem dX6_days_33 : decode cX6_days 33 = .ok (.invokevirtual 174, 3) := by decide +kernel
theorem dX6_days_36 : decode cX6_days 36 = .ok (.ifCond .eq 42, 3) := by decide +kernel
theorem dX6_days_39 : decode cX6_days 39 = .ok (.iload_n 1, 1) := by decide +kernel
theorem dX6_days_40 : decode cX6_days 40 = .ok (.aload_n 0, 1) := by decide +kernel
theorem dX6_days_41 : decode cX6_days 41 = .ok (.getfield 10, 3) := by decide +kernel
theorem dX6_days_44 : decode cX6_days 44 = .ok (.aload_n 0, 1) := by decide +kernel
theorem dX6_days_45 : decode cX6_days 45 = .ok (.getfield 25, 3) := by decide +kernel
theorem dX6_days_48 : decode cX6_days 48 = .ok (.iload_n 2, 1) := by decide +kernel
theorem dX6_days_49 : decode cX6_days 49 = .ok (.invokevirtual 177, 3) := by decide +kernel
theorem dX6_days_52 : decode cX6_days 52 = .ok (.aload_n 0, 1) := by decide +kernel
theorem dX6_days_53 : decode cX6_days 53 = .ok (.getfield 25, 3) := by decide +kernel
theorem dX6_days_56 : decode cX6_days 56 = .ok (.iload_n 2, 1) := by decide +kernel
theorem dX6_days_57 : decode cX6_days 57 = .ok (.invokevirtual 180, 3) := by decide +kernel
theorem dX6_days_60 : decode cX6_days 60 = .ok (.invokevirtual 183, 3) := by decide +kernel
theorem dX6_days_63 : decode cX6_days 63 = .ok (.iadd, 1) := by decide +kernel
theorem dX6_days_64 : decode cX6_days 64 = .ok (.istore_n 1, 1) := by decide +kernel
theorem dX6_days_65 : decode cX6_days 65 = .ok (.aload_n 0, 1) := by decide +kernel
theorem dX6_days_66 : decode cX6_days 66 = .ok (.getfield 10, 3) := by decide +kernel
theorem dX6_days_69 : decode cX6_days 69 = .ok (.dup, 1) := by decide +kernel
theorem dX6_days_70 : decode cX6_days 70 = .ok (.getfield 186, 3) := by decide +kernel
theorem dX6_days_73 : decode cX6_days 73 = .ok (.iconst 1, 1) := by decide +kernel
theorem dX6_days_74 : decode cX6_days 74 = .ok (.iadd, 1) := by decide +kernel
theorem dX6_days_75 : decode cX6_days 75 = .ok (.putfield 186, 3) := by decide +kernel
theorem dX6_days_78 : decode cX6_days 78 = .ok (.iinc 2 1, 3) := by decide +kernel
theorem dX6_days_81 : decode cX6_days 81 = .ok (.goto (-64), 3) := by decide +kernel
theorem dX6_days_84 : decode cX6_days 84 = .ok (.aload_n 0, 1) := by decide +kernel
theorem dX6_days_85 : decode cX6_days 85 = .ok (.getfield 25, 3) := by decide +kernel
theorem dX6_days_88 : decode cX6_days 88 = .ok (.iconst 0, 1) := by decide +kernel
theorem dX6_days_89 : decode cX6_days 89 = .ok (.putfield 160, 3) := by decide +kernel
theorem dX6_days_92 : decode cX6_days 92 = .ok (.iload_n 1, 1) := by decide +kernel
theorem dX6_days_93 : decode cX6_days 93 = .ok (.ireturn, 1) := by decide +kernel
theorem dX6_needed_0 : decode cX6_needed 0 = .ok (.aload_n 0, 1) := by decide +kernel
theorem dX6_needed_1 : decode cX6_needed 1 = .ok (.getfield 10, 3) := by decide +kernel
theorem dX6_needed_4 : decode cX6_needed 4 = .ok (.iload_n 2, 1) := by decide +kernel
theorem dX6_needed_5 : decode cX6_needed 5 = .ok (.invokevirtual 66, 3) := by decide +kernel
theorem dX6_needed_8 : decode cX6_needed 8 = .ok (.ifCond .ne 6, 3) := by decide +kernel
theorem dX6_needed_11 : decode cX6_needed 11 = .ok (.bipush (-101), 2) := by decide +kernel
theorem dX6_needed_13 : decode cX6_needed 13 = .ok (.ireturn, 1) := by decide +kernel
theorem dX6_needed_14 : decode cX6_needed 14 = .ok (.iload_n 1, 1) := by decide +kernel
theorem dX6_needed_15 : decode cX6_needed 15 = .ok (.invokestatic 88, 3) := by decide +kernel
theorem dX6_needed_18 : decode cX6_needed 18 = .ok (.ifCond .ne 6, 3) := by decide +kernel
theorem dX6_needed_21 : decode cX6_needed 21 = .ok (.bipush (-102), 2) := by decide +kernel
theorem dX6_needed_23 : decode cX6_needed 23 = .ok (.ireturn, 1) := by decide +kernel
theorem dX6_needed_24 : decode cX6_needed 24 = .ok (.aload_n 0, 1) := by decide +kernel
theorem dX6_needed_25 : decode cX6_needed 25 = .ok (.getfield 25, 3) := by decide +kernel
theorem dX6_needed_28 : decode cX6_needed 28 = .ok (.invokevirtual 171, 3) := by decide +kernel
theorem dX6_needed_31 : decode cX6_needed 31 = .ok (.ifCond .ne 6, 3) := by decide +kernel
theorem dX6_needed_34 : decode cX6_needed 34 = .ok (.bipush (-103), 2) := by decide +kernel
theorem dX6_needed_36 : decode cX6_needed 36 = .ok (.ireturn, 1) := by decide +kernel
theorem dX6_needed_37 : decode cX6_needed 37 = .ok (.aload_n 0, 1) := by decide +kernel
theorem dX6_needed_38 : decode cX6_needed 38 = .ok (.getfield 10, 3) := by decide +kernel
theorem dX6_needed_41 : decode cX6_needed 41 = .ok (.getfield 74, 3) := by decide +kernel
theorem dX6_needed_44 : decode cX6_needed 44 = .ok (.iload_n 2, 1) := by decide +kernel
theorem dX6_needed_45 : decode cX6_needed 45 = .ok (.iaload, 1) := by decide +kernel
theorem dX6_needed_46 : decode cX6_needed 46 = .ok (.istore_n 3, 1) := by decide +kernel
theorem dX6_needed_47 : decode cX6_needed 47 = .ok (.iconst 1, 1) := by decide +kernel
theorem dX6_needed_48 : decode cX6_needed 48 = .ok (.istore 4, 2) := by decide +kernel
theorem dX6_needed_50 : decode cX6_needed 50 = .ok (.iload 4, 2) := by decide +kernel
theorem dX6_needed_52 : decode cX6_needed 52 = .ok (.bipush 9, 2) := by decide +kernel
theorem dX6_needed_54 : decode cX6_needed 54 = .ok (.if_icmp .gt 40, 3) := by decide +kernel
theorem dX6_needed_57 : decode cX6_needed 57 = .ok (.iload_n 1, 1) := by decide +kernel
theorem dX6_needed_58 : decode cX6_needed 58 = .ok (.iload 4, 2) := by decide +kernel
theorem dX6_needed_60 : decode cX6_needed 60 = .ok (.invokestatic 91, 3) := by decide +kernel
theorem dX6_needed_63 : decode cX6_needed 63 = .ok (.istore 5, 2) := by decide +kernel
theorem dX6_needed_65 : decode cX6_needed 65 = .ok (.iload 5, 2) := by decide +kernel
theorem dX6_needed_67 : decode cX6_needed 67 = .ok (.iload_n 3, 1) := by decide +kernel
theorem dX6_needed_68 : decode cX6_needed 68 = .ok (.if_icmp .gt 20, 3) := by decide +kernel
theorem dX6_needed_71 : decode cX6_needed 71 = .ok (.aload_n 0, 1) := by decide +kernel
theorem dX6_needed_72 : decode cX6_needed 72 = .ok (.getfield 25, 3) := by decide +kernel
theorem dX6_needed_75 : decode cX6_needed 75 = .ok (.iload_n 1, 1) := by decide +kernel
theorem dX6_needed_76 : decode cX6_needed 76 = .ok (.iload 5, 2) := by decide +kernel
theorem dX6_needed_78 : decode cX6_needed 78 = .ok (.iload_n 3, 1) := by decide +kernel
theorem dX6_needed_79 : decode cX6_needed 79 = .ok (.invokevirtual 189, 3) := by decide +kernel
theorem dX6_needed_82 : decode cX6_needed 82 = .ok (.ifCond .eq 6, 3) := by decide +kernel
theorem dX6_needed_85 : decode cX6_needed 85 = .ok (.iload 4, 2) := by decide +kernel
theorem dX6_needed_87 : decode cX6_needed 87 = .ok (.ireturn, 1) := by decide +kernel
theorem dX6_needed_88 : decode cX6_needed 88 = .ok (.iinc 4 1, 3) := by decide +kernel
theorem dX6_needed_91 : decode cX6_needed 91 = .ok (.goto (-41), 3) := by decide +kernel
theorem dX6_needed_94 : decode cX6_needed 94 = .ok (.iconst (-1), 1) := by decide +kernel
theorem dX6_needed_95 : decode cX6_needed 95 = .ok (.ireturn, 1) := by decide +kernel
theorem dX6_bears_0 : decode cX6_bears 0 = .ok (.aload_n 0, 1) := by decide +kernel
theorem dX6_bears_1 : decode cX6_bears 1 = .ok (.getfield 10, 3) := by decide +kernel
theorem dX6_bears_4 : decode cX6_bears 4 = .ok (.iload_n 1, 1) := by decide +kernel
theorem dX6_bears_5 : decode cX6_bears 5 = .ok (.invokevirtual 66, 3) := by decide +kernel
theorem dX6_bears_8 : decode cX6_bears 8 = .ok (.ifCond .ne 6, 3) := by decide +kernel
theorem dX6_bears_11 : decode cX6_bears 11 = .ok (.bipush (-101), 2) := by decide +kernel
theorem dX6_bears_13 : decode cX6_bears 13 = .ok (.ireturn, 1) := by decide +kernel
theorem dX6_bears_14 : decode cX6_bears 14 = .ok (.aload_n 0, 1) := by decide +kernel
theorem dX6_bears_15 : decode cX6_bears 15 = .ok (.getfield 25, 3) := by decide +kernel
theorem dX6_bears_18 : decode cX6_bears 18 = .ok (.invokevirtual 171, 3) := by decide +kernel
theorem dX6_bears_21 : decode cX6_bears 21 = .ok (.ifCond .ne 6, 3) := by decide +kernel
theorem dX6_bears_24 : decode cX6_bears 24 = .ok (.bipush (-103), 2) := by decide +kernel
theorem dX6_bears_26 : decode cX6_bears 26 = .ok (.ireturn, 1) := by decide +kernel
theorem dX6_bears_27 : decode cX6_bears 27 = .ok (.aload_n 0, 1) := by decide +kernel
theorem dX6_bears_28 : decode cX6_bears 28 = .ok (.getfield 25, 3) := by decide +kernel
theorem dX6_bears_31 : decode cX6_bears 31 = .ok (.aload_n 0, 1) := by decide +kernel
theorem dX6_bears_32 : decode cX6_bears 32 = .ok (.getfield 10, 3) := by decide +kernel
theorem dX6_bears_35 : decode cX6_bears 35 = .ok (.getfield 74, 3) := by decide +kernel
theorem dX6_bears_38 : decode cX6_bears 38 = .ok (.iload_n 1, 1) := by decide +kernel
theorem dX6_bears_39 : decode cX6_bears 39 = .ok (.iaload, 1) := by decide +kernel
theorem dX6_bears_40 : decode cX6_bears 40 = .ok (.invokevirtual 192, 3) := by decide +kernel
theorem dX6_bears_43 : decode cX6_bears 43 = .ok (.ireturn, 1) := by decide +kernel
theorem dX6_owes_0 : decode cX6_owes 0 = .ok (.iload_n 1, 1) := by decide +kernel
theorem dX6_owes_1 : decode cX6_owes 1 = .ok (.iload_n 2, 1) := by decide +kernel
theorem dX6_owes_2 : decode cX6_owes 2 = .ok (.invokestatic 84, 3) := by decide +kernel
theorem dX6_owes_5 : decode cX6_owes 5 = .ok (.ifCond .ne 6, 3) := by decide +kernel
theorem dX6_owes_8 : decode cX6_owes 8 = .ok (.bipush (-101), 2) := by decide +kernel
theorem dX6_owes_10 : decode cX6_owes 10 = .ok (.ireturn, 1) := by decide +kernel
theorem dX6_owes_11 : decode cX6_owes 11 = .ok (.iconst 0, 1) := by decide +kernel
theorem dX6_owes_12 : decode cX6_owes 12 = .ok (.istore 4, 2) := by decide +kernel
theorem dX6_owes_14 : decode cX6_owes 14 = .ok (.iconst 0, 1) := by decide +kernel
theorem dX6_owes_15 : decode cX6_owes 15 = .ok (.istore 5, 2) := by decide +kernel
theorem dX6_owes_17 : decode cX6_owes 17 = .ok (.iload 5, 2) := by decide +kernel
theorem dX6_owes_19 : decode cX6_owes 19 = .ok (.aload_n 0, 1) := by decide +kernel
theorem dX6_owes_20 : decode cX6_owes 20 = .ok (.getfield 10, 3) := by decide +kernel
theorem dX6_owes_23 : decode cX6_owes 23 = .ok (.getfield 97, 3) := by decide +kernel
theorem dX6_owes_26 : decode cX6_owes 26 = .ok (.if_icmp .ge 79, 3) := by decide +kernel
theorem dX6_owes_29 : decode cX6_owes 29 = .ok (.aload_n 0, 1) := by decide +kernel
theorem dX6_owes_30 : decode cX6_owes 30 = .ok (.getfield 10, 3) := by decide +kernel
theorem dX6_owes_33 : decode cX6_owes 33 = .ok (.getfield 100, 3) := by decide +kernel
theorem dX6_owes_36 : decode cX6_owes 36 = .ok (.iload 5, 2) := by decide +kernel
theorem dX6_owes_38 : decode cX6_owes 38 = .ok (.aaload, 1) := by decide +kernel
theorem dX6_owes_39 : decode cX6_owes 39 = .ok (.astore 6, 2) := by decide +kernel
theorem dX6_owes_41 : decode cX6_owes 41 = .ok (.iload_n 3, 1) := by decide +kernel
theorem dX6_owes_42 : decode cX6_owes 42 = .ok (.ifCond .eq 13, 3) := by decide +kernel
theorem dX6_owes_45 : decode cX6_owes 45 = .ok (.aload_n 0, 1) := by decide +kernel
theorem dX6_owes_46 : decode cX6_owes 46 = .ok (.aload 6, 2) := by decide +kernel
theorem dX6_owes_48 : decode cX6_owes 48 = .ok (.invokevirtual 135, 3) := by decide +kernel
theorem dX6_owes_51 : decode cX6_owes 51 = .ok (.iconst 2, 1) := by decide +kernel
theorem dX6_owes_52 : decode cX6_owes 52 = .ok (.if_icmp .lt 7, 3) := by decide +kernel
theorem dX6_owes_55 : decode cX6_owes 55 = .ok (.iconst 1, 1) := by decide +kernel
theorem dX6_owes_56 : decode cX6_owes 56 = .ok (.goto 4, 3) := by decide +kernel
theorem dX6_owes_59 : decode cX6_owes 59 = .ok (.iconst 0, 1) := by decide +kernel
theorem dX6_owes_60 : decode cX6_owes 60 = .ok (.istore 7, 2) := by decide +kernel
theorem dX6_owes_62 : decode cX6_owes 62 = .ok (.iload 7, 2) := by decide +kernel
theorem dX6_owes_64 : decode cX6_owes 64 = .ok (.ifCond .eq 35, 3) := by decide +kernel
theorem dX6_owes_67 : decode cX6_owes 67 = .ok (.aload 6, 2) := by decide +kernel
theorem dX6_owes_69 : decode cX6_owes 69 = .ok (.getfield 120, 3) := by decide +kernel
theorem dX6_owes_72 : decode cX6_owes 72 = .ok (.iload_n 1, 1) := by decide +kernel
theorem dX6_owes_73 : decode cX6_owes 73 = .ok (.if_icmp .ne 26, 3) := by decide +kernel
theorem dX6_owes_76 : decode cX6_owes 76 = .ok (.aload 6, 2) := by decide +kernel
theorem dX6_owes_78 : decode cX6_owes 78 = .ok (.getfield 123, 3) := by decide +kernel
theorem dX6_owes_81 : decode cX6_owes 81 = .ok (.iload_n 2, 1) := by decide +kernel
theorem dX6_owes_82 : decode cX6_owes 82 = .ok (.if_icmp .ne 17, 3) := by decide +kernel
theorem dX6_owes_85 : decode cX6_owes 85 = .ok (.iload 4, 2) := by decide +kernel
theorem dX6_owes_87 : decode cX6_owes 87 = .ok (.aload_n 0, 1) := by decide +kernel
theorem dX6_owes_88 : decode cX6_owes 88 = .ok (.getfield 10, 3) := by decide +kernel
theorem dX6_owes_91 : decode cX6_owes 91 = .ok (.iload 5, 2) := by decide +kernel
theorem dX6_owes_93 : decode cX6_owes 93 = .ok (.invokevirtual 132, 3) := by decide +kernel
theorem dX6_owes_96 : decode cX6_owes 96 = .ok (.iadd, 1) := by decide +kernel
theorem dX6_owes_97 : decode cX6_owes 97 = .ok (.istore 4, 2) := by decide +kernel
theorem dX6_owes_99 : decode cX6_owes 99 = .ok (.iinc 5 1, 3) := by decide +kernel
theorem dX6_owes_102 : decode cX6_owes 102 = .ok (.goto (-85), 3) := by decide +kernel
theorem dX6_owes_105 : decode cX6_owes 105 = .ok (.iload 4, 2) := by decide +kernel
theorem dX6_owes_107 : decode cX6_owes 107 = .ok (.ireturn, 1) := by decide +kernel
theorem dX6_rest_0 : decode cX6_rest 0 = .ok (.iload_n 1, 1) := by decide +kernel
theorem dX6_rest_1 : decode cX6_rest 1 = .ok (.invokestatic 195, 3) := by decide +kernel
theorem dX6_rest_4 : decode cX6_rest 4 = .ok (.ifCond .eq 14, 3) := by decide +kernel
theorem dX6_rest_7 : decode cX6_rest 7 = .ok (.aload_n 0, 1) := by decide +kernel
theorem dX6_rest_8 : decode cX6_rest 8 = .ok (.getfield 10, 3) := by decide +kernel
theorem dX6_rest_11 : decode cX6_rest 11 = .ok (.iload_n 1, 1) := by decide +kernel
theorem dX6_rest_12 : decode cX6_rest 12 = .ok (.invokevirtual 198, 3) := by decide +kernel
theorem dX6_rest_15 : decode cX6_rest 15 = .ok (.goto 5, 3) := by decide +kernel
theorem dX6_rest_18 : decode cX6_rest 18 = .ok (.ldc 201, 2) := by decide +kernel
theorem dX6_rest_20 : decode cX6_rest 20 = .ok (.ireturn, 1) := by decide +kernel
theorem dX6_sledges_0 : decode cX6_sledges 0 = .ok (.iload_n 1, 1) := by decide +kernel
theorem dX6_sledges_1 : decode cX6_sledges 1 = .ok (.iconst 1, 1) := by decide +kernel
theorem dX6_sledges_2 : decode cX6_sledges 2 = .ok (.iconst 3, 1) := by decide +kernel
theorem dX6_sledges_3 : decode cX6_sledges 3 = .ok (.invokestatic 54, 3) := by decide +kernel
theorem dX6_sledges_6 : decode cX6_sledges 6 = .ok (.ifCond .eq 23, 3) := by decide +kernel
theorem dX6_sledges_9 : decode cX6_sledges 9 = .ok (.iload_n 2, 1) := by decide +kernel
theorem dX6_sledges_10 : decode cX6_sledges 10 = .ok (.iconst 1, 1) := by decide +kernel
theorem dX6_sledges_11 : decode cX6_sledges 11 = .ok (.sipush 200, 3) := by decide +kernel
theorem dX6_sledges_14 : decode cX6_sledges 14 = .ok (.invokestatic 54, 3) := by decide +kernel
theorem dX6_sledges_17 : decode cX6_sledges 17 = .ok (.ifCond .eq 12, 3) := by decide +kernel
theorem dX6_sledges_20 : decode cX6_sledges 20 = .ok (.iload_n 3, 1) := by decide +kernel
theorem dX6_sledges_21 : decode cX6_sledges 21 = .ok (.iconst 0, 1) := by decide +kernel
theorem dX6_sledges_22 : decode cX6_sledges 22 = .ok (.iconst 1, 1) := by decide +kernel
theorem dX6_sledges_23 : decode cX6_sledges 23 = .ok (.invokestatic 54, 3) := by decide +kernel
theorem dX6_sledges_26 : decode cX6_sledges 26 = .ok (.ifCond .ne 6, 3) := by decide +kernel
theorem dX6_sledges_29 : decode cX6_sledges 29 = .ok (.bipush (-102), 2) := by decide +kernel
theorem dX6_sledges_31 : decode cX6_sledges 31 = .ok (.ireturn, 1) := by decide +kernel
theorem dX6_sledges_32 : decode cX6_sledges 32 = .ok (.aload_n 0, 1) := by decide +kernel
theorem dX6_sledges_33 : decode cX6_sledges 33 = .ok (.getfield 202, 3) := by decide +kernel
theorem dX6_sledges_36 : decode cX6_sledges 36 = .ok (.bipush 20, 2) := by decide +kernel
theorem dX6_sledges_38 : decode cX6_sledges 38 = .ok (.if_icmp .lt 6, 3) := by decide +kernel
theorem dX6_sledges_41 : decode cX6_sledges 41 = .ok (.bipush (-103), 2) := by decide +kernel
theorem dX6_sledges_43 : decode cX6_sledges 43 = .ok (.ireturn, 1) := by decide +kernel
theorem dX6_sledges_44 : decode cX6_sledges 44 = .ok (.aload_n 0, 1) := by decide +kernel
theorem dX6_sledges_45 : decode cX6_sledges 45 = .ok (.dup, 1) := by decide +kernel
theorem dX6_sledges_46 : decode cX6_sledges 46 = .ok (.getfield 202, 3) := by decide +kernel
theorem dX6_sledges_49 : decode cX6_sledges 49 = .ok (.iconst 1, 1) := by decide +kernel
theorem dX6_sledges_50 : decode cX6_sledges 50 = .ok (.iadd, 1) := by decide +kernel
