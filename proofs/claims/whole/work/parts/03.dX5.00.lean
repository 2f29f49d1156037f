theorem dX5_init_0 : decode cX5_init 0 = .ok (.aload_n 0, 1) := by decide +kernel
theorem dX5_init_1 : decode cX5_init 1 = .ok (.invokespecial 3, 3) := by decide +kernel
theorem dX5_init_4 : decode cX5_init 4 = .ok (.aload_n 0, 1) := by decide +kernel
theorem dX5_init_5 : decode cX5_init 5 = .ok (.bipush 16, 2) := by decide +kernel
theorem dX5_init_7 : decode cX5_init 7 = .ok (.newarray .int, 2) := by decide +kernel
theorem dX5_init_9 : decode cX5_init 9 = .ok (.putfield 9, 3) := by decide +kernel
theorem dX5_init_12 : decode cX5_init 12 = .ok (.aload_n 0, 1) := by decide +kernel
theorem dX5_init_13 : decode cX5_init 13 = .ok (.bipush 10, 2) := by decide +kernel
theorem dX5_init_15 : decode cX5_init 15 = .ok (.anewarray 15, 3) := by decide +kernel
theorem dX5_init_18 : decode cX5_init 18 = .ok (.putfield 17, 3) := by decide +kernel
theorem dX5_init_21 : decode cX5_init 21 = .ok (.iconst 0, 1) := by decide +kernel
theorem dX5_init_22 : decode cX5_init 22 = .ok (.istore_n 1, 1) := by decide +kernel
theorem dX5_init_23 : decode cX5_init 23 = .ok (.iload_n 1, 1) := by decide +kernel
theorem dX5_init_24 : decode cX5_init 24 = .ok (.bipush 10, 2) := by decide +kernel
theorem dX5_init_26 : decode cX5_init 26 = .ok (.if_icmp .ge 22, 3) := by decide +kernel
theorem dX5_init_29 : decode cX5_init 29 = .ok (.aload_n 0, 1) := by decide +kernel
theorem dX5_init_30 : decode cX5_init 30 = .ok (.getfield 17, 3) := by decide +kernel
theorem dX5_init_33 : decode cX5_init 33 = .ok (.iload_n 1, 1) := by decide +kernel
theorem dX5_init_34 : decode cX5_init 34 = .ok (.new 15, 3) := by decide +kernel
theorem dX5_init_37 : decode cX5_init 37 = .ok (.dup, 1) := by decide +kernel
theorem dX5_init_38 : decode cX5_init 38 = .ok (.invokespecial 21, 3) := by decide +kernel
theorem dX5_init_41 : decode cX5_init 41 = .ok (.aastore, 1) := by decide +kernel
theorem dX5_init_42 : decode cX5_init 42 = .ok (.iinc 1 1, 3) := by decide +kernel
theorem dX5_init_45 : decode cX5_init 45 = .ok (.goto (-22), 3) := by decide +kernel
theorem dX5_init_48 : decode cX5_init 48 = .ok (.return_, 1) := by decide +kernel
theorem dX5_begin_0 : decode cX5_begin 0 = .ok (.aload_n 0, 1) := by decide +kernel
theorem dX5_begin_1 : decode cX5_begin 1 = .ok (.iload_n 2, 1) := by decide +kernel
theorem dX5_begin_2 : decode cX5_begin 2 = .ok (.putfield 22, 3) := by decide +kernel
theorem dX5_begin_5 : decode cX5_begin 5 = .ok (.aload_n 0, 1) := by decide +kernel
theorem dX5_begin_6 : decode cX5_begin 6 = .ok (.iload_n 1, 1) := by decide +kernel
theorem dX5_begin_7 : decode cX5_begin 7 = .ok (.iload_n 2, 1) := by decide +kernel
theorem dX5_begin_8 : decode cX5_begin 8 = .ok (.imul, 1) := by decide +kernel
theorem dX5_begin_9 : decode cX5_begin 9 = .ok (.putfield 26, 3) := by decide +kernel
theorem dX5_begin_12 : decode cX5_begin 12 = .ok (.aload_n 0, 1) := by decide +kernel
theorem dX5_begin_13 : decode cX5_begin 13 = .ok (.iconst 0, 1) := by decide +kernel
theorem dX5_begin_14 : decode cX5_begin 14 = .ok (.putfield 29, 3) := by decide +kernel
theorem dX5_begin_17 : decode cX5_begin 17 = .ok (.aload_n 0, 1) := by decide +kernel
theorem dX5_begin_18 : decode cX5_begin 18 = .ok (.iconst 0, 1) := by decide +kernel
theorem dX5_begin_19 : decode cX5_begin 19 = .ok (.putfield 32, 3) := by decide +kernel
theorem dX5_begin_22 : decode cX5_begin 22 = .ok (.aload_n 0, 1) := by decide +kernel
theorem dX5_begin_23 : decode cX5_begin 23 = .ok (.iconst 0, 1) := by decide +kernel
theorem dX5_begin_24 : decode cX5_begin 24 = .ok (.putfield 35, 3) := by decide +kernel
theorem dX5_begin_27 : decode cX5_begin 27 = .ok (.iconst 0, 1) := by decide +kernel
theorem dX5_begin_28 : decode cX5_begin 28 = .ok (.istore_n 3, 1) := by decide +kernel
theorem dX5_begin_29 : decode cX5_begin 29 = .ok (.iload_n 3, 1) := by decide +kernel
theorem dX5_begin_30 : decode cX5_begin 30 = .ok (.bipush 16, 2) := by decide +kernel
theorem dX5_begin_32 : decode cX5_begin 32 = .ok (.if_icmp .ge 17, 3) := by decide +kernel
theorem dX5_begin_35 : decode cX5_begin 35 = .ok (.aload_n 0, 1) := by decide +kernel
theorem dX5_begin_36 : decode cX5_begin 36 = .ok (.getfield 9, 3) := by decide +kernel
theorem dX5_begin_39 : decode cX5_begin 39 = .ok (.iload_n 3, 1) := by decide +kernel
theorem dX5_begin_40 : decode cX5_begin 40 = .ok (.bipush 10, 2) := by decide +kernel
theorem dX5_begin_42 : decode cX5_begin 42 = .ok (.iastore, 1) := by decide +kernel
theorem dX5_begin_43 : decode cX5_begin 43 = .ok (.iinc 3 1, 3) := by decide +kernel
theorem dX5_begin_46 : decode cX5_begin 46 = .ok (.goto (-17), 3) := by decide +kernel
theorem dX5_begin_49 : decode cX5_begin 49 = .ok (.return_, 1) := by decide +kernel
theorem dX5_copyFrom_0 : decode cX5_copyFrom 0 = .ok (.aload_n 0, 1) := by decide +kernel
theorem dX5_copyFrom_1 : decode cX5_copyFrom 1 = .ok (.aload_n 1, 1) := by decide +kernel
theorem dX5_copyFrom_2 : decode cX5_copyFrom 2 = .ok (.getfield 22, 3) := by decide +kernel
theorem dX5_copyFrom_5 : decode cX5_copyFrom 5 = .ok (.putfield 22, 3) := by decide +kernel
theorem dX5_copyFrom_8 : decode cX5_copyFrom 8 = .ok (.aload_n 0, 1) := by decide +kernel
theorem dX5_copyFrom_9 : decode cX5_copyFrom 9 = .ok (.aload_n 1, 1) := by decide +kernel
theorem dX5_copyFrom_10 : decode cX5_copyFrom 10 = .ok (.getfield 26, 3) := by decide +kernel
theorem dX5_copyFrom_13 : decode cX5_copyFrom 13 = .ok (.putfield 26, 3) := by decide +kernel
theorem dX5_copyFrom_16 : decode cX5_copyFrom 16 = .ok (.aload_n 0, 1) := by decide +kernel
theorem dX5_copyFrom_17 : decode cX5_copyFrom 17 = .ok (.aload_n 1, 1) := by decide +kernel
theorem dX5_copyFrom_18 : decode cX5_copyFrom 18 = .ok (.getfield 29, 3) := by decide +kernel
theorem dX5_copyFrom_21 : decode cX5_copyFrom 21 = .ok (.putfield 29, 3) := by decide +kernel
theorem dX5_copyFrom_24 : decode cX5_copyFrom 24 = .ok (.aload_n 0, 1) := by decide +kernel
theorem dX5_copyFrom_25 : decode cX5_copyFrom 25 = .ok (.aload_n 1, 1) := by decide +kernel
theorem dX5_copyFrom_26 : decode cX5_copyFrom 26 = .ok (.getfield 32, 3) := by decide +kernel
theorem dX5_copyFrom_29 : decode cX5_copyFrom 29 = .ok (.putfield 32, 3) := by decide +kernel
theorem dX5_copyFrom_32 : decode cX5_copyFrom 32 = .ok (.aload_n 0, 1) := by decide +kernel
theorem dX5_copyFrom_33 : decode cX5_copyFrom 33 = .ok (.aload_n 1, 1) := by decide +kernel
theorem dX5_copyFrom_34 : decode cX5_copyFrom 34 = .ok (.getfield 35, 3) := by decide +kernel
theorem dX5_copyFrom_37 : decode cX5_copyFrom 37 = .ok (.putfield 35, 3) := by decide +kernel
theorem dX5_copyFrom_40 : decode cX5_copyFrom 40 = .ok (.iconst 0, 1) := by decide +kernel
theorem dX5_copyFrom_41 : decode cX5_copyFrom 41 = .ok (.istore_n 2, 1) := by decide +kernel
theorem dX5_copyFrom_42 : decode cX5_copyFrom 42 = .ok (.iload_n 2, 1) := by decide +kernel
theorem dX5_copyFrom_43 : decode cX5_copyFrom 43 = .ok (.bipush 16, 2) := by decide +kernel
theorem dX5_copyFrom_45 : decode cX5_copyFrom 45 = .ok (.if_icmp .ge 21, 3) := by decide +kernel
theorem dX5_copyFrom_48 : decode cX5_copyFrom 48 = .ok (.aload_n 0, 1) := by decide +kernel
theorem dX5_copyFrom_49 : decode cX5_copyFrom 49 = .ok (.getfield 9, 3) := by decide +kernel
theorem dX5_copyFrom_52 : decode cX5_copyFrom 52 = .ok (.iload_n 2, 1) := by decide +kernel
theorem dX5_copyFrom_53 : decode cX5_copyFrom 53 = .ok (.aload_n 1, 1) := by decide +kernel
theorem dX5_copyFrom_54 : decode cX5_copyFrom 54 = .ok (.getfield 9, 3) := by decide +kernel
theorem dX5_copyFrom_57 : decode cX5_copyFrom 57 = .ok (.iload_n 2, 1) := by decide +kernel
theorem dX5_copyFrom_58 : decode cX5_copyFrom 58 = .ok (.iaload, 1) := by decide +kernel
theorem dX5_copyFrom_59 : decode cX5_copyFrom 59 = .ok (.iastore, 1) := by decide +kernel
theorem dX5_copyFrom_60 : decode cX5_copyFrom 60 = .ok (.iinc 2 1, 3) := by decide +kernel
theorem dX5_copyFrom_63 : decode cX5_copyFrom 63 = .ok (.goto (-21), 3) := by decide +kernel
theorem dX5_copyFrom_66 : decode cX5_copyFrom 66 = .ok (.iconst 0, 1) := by decide +kernel
theorem dX5_copyFrom_67 : decode cX5_copyFrom 67 = .ok (.istore_n 2, 1) := by decide +kernel
theorem dX5_copyFrom_68 : decode cX5_copyFrom 68 = .ok (.iload_n 2, 1) := by decide +kernel
theorem dX5_copyFrom_69 : decode cX5_copyFrom 69 = .ok (.aload_n 0, 1) := by decide +kernel
theorem dX5_copyFrom_70 : decode cX5_copyFrom 70 = .ok (.getfield 35, 3) := by decide +kernel
theorem dX5_copyFrom_73 : decode cX5_copyFrom 73 = .ok (.if_icmp .ge 24, 3) := by decide +kernel
theorem dX5_copyFrom_76 : decode cX5_copyFrom 76 = .ok (.aload_n 0, 1) := by decide +kernel
theorem dX5_copyFrom_77 : decode cX5_copyFrom 77 = .ok (.getfield 17, 3) := by decide +kernel
theorem dX5_copyFrom_80 : decode cX5_copyFrom 80 = .ok (.iload_n 2, 1) := by decide +kernel
theorem dX5_copyFrom_81 : decode cX5_copyFrom 81 = .ok (.aaload, 1) := by decide +kernel
theorem dX5_copyFrom_82 : decode cX5_copyFrom 82 = .ok (.aload_n 1, 1) := by decide +kernel
theorem dX5_copyFrom_83 : decode cX5_copyFrom 83 = .ok (.getfield 17, 3) := by decide +kernel
theorem dX5_copyFrom_86 : decode cX5_copyFrom 86 = .ok (.iload_n 2, 1) := by decide +kernel
theorem dX5_copyFrom_87 : decode cX5_copyFrom 87 = .ok (.aaload, 1) := by decide +kernel
theorem dX5_copyFrom_88 : decode cX5_copyFrom 88 = .ok (.invokevirtual 38, 3) := by decide +kernel
theorem dX5_copyFrom_91 : decode cX5_copyFrom 91 = .ok (.iinc 2 1, 3) := by decide +kernel
theorem dX5_copyFrom_94 : decode cX5_copyFrom 94 = .ok (.goto (-26), 3) := by decide +kernel
theorem dX5_copyFrom_97 : decode cX5_copyFrom 97 = .ok (.return_, 1) := by decide +kernel
theorem dX5_hasSquare_0 : decode cX5_hasSquare 0 = .ok (.iload_n 1, 1) := by decide +kernel
theorem dX5_hasSquare_1 : decode cX5_hasSquare 1 = .ok (.ifCond .lt 15, 3) := by decide +kernel
theorem dX5_hasSquare_4 : decode cX5_hasSquare 4 = .ok (.iload_n 1, 1) := by decide +kernel
theorem dX5_hasSquare_5 : decode cX5_hasSquare 5 = .ok (.aload_n 0, 1) := by decide +kernel
theorem dX5_hasSquare_6 : decode cX5_hasSquare 6 = .ok (.getfield 26, 3) := by decide +kernel
theorem dX5_hasSquare_9 : decode cX5_hasSquare 9 = .ok (.if_icmp .ge 7, 3) := by decide +kernel
theorem dX5_hasSquare_12 : decode cX5_hasSquare 12 = .ok (.iconst 1, 1) := by decide +kernel
theorem dX5_hasSquare_13 : decode cX5_hasSquare 13 = .ok (.goto 4, 3) := by decide +kernel
theorem dX5_hasSquare_16 : decode cX5_hasSquare 16 = .ok (.iconst 0, 1) := by decide +kernel
theorem dX5_hasSquare_17 : decode cX5_hasSquare 17 = .ok (.ireturn, 1) := by decide +kernel
theorem dX5_hasDebt_0 : decode cX5_hasDebt 0 = .ok (.iload_n 1, 1) := by decide +kernel
theorem dX5_hasDebt_1 : decode cX5_hasDebt 1 = .ok (.ifCond .lt 15, 3) := by decide +kernel
theorem dX5_hasDebt_4 : decode cX5_hasDebt 4 = .ok (.iload_n 1, 1) := by decide +kernel
theorem dX5_hasDebt_5 : decode cX5_hasDebt 5 = .ok (.aload_n 0, 1) := by decide +kernel
theorem dX5_hasDebt_6 : decode cX5_hasDebt 6 = .ok (.getfield 35, 3) := by decide +kernel
theorem dX5_hasDebt_9 : decode cX5_hasDebt 9 = .ok (.if_icmp .ge 7, 3) := by decide +kernel
theorem dX5_hasDebt_12 : decode cX5_hasDebt 12 = .ok (.iconst 1, 1) := by decide +kernel
theorem dX5_hasDebt_13 : decode cX5_hasDebt 13 = .ok (.goto 4, 3) := by decide +kernel
theorem dX5_hasDebt_16 : decode cX5_hasDebt 16 = .ok (.iconst 0, 1) := by decide +kernel
theorem dX5_hasDebt_17 : decode cX5_hasDebt 17 = .ok (.ireturn, 1) := by decide +kernel
theorem dX5_bearsSkater_0 : decode cX5_bearsSkater 0 = .ok (.aload_n 0, 1) := by decide +kernel
theorem dX5_bearsSkater_1 : decode cX5_bearsSkater 1 = .ok (.iload_n 1, 1) := by decide +kernel
theorem dX5_bearsSkater_2 : decode cX5_bearsSkater 2 = .ok (.invokevirtual 42, 3) := by decide +kernel
theorem dX5_bearsSkater_5 : decode cX5_bearsSkater 5 = .ok (.ifCond .eq 17, 3) := by decide +kernel
theorem dX5_bearsSkater_8 : decode cX5_bearsSkater 8 = .ok (.aload_n 0, 1) := by decide +kernel
theorem dX5_bearsSkater_9 : decode cX5_bearsSkater 9 = .ok (.getfield 9, 3) := by decide +kernel
theorem dX5_bearsSkater_12 : decode cX5_bearsSkater 12 = .ok (.iload_n 1, 1) := by decide +kernel
theorem dX5_bearsSkater_13 : decode cX5_bearsSkater 13 = .ok (.iaload, 1) := by decide +kernel
theorem dX5_bearsSkater_14 : decode cX5_bearsSkater 14 = .ok (.iconst 4, 1) := by decide +kernel
theorem dX5_bearsSkater_15 : decode cX5_bearsSkater 15 = .ok (.if_icmp .lt 7, 3) := by decide +kernel
theorem dX5_bearsSkater_18 : decode cX5_bearsSkater 18 = .ok (.iconst 1, 1) := by decide +kernel
theorem dX5_bearsSkater_19 : decode cX5_bearsSkater 19 = .ok (.goto 4, 3) := by decide +kernel
theorem dX5_bearsSkater_22 : decode cX5_bearsSkater 22 = .ok (.iconst 0, 1) := by decide +kernel
theorem dX5_bearsSkater_23 : decode cX5_bearsSkater 23 = .ok (.ireturn, 1) := by decide +kernel
theorem dX5_iceUnder_0 : decode cX5_iceUnder 0 = .ok (.aload_n 0, 1) := by decide +kernel
theorem dX5_iceUnder_1 : decode cX5_iceUnder 1 = .ok (.getfield 17, 3) := by decide +kernel
theorem dX5_iceUnder_4 : decode cX5_iceUnder 4 = .ok (.iload_n 1, 1) := by decide +kernel
theorem dX5_iceUnder_5 : decode cX5_iceUnder 5 = .ok (.aaload, 1) := by decide +kernel
theorem dX5_iceUnder_6 : decode cX5_iceUnder 6 = .ok (.getfield 46, 3) := by decide +kernel
theorem dX5_iceUnder_9 : decode cX5_iceUnder 9 = .ok (.istore_n 2, 1) := by decide +kernel
theorem dX5_iceUnder_10 : decode cX5_iceUnder 10 = .ok (.aload_n 0, 1) := by decide +kernel
theorem dX5_iceUnder_11 : decode cX5_iceUnder 11 = .ok (.iload_n 2, 1) := by decide +kernel
theorem dX5_iceUnder_12 : decode cX5_iceUnder 12 = .ok (.invokevirtual 42, 3) := by decide +kernel
theorem dX5_iceUnder_15 : decode cX5_iceUnder 15 = .ok (.ifCond .eq 12, 3) := by decide +kernel
theorem dX5_iceUnder_18 : decode cX5_iceUnder 18 = .ok (.aload_n 0, 1) := by decide +kernel
theorem dX5_iceUnder_19 : decode cX5_iceUnder 19 = .ok (.getfield 9, 3) := by decide +kernel
theorem dX5_iceUnder_22 : decode cX5_iceUnder 22 = .ok (.iload_n 2, 1) := by decide +kernel
theorem dX5_iceUnder_23 : decode cX5_iceUnder 23 = .ok (.iaload, 1) := by decide +kernel
theorem dX5_iceUnder_24 : decode cX5_iceUnder 24 = .ok (.goto 4, 3) := by decide +kernel
theorem dX5_iceUnder_27 : decode cX5_iceUnder 27 = .ok (.iconst 0, 1) := by decide +kernel
theorem dX5_iceUnder_28 : decode cX5_iceUnder 28 = .ok (.ireturn, 1) := by decide +kernel
theorem dX5_worthOf_0 : decode cX5_worthOf 0 = .ok (.aload_n 0, 1) := by decide +kernel
theorem dX5_worthOf_1 : decode cX5_worthOf 1 = .ok (.getfield 17, 3) := by decide +kernel
theorem dX5_worthOf_4 : decode cX5_worthOf 4 = .ok (.iload_n 1, 1) := by decide +kernel
theorem dX5_worthOf_5 : decode cX5_worthOf 5 = .ok (.aaload, 1) := by decide +kernel
theorem dX5_worthOf_6 : decode cX5_worthOf 6 = .ok (.aload_n 0, 1) := by decide +kernel
theorem dX5_worthOf_7 : decode cX5_worthOf 7 = .ok (.iload_n 1, 1) := by decide +kernel
theorem dX5_worthOf_8 : decode cX5_worthOf 8 = .ok (.invokevirtual 49, 3) := by decide +kernel
theorem dX5_worthOf_11 : decode cX5_worthOf 11 = .ok (.invokevirtual 53, 3) := by decide +kernel
theorem dX5_worthOf_14 : decode cX5_worthOf 14 = .ok (.ireturn, 1) := by decide +kernel
theorem dX5_debtsThereIn_0 : decode cX5_debtsThereIn 0 = .ok (.iconst 0, 1) := by decide +kernel
theorem dX5_debtsThereIn_1 : decode cX5_debtsThereIn 1 = .ok (.istore_n 2, 1) := by decide +kernel
theorem dX5_debtsThereIn_2 : decode cX5_debtsThereIn 2 = .ok (.iconst 0, 1) := by decide +kernel
theorem dX5_debtsThereIn_3 : decode cX5_debtsThereIn 3 = .ok (.istore_n 3, 1) := by decide +kernel
theorem dX5_debtsThereIn_4 : decode cX5_debtsThereIn 4 = .ok (.iload_n 3, 1) := by decide +kernel
theorem dX5_debtsThereIn_5 : decode cX5_debtsThereIn 5 = .ok (.aload_n 0, 1) := by decide +kernel
theorem dX5_debtsThereIn_6 : decode cX5_debtsThereIn 6 = .ok (.getfield 35, 3) := by decide +kernel
theorem dX5_debtsThereIn_9 : decode cX5_debtsThereIn 9 = .ok (.if_icmp .ge 37, 3) := by decide +kernel
theorem dX5_debtsThereIn_12 : decode cX5_debtsThereIn 12 = .ok (.aload_n 0, 1) := by decide +kernel
theorem dX5_debtsThereIn_13 : decode cX5_debtsThereIn 13 = .ok (.getfield 17, 3) := by decide +kernel
theorem dX5_debtsThereIn_16 : decode cX5_debtsThereIn 16 = .ok (.iload_n 3, 1) := by decide +kernel
theorem dX5_debtsThereIn_17 : decode cX5_debtsThereIn 17 = .ok (.aaload, 1) := by decide +kernel
theorem dX5_debtsThereIn_18 : decode cX5_debtsThereIn 18 = .ok (.invokevirtual 56, 3) := by decide +kernel
theorem dX5_debtsThereIn_21 : decode cX5_debtsThereIn 21 = .ok (.ifCond .eq 19, 3) := by decide +kernel
theorem dX5_debtsThereIn_24 : decode cX5_debtsThereIn 24 = .ok (.aload_n 0, 1) := by decide +kernel
theorem dX5_debtsThereIn_25 : decode cX5_debtsThereIn 25 = .ok (.getfield 17, 3) := by decide +kernel
theorem dX5_debtsThereIn_28 : decode cX5_debtsThereIn 28 = .ok (.iload_n 3, 1) := by decide +kernel
theorem dX5_debtsThereIn_29 : decode cX5_debtsThereIn 29 = .ok (.aaload, 1) := by decide +kernel
theorem dX5_debtsThereIn_30 : decode cX5_debtsThereIn 30 = .ok (.getfield 46, 3) := by decide +kernel
theorem dX5_debtsThereIn_33 : decode cX5_debtsThereIn 33 = .ok (.iload_n 1, 1) := by decide +kernel
theorem dX5_debtsThereIn_34 : decode cX5_debtsThereIn 34 = .ok (.if_icmp .ne 6, 3) := by decide +kernel
theorem dX5_debtsThereIn_37 : decode cX5_debtsThereIn 37 = .ok (.iinc 2 1, 3) := by decide +kernel
theorem dX5_debtsThereIn_40 : decode cX5_debtsThereIn 40 = .ok (.iinc 3 1, 3) := by decide +kernel
theorem dX5_debtsThereIn_43 : decode cX5_debtsThereIn 43 = .ok (.goto (-39), 3) := by decide +kernel
theorem dX5_debtsThereIn_46 : decode cX5_debtsThereIn 46 = .ok (.iload_n 2, 1) := by decide +kernel
theorem dX5_debtsThereIn_47 : decode cX5_debtsThereIn 47 = .ok (.ireturn, 1) := by decide +kernel
theorem dX5_debtsStanding_0 : decode cX5_debtsStanding 0 = .ok (.iconst 0, 1) := by decide +kernel
theorem dX5_debtsStanding_1 : decode cX5_debtsStanding 1 = .ok (.istore_n 1, 1) := by decide +kernel
theorem dX5_debtsStanding_2 : decode cX5_debtsStanding 2 = .ok (.iconst 0, 1) := by decide +kernel
theorem dX5_debtsStanding_3 : decode cX5_debtsStanding 3 = .ok (.istore_n 2, 1) := by decide +kernel
theorem dX5_debtsStanding_4 : decode cX5_debtsStanding 4 = .ok (.iload_n 2, 1) := by decide +kernel
theorem dX5_debtsStanding_5 : decode cX5_debtsStanding 5 = .ok (.aload_n 0, 1) := by decide +kernel
theorem dX5_debtsStanding_6 : decode cX5_debtsStanding 6 = .ok (.getfield 35, 3) := by decide +kernel
theorem dX5_debtsStanding_9 : decode cX5_debtsStanding 9 = .ok (.if_icmp .ge 24, 3) := by decide +kernel
theorem dX5_debtsStanding_12 : decode cX5_debtsStanding 12 = .ok (.aload_n 0, 1) := by decide +kernel
theorem dX5_debtsStanding_13 : decode cX5_debtsStanding 13 = .ok (.getfield 17, 3) := by decide +kernel
theorem dX5_debtsStanding_16 : decode cX5_debtsStanding 16 = .ok (.iload_n 2, 1) := by decide +kernel
theorem dX5_debtsStanding_17 : decode cX5_debtsStanding 17 = .ok (.aaload, 1) := by decide +kernel
theorem dX5_debtsStanding_18 : decode cX5_debtsStanding 18 = .ok (.getfield 60, 3) := by decide +kernel
theorem dX5_debtsStanding_21 : decode cX5_debtsStanding 21 = .ok (.ifCond .le 6, 3) := by decide +kernel
theorem dX5_debtsStanding_24 : decode cX5_debtsStanding 24 = .ok (.iinc 1 1, 3) := by decide +kernel
theorem dX5_debtsStanding_27 : decode cX5_debtsStanding 27 = .ok (.iinc 2 1, 3) := by decide +kernel
theorem dX5_debtsStanding_30 : decode cX5_debtsStanding 30 = .ok (.goto (-26), 3) := by decide +kernel
theorem dX5_debtsStanding_33 : decode cX5_debtsStanding 33 = .ok (.iload_n 1, 1) := by decide +kernel
theorem dX5_debtsStanding_34 : decode cX5_debtsStanding 34 = .ok (.ireturn, 1) := by decide +kernel
theorem dX5_iceTogether_0 : decode cX5_iceTogether 0 = .ok (.iconst 0, 1) := by decide +kernel
theorem dX5_iceTogether_1 : decode cX5_iceTogether 1 = .ok (.istore_n 1, 1) := by decide +kernel
theorem dX5_iceTogether_2 : decode cX5_iceTogether 2 = .ok (.iconst 0, 1) := by decide +kernel
theorem dX5_iceTogether_3 : decode cX5_iceTogether 3 = .ok (.istore_n 2, 1) := by decide +kernel
theorem dX5_iceTogether_4 : decode cX5_iceTogether 4 = .ok (.iload_n 2, 1) := by decide +kernel
theorem dX5_iceTogether_5 : decode cX5_iceTogether 5 = .ok (.aload_n 0, 1) := by decide +kernel
theorem dX5_iceTogether_6 : decode cX5_iceTogether 6 = .ok (.getfield 26, 3) := by decide +kernel
theorem dX5_iceTogether_9 : decode cX5_iceTogether 9 = .ok (.if_icmp .ge 18, 3) := by decide +kernel
theorem dX5_iceTogether_12 : decode cX5_iceTogether 12 = .ok (.iload_n 1, 1) := by decide +kernel
theorem dX5_iceTogether_13 : decode cX5_iceTogether 13 = .ok (.aload_n 0, 1) := by decide +kernel
theorem dX5_iceTogether_14 : decode cX5_iceTogether 14 = .ok (.getfield 9, 3) := by decide +kernel
theorem dX5_iceTogether_17 : decode cX5_iceTogether 17 = .ok (.iload_n 2, 1) := by decide +kernel
theorem dX5_iceTogether_18 : decode cX5_iceTogether 18 = .ok (.iaload, 1) := by decide +kernel
theorem dX5_iceTogether_19 : decode cX5_iceTogether 19 = .ok (.iadd, 1) := by decide +kernel
theorem dX5_iceTogether_20 : decode cX5_iceTogether 20 = .ok (.istore_n 1, 1) := by decide +kernel
theorem dX5_iceTogether_21 : decode cX5_iceTogether 21 = .ok (.iinc 2 1, 3) := by decide +kernel
theorem dX5_iceTogether_24 : decode cX5_iceTogether 24 = .ok (.goto (-20), 3) := by decide +kernel
theorem dX5_iceTogether_27 : decode cX5_iceTogether 27 = .ok (.iload_n 1, 1) := by decide +kernel
theorem dX5_iceTogether_28 : decode cX5_iceTogether 28 = .ok (.ireturn, 1) := by decide +kernel
theorem dX5_restOf_0 : decode cX5_restOf 0 = .ok (.iconst 0, 1) := by decide +kernel
theorem dX5_restOf_1 : decode cX5_restOf 1 = .ok (.istore_n 2, 1) := by decide +kernel
theorem dX5_restOf_2 : decode cX5_restOf 2 = .ok (.iconst 0, 1) := by decide +kernel
theorem dX5_restOf_3 : decode cX5_restOf 3 = .ok (.istore_n 3, 1) := by decide +kernel
theorem dX5_restOf_4 : decode cX5_restOf 4 = .ok (.iload_n 3, 1) := by decide +kernel
theorem dX5_restOf_5 : decode cX5_restOf 5 = .ok (.aload_n 0, 1) := by decide +kernel
theorem dX5_restOf_6 : decode cX5_restOf 6 = .ok (.getfield 35, 3) := by decide +kernel
theorem dX5_restOf_9 : decode cX5_restOf 9 = .ok (.if_icmp .ge 51, 3) := by decide +kernel
theorem dX5_restOf_12 : decode cX5_restOf 12 = .ok (.aload_n 0, 1) := by decide +kernel
theorem dX5_restOf_13 : decode cX5_restOf 13 = .ok (.getfield 17, 3) := by decide +kernel
theorem dX5_restOf_16 : decode cX5_restOf 16 = .ok (.iload_n 3, 1) := by decide +kernel
theorem dX5_restOf_17 : decode cX5_restOf 17 = .ok (.aaload, 1) := by decide +kernel
theorem dX5_restOf_18 : decode cX5_restOf 18 = .ok (.getfield 63, 3) := by decide +kernel
theorem dX5_restOf_21 : decode cX5_restOf 21 = .ok (.iload_n 1, 1) := by decide +kernel
theorem dX5_restOf_22 : decode cX5_restOf 22 = .ok (.if_icmp .ne 11, 3) := by decide +kernel
theorem dX5_restOf_25 : decode cX5_restOf 25 = .ok (.iload_n 2, 1) := by decide +kernel
theorem dX5_restOf_26 : decode cX5_restOf 26 = .ok (.aload_n 0, 1) := by decide +kernel
theorem dX5_restOf_27 : decode cX5_restOf 27 = .ok (.iload_n 3, 1) := by decide +kernel
theorem dX5_restOf_28 : decode cX5_restOf 28 = .ok (.invokevirtual 66, 3) := by decide +kernel
theorem dX5_restOf_31 : decode cX5_restOf 31 = .ok (.iadd, 1) := by decide +kernel
theorem dX5_restOf_32 : decode cX5_restOf 32 = .ok (.istore_n 2, 1) := by decide +kernel
theorem dX5_restOf_33 : decode cX5_restOf 33 = .ok (.aload_n 0, 1) := by decide +kernel
theorem dX5_restOf_34 : decode cX5_restOf 34 = .ok (.getfield 17, 3) := by decide +kernel
theorem dX5_restOf_37 : decode cX5_restOf 37 = .ok (.iload_n 3, 1) := by decide +kernel
theorem dX5_restOf_38 : decode cX5_restOf 38 = .ok (.aaload, 1) := by decide +kernel
theorem dX5_restOf_39 : decode cX5_restOf 39 = .ok (.getfield 69, 3) := by decide +kernel
theorem dX5_restOf_42 : decode cX5_restOf 42 = .ok (.iload_n 1, 1) := by decide +kernel
theorem dX5_restOf_43 : decode cX5_restOf 43 = .ok (.if_icmp .ne 11, 3) := by decide +kernel
theorem dX5_restOf_46 : decode cX5_restOf 46 = .ok (.iload_n 2, 1) := by decide +kernel
theorem dX5_restOf_47 : decode cX5_restOf 47 = .ok (.aload_n 0, 1) := by decide +kernel
theorem dX5_restOf_48 : decode cX5_restOf 48 = .ok (.iload_n 3, 1) := by decide +kernel
theorem dX5_restOf_49 : decode cX5_restOf 49 = .ok (.invokevirtual 66, 3) := by decide +kernel
theorem dX5_restOf_52 : decode cX5_restOf 52 = .ok (.isub, 1) := by decide +kernel
theorem dX5_restOf_53 : decode cX5_restOf 53 = .ok (.istore_n 2, 1) := by decide +kernel
theorem dX5_restOf_54 : decode cX5_restOf 54 = .ok (.iinc 3 1, 3) := by decide +kernel
theorem dX5_restOf_57 : decode cX5_restOf 57 = .ok (.goto (-53), 3) := by decide +kernel
theorem dX5_restOf_60 : decode cX5_restOf 60 = .ok (.iload_n 2, 1) := by decide +kernel
theorem dX5_restOf_61 : decode cX5_restOf 61 = .ok (.ireturn, 1) := by decide +kernel
theorem dX5_readableIn_0 : decode cX5_readableIn 0 = .ok (.iconst 0, 1) := by decide +kernel
theorem dX5_readableIn_1 : decode cX5_readableIn 1 = .ok (.istore_n 2, 1) := by decide +kernel
theorem dX5_readableIn_2 : decode cX5_readableIn 2 = .ok (.iconst 0, 1) := by decide +kernel
theorem dX5_readableIn_3 : decode cX5_readableIn 3 = .ok (.istore_n 3, 1) := by decide +kernel
theorem dX5_readableIn_4 : decode cX5_readableIn 4 = .ok (.iload_n 3, 1) := by decide +kernel
theorem dX5_readableIn_5 : decode cX5_readableIn 5 = .ok (.aload_n 0, 1) := by decide +kernel
theorem dX5_readableIn_6 : decode cX5_readableIn 6 = .ok (.getfield 35, 3) := by decide +kernel
theorem dX5_readableIn_9 : decode cX5_readableIn 9 = .ok (.if_icmp .ge 49, 3) := by decide +kernel
theorem dX5_readableIn_12 : decode cX5_readableIn 12 = .ok (.aload_n 0, 1) := by decide +kernel
theorem dX5_readableIn_13 : decode cX5_readableIn 13 = .ok (.getfield 29, 3) := by decide +kernel
theorem dX5_readableIn_16 : decode cX5_readableIn 16 = .ok (.ifCond .ne 36, 3) := by decide +kernel
theorem dX5_readableIn_19 : decode cX5_readableIn 19 = .ok (.aload_n 0, 1) := by decide +kernel
theorem dX5_readableIn_20 : decode cX5_readableIn 20 = .ok (.getfield 17, 3) := by decide +kernel
theorem dX5_readableIn_23 : decode cX5_readableIn 23 = .ok (.iload_n 3, 1) := by decide +kernel
theorem dX5_readableIn_24 : decode cX5_readableIn 24 = .ok (.aaload, 1) := by decide +kernel
theorem dX5_readableIn_25 : decode cX5_readableIn 25 = .ok (.invokevirtual 56, 3) := by decide +kernel
theorem dX5_readableIn_28 : decode cX5_readableIn 28 = .ok (.ifCond .eq 24, 3) := by decide +kernel
theorem dX5_readableIn_31 : decode cX5_readableIn 31 = .ok (.aload_n 0, 1) := by decide +kernel
theorem dX5_readableIn_32 : decode cX5_readableIn 32 = .ok (.getfield 17, 3) := by decide +kernel
theorem dX5_readableIn_35 : decode cX5_readableIn 35 = .ok (.iload_n 3, 1) := by decide +kernel
theorem dX5_readableIn_36 : decode cX5_readableIn 36 = .ok (.aaload, 1) := by decide +kernel
theorem dX5_readableIn_37 : decode cX5_readableIn 37 = .ok (.getfield 46, 3) := by decide +kernel
theorem dX5_readableIn_40 : decode cX5_readableIn 40 = .ok (.iload_n 1, 1) := by decide +kernel
theorem dX5_readableIn_41 : decode cX5_readableIn 41 = .ok (.if_icmp .ne 11, 3) := by decide +kernel
theorem dX5_readableIn_44 : decode cX5_readableIn 44 = .ok (.iload_n 2, 1) := by decide +kernel
theorem dX5_readableIn_45 : decode cX5_readableIn 45 = .ok (.aload_n 0, 1) := by decide +kernel
theorem dX5_readableIn_46 : decode cX5_readableIn 46 = .ok (.iload_n 3, 1) := by decide +kernel
theorem dX5_readableIn_47 : decode cX5_readableIn 47 = .ok (.invokevirtual 66, 3) := by decide +kernel
theorem dX5_readableIn_50 : decode cX5_readableIn 50 = .ok (.iadd, 1) := by decide +kernel
theorem dX5_readableIn_51 : decode cX5_readableIn 51 = .ok (.istore_n 2, 1) := by decide +kernel
theorem dX5_readableIn_52 : decode cX5_readableIn 52 = .ok (.iinc 3 1, 3) := by decide +kernel
theorem dX5_readableIn_55 : decode cX5_readableIn 55 = .ok (.goto (-51), 3) := by decide +kernel
theorem dX5_readableIn_58 : decode cX5_readableIn 58 = .ok (.iload_n 2, 1) := by decide +kernel
theorem dX5_readableIn_59 : decode cX5_readableIn 59 = .ok (.ireturn, 1) := by decide +kernel
theorem dX5_makeHole_0 : decode cX5_makeHole 0 = .ok (.iconst 0, 1) := by decide +kernel
theorem dX5_makeHole_1 : decode cX5_makeHole 1 = .ok (.istore_n 2, 1) := by decide +kernel
theorem dX5_makeHole_2 : decode cX5_makeHole 2 = .ok (.aload_n 0, 1) := by decide +kernel
theorem dX5_makeHole_3 : decode cX5_makeHole 3 = .ok (.getfield 9, 3) := by decide +kernel
theorem dX5_makeHole_6 : decode cX5_makeHole 6 = .ok (.iload_n 1, 1) := by decide +kernel
theorem dX5_makeHole_7 : decode cX5_makeHole 7 = .ok (.iconst 0, 1) := by decide +kernel
theorem dX5_makeHole_8 : decode cX5_makeHole 8 = .ok (.iastore, 1) := by decide +kernel
theorem dX5_makeHole_9 : decode cX5_makeHole 9 = .ok (.iconst 0, 1) := by decide +kernel
theorem dX5_makeHole_10 : decode cX5_makeHole 10 = .ok (.istore_n 3, 1) := by decide +kernel
theorem dX5_makeHole_11 : decode cX5_makeHole 11 = .ok (.iload_n 3, 1) := by decide +kernel
theorem dX5_makeHole_12 : decode cX5_makeHole 12 = .ok (.aload_n 0, 1) := by decide +kernel
theorem dX5_makeHole_13 : decode cX5_makeHole 13 = .ok (.getfield 35, 3) := by decide +kernel
theorem dX5_makeHole_16 : decode cX5_makeHole 16 = .ok (.if_icmp .ge 47, 3) := by decide +kernel
theorem dX5_makeHole_19 : decode cX5_makeHole 19 = .ok (.aload_n 0, 1) := by decide +kernel
theorem dX5_makeHole_20 : decode cX5_makeHole 20 = .ok (.getfield 17, 3) := by decide +kernel
theorem dX5_makeHole_23 : decode cX5_makeHole 23 = .ok (.iload_n 3, 1) := by decide +kernel
theorem dX5_makeHole_24 : decode cX5_makeHole 24 = .ok (.aaload, 1) := by decide +kernel
theorem dX5_makeHole_25 : decode cX5_makeHole 25 = .ok (.invokevirtual 56, 3) := by decide +kernel
theorem dX5_makeHole_28 : decode cX5_makeHole 28 = .ok (.ifCond .eq 29, 3) := by decide +kernel
theorem dX5_makeHole_31 : decode cX5_makeHole 31 = .ok (.aload_n 0, 1) := by decide +kernel
theorem dX5_makeHole_32 : decode cX5_makeHole 32 = .ok (.getfield 17, 3) := by decide +kernel
theorem dX5_makeHole_35 : decode cX5_makeHole 35 = .ok (.iload_n 3, 1) := by decide +kernel
theorem dX5_makeHole_36 : decode cX5_makeHole 36 = .ok (.aaload, 1) := by decide +kernel
theorem dX5_makeHole_37 : decode cX5_makeHole 37 = .ok (.getfield 46, 3) := by decide +kernel
theorem dX5_makeHole_40 : decode cX5_makeHole 40 = .ok (.iload_n 1, 1) := by decide +kernel
theorem dX5_makeHole_41 : decode cX5_makeHole 41 = .ok (.if_icmp .ne 16, 3) := by decide +kernel
theorem dX5_makeHole_44 : decode cX5_makeHole 44 = .ok (.aload_n 0, 1) := by decide +kernel
theorem dX5_makeHole_45 : decode cX5_makeHole 45 = .ok (.getfield 17, 3) := by decide +kernel
theorem dX5_makeHole_48 : decode cX5_makeHole 48 = .ok (.iload_n 3, 1) := by decide +kernel
theorem dX5_makeHole_49 : decode cX5_makeHole 49 = .ok (.aaload, 1) := by decide +kernel
theorem dX5_makeHole_50 : decode cX5_makeHole 50 = .ok (.iconst 0, 1) := by decide +kernel
theorem dX5_makeHole_51 : decode cX5_makeHole 51 = .ok (.putfield 60, 3) := by decide +kernel
theorem dX5_makeHole_54 : decode cX5_makeHole 54 = .ok (.iinc 2 1, 3) := by decide +kernel
theorem dX5_makeHole_57 : decode cX5_makeHole 57 = .ok (.iinc 3 1, 3) := by decide +kernel
theorem dX5_makeHole_60 : decode cX5_makeHole 60 = .ok (.goto (-49), 3) := by decide +kernel
theorem dX5_makeHole_63 : decode cX5_makeHole 63 = .ok (.iload_n 2, 1) := by decide +kernel
theorem dX5_makeHole_64 : decode cX5_makeHole 64 = .ok (.ireturn, 1) := by decide +kernel
theorem dX5_passDay_0 : decode cX5_passDay 0 = .ok (.iload_n 1, 1) := by decide +kernel
theorem dX5_passDay_1 : decode cX5_passDay 1 = .ok (.iconst 2, 1) := by decide +kernel
theorem dX5_passDay_2 : decode cX5_passDay 2 = .ok (.if_icmp .ne 21, 3) := by decide +kernel
theorem dX5_passDay_5 : decode cX5_passDay 5 = .ok (.aload_n 0, 1) := by decide +kernel
theorem dX5_passDay_6 : decode cX5_passDay 6 = .ok (.bipush 9, 2) := by decide +kernel
theorem dX5_passDay_8 : decode cX5_passDay 8 = .ok (.aload_n 0, 1) := by decide +kernel
theorem dX5_passDay_9 : decode cX5_passDay 9 = .ok (.getfield 29, 3) := by decide +kernel
theorem dX5_passDay_12 : decode cX5_passDay 12 = .ok (.iconst 1, 1) := by decide +kernel
theorem dX5_passDay_13 : decode cX5_passDay 13 = .ok (.iadd, 1) := by decide +kernel
theorem dX5_passDay_14 : decode cX5_passDay 14 = .ok (.invokestatic 72, 3) := by decide +kernel
theorem dX5_passDay_17 : decode cX5_passDay 17 = .ok (.putfield 29, 3) := by decide +kernel
theorem dX5_passDay_20 : decode cX5_passDay 20 = .ok (.goto 18, 3) := by decide +kernel
theorem dX5_passDay_23 : decode cX5_passDay 23 = .ok (.iload_n 1, 1) := by decide +kernel
theorem dX5_passDay_24 : decode cX5_passDay 24 = .ok (.iconst 3, 1) := by decide +kernel
theorem dX5_passDay_25 : decode cX5_passDay 25 = .ok (.if_icmp .eq 8, 3) := by decide +kernel
theorem dX5_passDay_28 : decode cX5_passDay 28 = .ok (.iload_n 1, 1) := by decide +kernel
theorem dX5_passDay_29 : decode cX5_passDay 29 = .ok (.iconst 1, 1) := by decide +kernel
theorem dX5_passDay_30 : decode cX5_passDay 30 = .ok (.if_icmp .ne 8, 3) := by decide +kernel
theorem dX5_passDay_33 : decode cX5_passDay 33 = .ok (.aload_n 0, 1) := by decide +kernel
theorem dX5_passDay_34 : decode cX5_passDay 34 = .ok (.iconst 0, 1) := by decide +kernel
theorem dX5_passDay_35 : decode cX5_passDay 35 = .ok (.putfield 29, 3) := by decide +kernel
theorem dX5_passDay_38 : decode cX5_passDay 38 = .ok (.iconst 0, 1) := by decide +kernel
theorem dX5_passDay_39 : decode cX5_passDay 39 = .ok (.istore_n 3, 1) := by decide +kernel
theorem dX5_passDay_40 : decode cX5_passDay 40 = .ok (.iload_n 3, 1) := by decide +kernel
theorem dX5_passDay_41 : decode cX5_passDay 41 = .ok (.aload_n 0, 1) := by decide +kernel
theorem dX5_passDay_42 : decode cX5_passDay 42 = .ok (.getfield 26, 3) := by decide +kernel
theorem dX5_passDay_45 : decode cX5_passDay 45 = .ok (.if_icmp .ge 26, 3) := by decide +kernel
theorem dX5_passDay_48 : decode cX5_passDay 48 = .ok (.aload_n 0, 1) := by decide +kernel
theorem dX5_passDay_49 : decode cX5_passDay 49 = .ok (.getfield 9, 3) := by decide +kernel
theorem dX5_passDay_52 : decode cX5_passDay 52 = .ok (.iload_n 3, 1) := by decide +kernel
theorem dX5_passDay_53 : decode cX5_passDay 53 = .ok (.iload_n 1, 1) := by decide +kernel
theorem dX5_passDay_54 : decode cX5_passDay 54 = .ok (.iload_n 2, 1) := by decide +kernel
theorem dX5_passDay_55 : decode cX5_passDay 55 = .ok (.aload_n 0, 1) := by decide +kernel
theorem dX5_passDay_56 : decode cX5_passDay 56 = .ok (.getfield 9, 3) := by decide +kernel
theorem dX5_passDay_59 : decode cX5_passDay 59 = .ok (.iload_n 3, 1) := by decide +kernel
theorem dX5_passDay_60 : decode cX5_passDay 60 = .ok (.iaload, 1) := by decide +kernel
theorem dX5_passDay_61 : decode cX5_passDay 61 = .ok (.invokestatic 78, 3) := by decide +kernel
theorem dX5_passDay_64 : decode cX5_passDay 64 = .ok (.iastore, 1) := by decide +kernel
theorem dX5_passDay_65 : decode cX5_passDay 65 = .ok (.iinc 3 1, 3) := by decide +kernel
theorem dX5_passDay_68 : decode cX5_passDay 68 = .ok (.goto (-28), 3) := by decide +kernel
theorem dX5_passDay_71 : decode cX5_passDay 71 = .ok (.iload_n 1, 1) := by decide +kernel
theorem dX5_passDay_72 : decode cX5_passDay 72 = .ok (.iconst 1, 1) := by decide +kernel
theorem dX5_passDay_73 : decode cX5_passDay 73 = .ok (.if_icmp .ne 11, 3) := by decide +kernel
theorem dX5_passDay_76 : decode cX5_passDay 76 = .ok (.aload_n 0, 1) := by decide +kernel
theorem dX5_passDay_77 : decode cX5_passDay 77 = .ok (.iload_n 2, 1) := by decide +kernel
theorem dX5_passDay_78 : decode cX5_passDay 78 = .ok (.invokevirtual 82, 3) := by decide +kernel
theorem dX5_passDay_81 : decode cX5_passDay 81 = .ok (.goto 4, 3) := by decide +kernel
theorem dX5_passDay_84 : decode cX5_passDay 84 = .ok (.iconst 0, 1) := by decide +kernel
theorem dX5_passDay_85 : decode cX5_passDay 85 = .ok (.ireturn, 1) := by decide +kernel
theorem dX5_meltCuts_0 : decode cX5_meltCuts 0 = .ok (.iconst 0, 1) := by decide +kernel
theorem dX5_meltCuts_1 : decode cX5_meltCuts 1 = .ok (.istore_n 2, 1) := by decide +kernel
theorem dX5_meltCuts_2 : decode cX5_meltCuts 2 = .ok (.iconst 0, 1) := by decide +kernel
theorem dX5_meltCuts_3 : decode cX5_meltCuts 3 = .ok (.istore_n 3, 1) := by decide +kernel
theorem dX5_meltCuts_4 : decode cX5_meltCuts 4 = .ok (.iload_n 3, 1) := by decide +kernel
theorem dX5_meltCuts_5 : decode cX5_meltCuts 5 = .ok (.aload_n 0, 1) := by decide +kernel
theorem dX5_meltCuts_6 : decode cX5_meltCuts 6 = .ok (.getfield 35, 3) := by decide +kernel
theorem dX5_meltCuts_9 : decode cX5_meltCuts 9 = .ok (.if_icmp .ge 77, 3) := by decide +kernel
theorem dX5_meltCuts_12 : decode cX5_meltCuts 12 = .ok (.aload_n 0, 1) := by decide +kernel
theorem dX5_meltCuts_13 : decode cX5_meltCuts 13 = .ok (.getfield 17, 3) := by decide +kernel
theorem dX5_meltCuts_16 : decode cX5_meltCuts 16 = .ok (.iload_n 3, 1) := by decide +kernel
theorem dX5_meltCuts_17 : decode cX5_meltCuts 17 = .ok (.aaload, 1) := by decide +kernel
theorem dX5_meltCuts_18 : decode cX5_meltCuts 18 = .ok (.invokevirtual 56, 3) := by decide +kernel
theorem dX5_meltCuts_21 : decode cX5_meltCuts 21 = .ok (.ifCond .eq 59, 3) := by decide +kernel
theorem dX5_meltCuts_24 : decode cX5_meltCuts 24 = .ok (.aload_n 0, 1) := by decide +kernel
theorem dX5_meltCuts_25 : decode cX5_meltCuts 25 = .ok (.getfield 17, 3) := by decide +kernel
theorem dX5_meltCuts_28 : decode cX5_meltCuts 28 = .ok (.iload_n 3, 1) := by decide +kernel
theorem dX5_meltCuts_29 : decode cX5_meltCuts 29 = .ok (.aaload, 1) := by decide +kernel
theorem dX5_meltCuts_30 : decode cX5_meltCuts 30 = .ok (.aload_n 0, 1) := by decide +kernel
theorem dX5_meltCuts_31 : decode cX5_meltCuts 31 = .ok (.getfield 17, 3) := by decide +kernel
theorem dX5_meltCuts_34 : decode cX5_meltCuts 34 = .ok (.iload_n 3, 1) := by decide +kernel
theorem dX5_meltCuts_35 : decode cX5_meltCuts 35 = .ok (.aaload, 1) := by decide +kernel
theorem dX5_meltCuts_36 : decode cX5_meltCuts 36 = .ok (.getfield 85, 3) := by decide +kernel
theorem dX5_meltCuts_39 : decode cX5_meltCuts 39 = .ok (.aload_n 0, 1) := by decide +kernel
theorem dX5_meltCuts_40 : decode cX5_meltCuts 40 = .ok (.getfield 17, 3) := by decide +kernel
theorem dX5_meltCuts_43 : decode cX5_meltCuts 43 = .ok (.iload_n 3, 1) := by decide +kernel
theorem dX5_meltCuts_44 : decode cX5_meltCuts 44 = .ok (.aaload, 1) := by decide +kernel
theorem dX5_meltCuts_45 : decode cX5_meltCuts 45 = .ok (.getfield 60, 3) := by decide +kernel
theorem dX5_meltCuts_48 : decode cX5_meltCuts 48 = .ok (.iload_n 1, 1) := by decide +kernel
theorem dX5_meltCuts_49 : decode cX5_meltCuts 49 = .ok (.aload_n 0, 1) := by decide +kernel
theorem dX5_meltCuts_50 : decode cX5_meltCuts 50 = .ok (.iload_n 3, 1) := by decide +kernel
theorem dX5_meltCuts_51 : decode cX5_meltCuts 51 = .ok (.invokevirtual 49, 3) := by decide +kernel
theorem dX5_meltCuts_54 : decode cX5_meltCuts 54 = .ok (.invokestatic 88, 3) := by decide +kernel
theorem dX5_meltCuts_57 : decode cX5_meltCuts 57 = .ok (.putfield 60, 3) := by decide +kernel
theorem dX5_meltCuts_60 : decode cX5_meltCuts 60 = .ok (.iload_n 2, 1) := by decide +kernel
theorem dX5_meltCuts_61 : decode cX5_meltCuts 61 = .ok (.aload_n 0, 1) := by decide +kernel
theorem dX5_meltCuts_62 : decode cX5_meltCuts 62 = .ok (.getfield 17, 3) := by decide +kernel
theorem dX5_meltCuts_65 : decode cX5_meltCuts 65 = .ok (.iload_n 3, 1) := by decide +kernel
theorem dX5_meltCuts_66 : decode cX5_meltCuts 66 = .ok (.aaload, 1) := by decide +kernel
theorem dX5_meltCuts_67 : decode cX5_meltCuts 67 = .ok (.getfield 60, 3) := by decide +kernel
theorem dX5_meltCuts_70 : decode cX5_meltCuts 70 = .ok (.ifCond .ne 7, 3) := by decide +kernel
theorem dX5_meltCuts_73 : decode cX5_meltCuts 73 = .ok (.iconst 1, 1) := by decide +kernel
theorem dX5_meltCuts_74 : decode cX5_meltCuts 74 = .ok (.goto 4, 3) := by decide +kernel
theorem dX5_meltCuts_77 : decode cX5_meltCuts 77 = .ok (.iconst 0, 1) := by decide +kernel
theorem dX5_meltCuts_78 : decode cX5_meltCuts 78 = .ok (.iadd, 1) := by decide +kernel
theorem dX5_meltCuts_79 : decode cX5_meltCuts 79 = .ok (.istore_n 2, 1) := by decide +kernel
theorem dX5_meltCuts_80 : decode cX5_meltCuts 80 = .ok (.iinc 3 1, 3) := by decide +kernel
theorem dX5_meltCuts_83 : decode cX5_meltCuts 83 = .ok (.goto (-79), 3) := by decide +kernel
theorem dX5_meltCuts_86 : decode cX5_meltCuts 86 = .ok (.iload_n 2, 1) := by decide +kernel
theorem dX5_meltCuts_87 : decode cX5_meltCuts 87 = .ok (.ireturn, 1) := by decide +kernel
