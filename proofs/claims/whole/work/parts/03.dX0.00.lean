theorem dX0_init_0 : decode cX0_init 0 = .ok (.aload_n 0, 1) := by decide +kernel
theorem dX0_init_1 : decode cX0_init 1 = .ok (.invokespecial 3, 3) := by decide +kernel
theorem dX0_init_4 : decode cX0_init 4 = .ok (.return_, 1) := by decide +kernel
theorem dX0_depthOf_0 : decode cX0_depthOf 0 = .ok (.iload_n 0, 1) := by decide +kernel
theorem dX0_depthOf_1 : decode cX0_depthOf 1 = .ok (.iconst 1, 1) := by decide +kernel
theorem dX0_depthOf_2 : decode cX0_depthOf 2 = .ok (.if_icmp .ne 9, 3) := by decide +kernel
theorem dX0_depthOf_5 : decode cX0_depthOf 5 = .ok (.iconst 2, 1) := by decide +kernel
theorem dX0_depthOf_6 : decode cX0_depthOf 6 = .ok (.iload_n 1, 1) := by decide +kernel
theorem dX0_depthOf_7 : decode cX0_depthOf 7 = .ok (.imul, 1) := by decide +kernel
theorem dX0_depthOf_8 : decode cX0_depthOf 8 = .ok (.goto 4, 3) := by decide +kernel
theorem dX0_depthOf_11 : decode cX0_depthOf 11 = .ok (.iload_n 1, 1) := by decide +kernel
theorem dX0_depthOf_12 : decode cX0_depthOf 12 = .ok (.ireturn, 1) := by decide +kernel
theorem dX0_isOfKind_0 : decode cX0_isOfKind 0 = .ok (.iload_n 1, 1) := by decide +kernel
theorem dX0_isOfKind_1 : decode cX0_isOfKind 1 = .ok (.ifCond .eq 18, 3) := by decide +kernel
theorem dX0_isOfKind_4 : decode cX0_isOfKind 4 = .ok (.iload_n 0, 1) := by decide +kernel
theorem dX0_isOfKind_5 : decode cX0_isOfKind 5 = .ok (.iload_n 1, 1) := by decide +kernel
theorem dX0_isOfKind_6 : decode cX0_isOfKind 6 = .ok (.if_icmp .eq 13, 3) := by decide +kernel
theorem dX0_isOfKind_9 : decode cX0_isOfKind 9 = .ok (.iload_n 1, 1) := by decide +kernel
theorem dX0_isOfKind_10 : decode cX0_isOfKind 10 = .ok (.iconst 2, 1) := by decide +kernel
theorem dX0_isOfKind_11 : decode cX0_isOfKind 11 = .ok (.if_icmp .ne 12, 3) := by decide +kernel
theorem dX0_isOfKind_14 : decode cX0_isOfKind 14 = .ok (.iload_n 0, 1) := by decide +kernel
theorem dX0_isOfKind_15 : decode cX0_isOfKind 15 = .ok (.iconst 4, 1) := by decide +kernel
theorem dX0_isOfKind_16 : decode cX0_isOfKind 16 = .ok (.if_icmp .ne 7, 3) := by decide +kernel
theorem dX0_isOfKind_19 : decode cX0_isOfKind 19 = .ok (.iconst 1, 1) := by decide +kernel
theorem dX0_isOfKind_20 : decode cX0_isOfKind 20 = .ok (.goto 4, 3) := by decide +kernel
theorem dX0_isOfKind_23 : decode cX0_isOfKind 23 = .ok (.iconst 0, 1) := by decide +kernel
theorem dX0_isOfKind_24 : decode cX0_isOfKind 24 = .ok (.ireturn, 1) := by decide +kernel
theorem dX0_cutBehindThaw_0 : decode cX0_cutBehindThaw 0 = .ok (.iload_n 0, 1) := by decide +kernel
theorem dX0_cutBehindThaw_1 : decode cX0_cutBehindThaw 1 = .ok (.iconst 3, 1) := by decide +kernel
theorem dX0_cutBehindThaw_2 : decode cX0_cutBehindThaw 2 = .ok (.if_icmp .eq 7, 3) := by decide +kernel
theorem dX0_cutBehindThaw_5 : decode cX0_cutBehindThaw 5 = .ok (.iload_n 3, 1) := by decide +kernel
theorem dX0_cutBehindThaw_6 : decode cX0_cutBehindThaw 6 = .ok (.ifCond .ne 5, 3) := by decide +kernel
theorem dX0_cutBehindThaw_9 : decode cX0_cutBehindThaw 9 = .ok (.iconst 0, 1) := by decide +kernel
theorem dX0_cutBehindThaw_10 : decode cX0_cutBehindThaw 10 = .ok (.ireturn, 1) := by decide +kernel
theorem dX0_cutBehindThaw_11 : decode cX0_cutBehindThaw 11 = .ok (.iload_n 0, 1) := by decide +kernel
theorem dX0_cutBehindThaw_12 : decode cX0_cutBehindThaw 12 = .ok (.iconst 4, 1) := by decide +kernel
theorem dX0_cutBehindThaw_13 : decode cX0_cutBehindThaw 13 = .ok (.if_icmp .ne 11, 3) := by decide +kernel
theorem dX0_cutBehindThaw_16 : decode cX0_cutBehindThaw 16 = .ok (.iload_n 2, 1) := by decide +kernel
theorem dX0_cutBehindThaw_17 : decode cX0_cutBehindThaw 17 = .ok (.iconst 1, 1) := by decide +kernel
theorem dX0_cutBehindThaw_18 : decode cX0_cutBehindThaw 18 = .ok (.iadd, 1) := by decide +kernel
theorem dX0_cutBehindThaw_19 : decode cX0_cutBehindThaw 19 = .ok (.iconst 2, 1) := by decide +kernel
theorem dX0_cutBehindThaw_20 : decode cX0_cutBehindThaw 20 = .ok (.idiv, 1) := by decide +kernel
theorem dX0_cutBehindThaw_21 : decode cX0_cutBehindThaw 21 = .ok (.goto 4, 3) := by decide +kernel
theorem dX0_cutBehindThaw_24 : decode cX0_cutBehindThaw 24 = .ok (.iload_n 2, 1) := by decide +kernel
theorem dX0_cutBehindThaw_25 : decode cX0_cutBehindThaw 25 = .ok (.istore 4, 2) := by decide +kernel
theorem dX0_cutBehindThaw_27 : decode cX0_cutBehindThaw 27 = .ok (.iconst 0, 1) := by decide +kernel
theorem dX0_cutBehindThaw_28 : decode cX0_cutBehindThaw 28 = .ok (.iload_n 1, 1) := by decide +kernel
theorem dX0_cutBehindThaw_29 : decode cX0_cutBehindThaw 29 = .ok (.iload 4, 2) := by decide +kernel
theorem dX0_cutBehindThaw_31 : decode cX0_cutBehindThaw 31 = .ok (.isub, 1) := by decide +kernel
theorem dX0_cutBehindThaw_32 : decode cX0_cutBehindThaw 32 = .ok (.invokestatic 9, 3) := by decide +kernel
theorem dX0_cutBehindThaw_35 : decode cX0_cutBehindThaw 35 = .ok (.ireturn, 1) := by decide +kernel
theorem dX0_concern_0 : decode cX0_concern 0 = .ok (.aload_n 0, 1) := by decide +kernel
theorem dX0_concern_1 : decode cX0_concern 1 = .ok (.iload_n 1, 1) := by decide +kernel
theorem dX0_concern_2 : decode cX0_concern 2 = .ok (.putfield 15, 3) := by decide +kernel
theorem dX0_concern_5 : decode cX0_concern 5 = .ok (.aload_n 0, 1) := by decide +kernel
theorem dX0_concern_6 : decode cX0_concern 6 = .ok (.iload_n 2, 1) := by decide +kernel
theorem dX0_concern_7 : decode cX0_concern 7 = .ok (.putfield 21, 3) := by decide +kernel
theorem dX0_concern_10 : decode cX0_concern 10 = .ok (.aload_n 0, 1) := by decide +kernel
theorem dX0_concern_11 : decode cX0_concern 11 = .ok (.iload_n 3, 1) := by decide +kernel
theorem dX0_concern_12 : decode cX0_concern 12 = .ok (.putfield 24, 3) := by decide +kernel
theorem dX0_concern_15 : decode cX0_concern 15 = .ok (.aload_n 0, 1) := by decide +kernel
theorem dX0_concern_16 : decode cX0_concern 16 = .ok (.iload 4, 2) := by decide +kernel
theorem dX0_concern_18 : decode cX0_concern 18 = .ok (.putfield 27, 3) := by decide +kernel
theorem dX0_concern_21 : decode cX0_concern 21 = .ok (.return_, 1) := by decide +kernel
theorem dX0_cutIn_0 : decode cX0_cutIn 0 = .ok (.aload_n 0, 1) := by decide +kernel
theorem dX0_cutIn_1 : decode cX0_cutIn 1 = .ok (.iload_n 1, 1) := by decide +kernel
theorem dX0_cutIn_2 : decode cX0_cutIn 2 = .ok (.putfield 30, 3) := by decide +kernel
theorem dX0_cutIn_5 : decode cX0_cutIn 5 = .ok (.aload_n 0, 1) := by decide +kernel
theorem dX0_cutIn_6 : decode cX0_cutIn 6 = .ok (.iload_n 2, 1) := by decide +kernel
theorem dX0_cutIn_7 : decode cX0_cutIn 7 = .ok (.putfield 33, 3) := by decide +kernel
theorem dX0_cutIn_10 : decode cX0_cutIn 10 = .ok (.aload_n 0, 1) := by decide +kernel
theorem dX0_cutIn_11 : decode cX0_cutIn 11 = .ok (.iconst 0, 1) := by decide +kernel
theorem dX0_cutIn_12 : decode cX0_cutIn 12 = .ok (.putfield 36, 3) := by decide +kernel
theorem dX0_cutIn_15 : decode cX0_cutIn 15 = .ok (.aload_n 0, 1) := by decide +kernel
theorem dX0_cutIn_16 : decode cX0_cutIn 16 = .ok (.iconst 0, 1) := by decide +kernel
theorem dX0_cutIn_17 : decode cX0_cutIn 17 = .ok (.putfield 40, 3) := by decide +kernel
theorem dX0_cutIn_20 : decode cX0_cutIn 20 = .ok (.return_, 1) := by decide +kernel
theorem dX0_keepBlock_0 : decode cX0_keepBlock 0 = .ok (.aload_n 0, 1) := by decide +kernel
theorem dX0_keepBlock_1 : decode cX0_keepBlock 1 = .ok (.iconst 1, 1) := by decide +kernel
theorem dX0_keepBlock_2 : decode cX0_keepBlock 2 = .ok (.putfield 36, 3) := by decide +kernel
theorem dX0_keepBlock_5 : decode cX0_keepBlock 5 = .ok (.aload_n 0, 1) := by decide +kernel
theorem dX0_keepBlock_6 : decode cX0_keepBlock 6 = .ok (.iload_n 1, 1) := by decide +kernel
theorem dX0_keepBlock_7 : decode cX0_keepBlock 7 = .ok (.putfield 40, 3) := by decide +kernel
theorem dX0_keepBlock_10 : decode cX0_keepBlock 10 = .ok (.return_, 1) := by decide +kernel
theorem dX0_copyFrom_0 : decode cX0_copyFrom 0 = .ok (.aload_n 0, 1) := by decide +kernel
theorem dX0_copyFrom_1 : decode cX0_copyFrom 1 = .ok (.aload_n 1, 1) := by decide +kernel
theorem dX0_copyFrom_2 : decode cX0_copyFrom 2 = .ok (.getfield 15, 3) := by decide +kernel
theorem dX0_copyFrom_5 : decode cX0_copyFrom 5 = .ok (.aload_n 1, 1) := by decide +kernel
theorem dX0_copyFrom_6 : decode cX0_copyFrom 6 = .ok (.getfield 21, 3) := by decide +kernel
theorem dX0_copyFrom_9 : decode cX0_copyFrom 9 = .ok (.aload_n 1, 1) := by decide +kernel
theorem dX0_copyFrom_10 : decode cX0_copyFrom 10 = .ok (.getfield 24, 3) := by decide +kernel
theorem dX0_copyFrom_13 : decode cX0_copyFrom 13 = .ok (.aload_n 1, 1) := by decide +kernel
theorem dX0_copyFrom_14 : decode cX0_copyFrom 14 = .ok (.getfield 27, 3) := by decide +kernel
theorem dX0_copyFrom_17 : decode cX0_copyFrom 17 = .ok (.invokevirtual 43, 3) := by decide +kernel
theorem dX0_copyFrom_20 : decode cX0_copyFrom 20 = .ok (.aload_n 0, 1) := by decide +kernel
theorem dX0_copyFrom_21 : decode cX0_copyFrom 21 = .ok (.aload_n 1, 1) := by decide +kernel
theorem dX0_copyFrom_22 : decode cX0_copyFrom 22 = .ok (.getfield 30, 3) := by decide +kernel
theorem dX0_copyFrom_25 : decode cX0_copyFrom 25 = .ok (.aload_n 1, 1) := by decide +kernel
theorem dX0_copyFrom_26 : decode cX0_copyFrom 26 = .ok (.getfield 33, 3) := by decide +kernel
theorem dX0_copyFrom_29 : decode cX0_copyFrom 29 = .ok (.invokevirtual 47, 3) := by decide +kernel
theorem dX0_copyFrom_32 : decode cX0_copyFrom 32 = .ok (.aload_n 0, 1) := by decide +kernel
theorem dX0_copyFrom_33 : decode cX0_copyFrom 33 = .ok (.aload_n 1, 1) := by decide +kernel
theorem dX0_copyFrom_34 : decode cX0_copyFrom 34 = .ok (.getfield 36, 3) := by decide +kernel
theorem dX0_copyFrom_37 : decode cX0_copyFrom 37 = .ok (.putfield 36, 3) := by decide +kernel
theorem dX0_copyFrom_40 : decode cX0_copyFrom 40 = .ok (.aload_n 0, 1) := by decide +kernel
theorem dX0_copyFrom_41 : decode cX0_copyFrom 41 = .ok (.aload_n 1, 1) := by decide +kernel
theorem dX0_copyFrom_42 : decode cX0_copyFrom 42 = .ok (.getfield 40, 3) := by decide +kernel
theorem dX0_copyFrom_45 : decode cX0_copyFrom 45 = .ok (.putfield 40, 3) := by decide +kernel
theorem dX0_copyFrom_48 : decode cX0_copyFrom 48 = .ok (.return_, 1) := by decide +kernel
theorem dX0_isThere_0 : decode cX0_isThere 0 = .ok (.aload_n 0, 1) := by decide +kernel
theorem dX0_isThere_1 : decode cX0_isThere 1 = .ok (.getfield 33, 3) := by decide +kernel
theorem dX0_isThere_4 : decode cX0_isThere 4 = .ok (.ifCond .le 14, 3) := by decide +kernel
theorem dX0_isThere_7 : decode cX0_isThere 7 = .ok (.aload_n 0, 1) := by decide +kernel
theorem dX0_isThere_8 : decode cX0_isThere 8 = .ok (.getfield 36, 3) := by decide +kernel
theorem dX0_isThere_11 : decode cX0_isThere 11 = .ok (.ifCond .ne 7, 3) := by decide +kernel
theorem dX0_isThere_14 : decode cX0_isThere 14 = .ok (.iconst 1, 1) := by decide +kernel
theorem dX0_isThere_15 : decode cX0_isThere 15 = .ok (.goto 4, 3) := by decide +kernel
theorem dX0_isThere_18 : decode cX0_isThere 18 = .ok (.iconst 0, 1) := by decide +kernel
theorem dX0_isThere_19 : decode cX0_isThere 19 = .ok (.ireturn, 1) := by decide +kernel
theorem dX0_worthOn_0 : decode cX0_worthOn 0 = .ok (.aload_n 0, 1) := by decide +kernel
theorem dX0_worthOn_1 : decode cX0_worthOn 1 = .ok (.getfield 33, 3) := by decide +kernel
theorem dX0_worthOn_4 : decode cX0_worthOn 4 = .ok (.ifCond .ne 5, 3) := by decide +kernel
theorem dX0_worthOn_7 : decode cX0_worthOn 7 = .ok (.iconst 0, 1) := by decide +kernel
theorem dX0_worthOn_8 : decode cX0_worthOn 8 = .ok (.ireturn, 1) := by decide +kernel
theorem dX0_worthOn_9 : decode cX0_worthOn 9 = .ok (.aload_n 0, 1) := by decide +kernel
theorem dX0_worthOn_10 : decode cX0_worthOn 10 = .ok (.getfield 36, 3) := by decide +kernel
theorem dX0_worthOn_13 : decode cX0_worthOn 13 = .ok (.ifCond .eq 10, 3) := by decide +kernel
theorem dX0_worthOn_16 : decode cX0_worthOn 16 = .ok (.aload_n 0, 1) := by decide +kernel
theorem dX0_worthOn_17 : decode cX0_worthOn 17 = .ok (.getfield 40, 3) := by decide +kernel
theorem dX0_worthOn_20 : decode cX0_worthOn 20 = .ok (.goto 4, 3) := by decide +kernel
theorem dX0_worthOn_23 : decode cX0_worthOn 23 = .ok (.iload_n 1, 1) := by decide +kernel
theorem dX0_worthOn_24 : decode cX0_worthOn 24 = .ok (.istore_n 2, 1) := by decide +kernel
theorem dX0_worthOn_25 : decode cX0_worthOn 25 = .ok (.aload_n 0, 1) := by decide +kernel
theorem dX0_worthOn_26 : decode cX0_worthOn 26 = .ok (.getfield 15, 3) := by decide +kernel
theorem dX0_worthOn_29 : decode cX0_worthOn 29 = .ok (.iconst 2, 1) := by decide +kernel
theorem dX0_worthOn_30 : decode cX0_worthOn 30 = .ok (.invokestatic 51, 3) := by decide +kernel
theorem dX0_worthOn_33 : decode cX0_worthOn 33 = .ok (.ifCond .eq 15, 3) := by decide +kernel
theorem dX0_worthOn_36 : decode cX0_worthOn 36 = .ok (.aload_n 0, 1) := by decide +kernel
theorem dX0_worthOn_37 : decode cX0_worthOn 37 = .ok (.getfield 30, 3) := by decide +kernel
theorem dX0_worthOn_40 : decode cX0_worthOn 40 = .ok (.iload_n 2, 1) := by decide +kernel
theorem dX0_worthOn_41 : decode cX0_worthOn 41 = .ok (.bipush 10, 2) := by decide +kernel
theorem dX0_worthOn_43 : decode cX0_worthOn 43 = .ok (.idiv, 1) := by decide +kernel
theorem dX0_worthOn_44 : decode cX0_worthOn 44 = .ok (.iadd, 1) := by decide +kernel
theorem dX0_worthOn_45 : decode cX0_worthOn 45 = .ok (.goto 7, 3) := by decide +kernel
theorem dX0_worthOn_48 : decode cX0_worthOn 48 = .ok (.aload_n 0, 1) := by decide +kernel
theorem dX0_worthOn_49 : decode cX0_worthOn 49 = .ok (.getfield 30, 3) := by decide +kernel
theorem dX0_worthOn_52 : decode cX0_worthOn 52 = .ok (.ireturn, 1) := by decide +kernel
