theorem dX2_init_0 : decode cX2_init 0 = .ok (.aload_n 0, 1) := by decide +kernel
theorem dX2_init_1 : decode cX2_init 1 = .ok (.invokespecial 5, 3) := by decide +kernel
theorem dX2_init_4 : decode cX2_init 4 = .ok (.aload_n 0, 1) := by decide +kernel
theorem dX2_init_5 : decode cX2_init 5 = .ok (.bipush 9, 2) := by decide +kernel
theorem dX2_init_7 : decode cX2_init 7 = .ok (.anewarray 11, 3) := by decide +kernel
theorem dX2_init_10 : decode cX2_init 10 = .ok (.putfield 13, 3) := by decide +kernel
theorem dX2_init_13 : decode cX2_init 13 = .ok (.iconst 0, 1) := by decide +kernel
theorem dX2_init_14 : decode cX2_init 14 = .ok (.istore_n 2, 1) := by decide +kernel
theorem dX2_init_15 : decode cX2_init 15 = .ok (.iload_n 2, 1) := by decide +kernel
theorem dX2_init_16 : decode cX2_init 16 = .ok (.bipush 9, 2) := by decide +kernel
theorem dX2_init_18 : decode cX2_init 18 = .ok (.if_icmp .ge 23, 3) := by decide +kernel
theorem dX2_init_21 : decode cX2_init 21 = .ok (.aload_n 0, 1) := by decide +kernel
theorem dX2_init_22 : decode cX2_init 22 = .ok (.getfield 13, 3) := by decide +kernel
theorem dX2_init_25 : decode cX2_init 25 = .ok (.iload_n 2, 1) := by decide +kernel
theorem dX2_init_26 : decode cX2_init 26 = .ok (.new 11, 3) := by decide +kernel
theorem dX2_init_29 : decode cX2_init 29 = .ok (.dup, 1) := by decide +kernel
theorem dX2_init_30 : decode cX2_init 30 = .ok (.aload_n 1, 1) := by decide +kernel
theorem dX2_init_31 : decode cX2_init 31 = .ok (.invokespecial 17, 3) := by decide +kernel
theorem dX2_init_34 : decode cX2_init 34 = .ok (.aastore, 1) := by decide +kernel
theorem dX2_init_35 : decode cX2_init 35 = .ok (.iinc 2 1, 3) := by decide +kernel
theorem dX2_init_38 : decode cX2_init 38 = .ok (.goto (-23), 3) := by decide +kernel
theorem dX2_init_41 : decode cX2_init 41 = .ok (.return_, 1) := by decide +kernel
theorem dX2_present_0 : decode cX2_present 0 = .ok (.aload_n 0, 1) := by decide +kernel
theorem dX2_present_1 : decode cX2_present 1 = .ok (.getfield 13, 3) := by decide +kernel
theorem dX2_present_4 : decode cX2_present 4 = .ok (.aload_n 0, 1) := by decide +kernel
theorem dX2_present_5 : decode cX2_present 5 = .ok (.getfield 20, 3) := by decide +kernel
theorem dX2_present_8 : decode cX2_present 8 = .ok (.aaload, 1) := by decide +kernel
theorem dX2_present_9 : decode cX2_present 9 = .ok (.areturn, 1) := by decide +kernel
theorem dX2_beginChange_0 : decode cX2_beginChange 0 = .ok (.aload_n 0, 1) := by decide +kernel
theorem dX2_beginChange_1 : decode cX2_beginChange 1 = .ok (.getfield 13, 3) := by decide +kernel
theorem dX2_beginChange_4 : decode cX2_beginChange 4 = .ok (.aload_n 0, 1) := by decide +kernel
theorem dX2_beginChange_5 : decode cX2_beginChange 5 = .ok (.getfield 20, 3) := by decide +kernel
theorem dX2_beginChange_8 : decode cX2_beginChange 8 = .ok (.aaload, 1) := by decide +kernel
theorem dX2_beginChange_9 : decode cX2_beginChange 9 = .ok (.astore_n 1, 1) := by decide +kernel
theorem dX2_beginChange_10 : decode cX2_beginChange 10 = .ok (.aload_n 0, 1) := by decide +kernel
theorem dX2_beginChange_11 : decode cX2_beginChange 11 = .ok (.aload_n 0, 1) := by decide +kernel
theorem dX2_beginChange_12 : decode cX2_beginChange 12 = .ok (.getfield 20, 3) := by decide +kernel
theorem dX2_beginChange_15 : decode cX2_beginChange 15 = .ok (.iconst 1, 1) := by decide +kernel
theorem dX2_beginChange_16 : decode cX2_beginChange 16 = .ok (.iadd, 1) := by decide +kernel
theorem dX2_beginChange_17 : decode cX2_beginChange 17 = .ok (.bipush 9, 2) := by decide +kernel
theorem dX2_beginChange_19 : decode cX2_beginChange 19 = .ok (.irem, 1) := by decide +kernel
theorem dX2_beginChange_20 : decode cX2_beginChange 20 = .ok (.putfield 20, 3) := by decide +kernel
theorem dX2_beginChange_23 : decode cX2_beginChange 23 = .ok (.aload_n 0, 1) := by decide +kernel
theorem dX2_beginChange_24 : decode cX2_beginChange 24 = .ok (.getfield 13, 3) := by decide +kernel
theorem dX2_beginChange_27 : decode cX2_beginChange 27 = .ok (.aload_n 0, 1) := by decide +kernel
theorem dX2_beginChange_28 : decode cX2_beginChange 28 = .ok (.getfield 20, 3) := by decide +kernel
theorem dX2_beginChange_31 : decode cX2_beginChange 31 = .ok (.aaload, 1) := by decide +kernel
theorem dX2_beginChange_32 : decode cX2_beginChange 32 = .ok (.aload_n 1, 1) := by decide +kernel
theorem dX2_beginChange_33 : decode cX2_beginChange 33 = .ok (.invokevirtual 24, 3) := by decide +kernel
theorem dX2_beginChange_36 : decode cX2_beginChange 36 = .ok (.aload_n 0, 1) := by decide +kernel
theorem dX2_beginChange_37 : decode cX2_beginChange 37 = .ok (.aload_n 0, 1) := by decide +kernel
theorem dX2_beginChange_38 : decode cX2_beginChange 38 = .ok (.getfield 28, 3) := by decide +kernel
theorem dX2_beginChange_41 : decode cX2_beginChange 41 = .ok (.iconst 1, 1) := by decide +kernel
theorem dX2_beginChange_42 : decode cX2_beginChange 42 = .ok (.iadd, 1) := by decide +kernel
theorem dX2_beginChange_43 : decode cX2_beginChange 43 = .ok (.bipush 8, 2) := by decide +kernel
theorem dX2_beginChange_45 : decode cX2_beginChange 45 = .ok (.invokestatic 31, 3) := by decide +kernel
theorem dX2_beginChange_48 : decode cX2_beginChange 48 = .ok (.putfield 28, 3) := by decide +kernel
theorem dX2_beginChange_51 : decode cX2_beginChange 51 = .ok (.aload_n 0, 1) := by decide +kernel
theorem dX2_beginChange_52 : decode cX2_beginChange 52 = .ok (.getfield 13, 3) := by decide +kernel
theorem dX2_beginChange_55 : decode cX2_beginChange 55 = .ok (.aload_n 0, 1) := by decide +kernel
theorem dX2_beginChange_56 : decode cX2_beginChange 56 = .ok (.getfield 20, 3) := by decide +kernel
theorem dX2_beginChange_59 : decode cX2_beginChange 59 = .ok (.aaload, 1) := by decide +kernel
theorem dX2_beginChange_60 : decode cX2_beginChange 60 = .ok (.areturn, 1) := by decide +kernel
theorem dX2_stepBack_0 : decode cX2_stepBack 0 = .ok (.aload_n 0, 1) := by decide +kernel
theorem dX2_stepBack_1 : decode cX2_stepBack 1 = .ok (.getfield 28, 3) := by decide +kernel
theorem dX2_stepBack_4 : decode cX2_stepBack 4 = .ok (.ifCond .ne 5, 3) := by decide +kernel
theorem dX2_stepBack_7 : decode cX2_stepBack 7 = .ok (.iconst (-1), 1) := by decide +kernel
theorem dX2_stepBack_8 : decode cX2_stepBack 8 = .ok (.ireturn, 1) := by decide +kernel
theorem dX2_stepBack_9 : decode cX2_stepBack 9 = .ok (.aload_n 0, 1) := by decide +kernel
theorem dX2_stepBack_10 : decode cX2_stepBack 10 = .ok (.aload_n 0, 1) := by decide +kernel
theorem dX2_stepBack_11 : decode cX2_stepBack 11 = .ok (.getfield 20, 3) := by decide +kernel
theorem dX2_stepBack_14 : decode cX2_stepBack 14 = .ok (.bipush 9, 2) := by decide +kernel
theorem dX2_stepBack_16 : decode cX2_stepBack 16 = .ok (.iadd, 1) := by decide +kernel
theorem dX2_stepBack_17 : decode cX2_stepBack 17 = .ok (.iconst 1, 1) := by decide +kernel
theorem dX2_stepBack_18 : decode cX2_stepBack 18 = .ok (.isub, 1) := by decide +kernel
theorem dX2_stepBack_19 : decode cX2_stepBack 19 = .ok (.bipush 9, 2) := by decide +kernel
theorem dX2_stepBack_21 : decode cX2_stepBack 21 = .ok (.irem, 1) := by decide +kernel
theorem dX2_stepBack_22 : decode cX2_stepBack 22 = .ok (.putfield 20, 3) := by decide +kernel
theorem dX2_stepBack_25 : decode cX2_stepBack 25 = .ok (.aload_n 0, 1) := by decide +kernel
theorem dX2_stepBack_26 : decode cX2_stepBack 26 = .ok (.dup, 1) := by decide +kernel
theorem dX2_stepBack_27 : decode cX2_stepBack 27 = .ok (.getfield 28, 3) := by decide +kernel
theorem dX2_stepBack_30 : decode cX2_stepBack 30 = .ok (.iconst 1, 1) := by decide +kernel
theorem dX2_stepBack_31 : decode cX2_stepBack 31 = .ok (.isub, 1) := by decide +kernel
theorem dX2_stepBack_32 : decode cX2_stepBack 32 = .ok (.putfield 28, 3) := by decide +kernel
theorem dX2_stepBack_35 : decode cX2_stepBack 35 = .ok (.aload_n 0, 1) := by decide +kernel
theorem dX2_stepBack_36 : decode cX2_stepBack 36 = .ok (.getfield 28, 3) := by decide +kernel
theorem dX2_stepBack_39 : decode cX2_stepBack 39 = .ok (.ireturn, 1) := by decide +kernel
