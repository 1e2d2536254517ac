theorem dX4_init_0 : decode cX4_init 0 = .ok (.aload_n 0, 1) := by decide +kernel
theorem dX4_init_1 : decode cX4_init 1 = .ok (.invokespecial 3, 3) := by decide +kernel
theorem dX4_init_4 : decode cX4_init 4 = .ok (.aload_n 0, 1) := by decide +kernel
theorem dX4_init_5 : decode cX4_init 5 = .ok (.iconst 1, 1) := by decide +kernel
theorem dX4_init_6 : decode cX4_init 6 = .ok (.putfield 9, 3) := by decide +kernel
theorem dX4_init_9 : decode cX4_init 9 = .ok (.aload_n 0, 1) := by decide +kernel
theorem dX4_init_10 : decode cX4_init 10 = .ok (.iconst 1, 1) := by decide +kernel
theorem dX4_init_11 : decode cX4_init 11 = .ok (.putfield 15, 3) := by decide +kernel
theorem dX4_init_14 : decode cX4_init 14 = .ok (.aload_n 0, 1) := by decide +kernel
theorem dX4_init_15 : decode cX4_init 15 = .ok (.bipush 100, 2) := by decide +kernel
theorem dX4_init_17 : decode cX4_init 17 = .ok (.putfield 18, 3) := by decide +kernel
theorem dX4_init_20 : decode cX4_init 20 = .ok (.aload_n 0, 1) := by decide +kernel
theorem dX4_init_21 : decode cX4_init 21 = .ok (.new 21, 3) := by decide +kernel
theorem dX4_init_24 : decode cX4_init 24 = .ok (.dup, 1) := by decide +kernel
theorem dX4_init_25 : decode cX4_init 25 = .ok (.iconst 1, 1) := by decide +kernel
theorem dX4_init_26 : decode cX4_init 26 = .ok (.invokespecial 23, 3) := by decide +kernel
theorem dX4_init_29 : decode cX4_init 29 = .ok (.putfield 26, 3) := by decide +kernel
theorem dX4_init_32 : decode cX4_init 32 = .ok (.aload_n 0, 1) := by decide +kernel
theorem dX4_init_33 : decode cX4_init 33 = .ok (.getfield 26, 3) := by decide +kernel
theorem dX4_init_36 : decode cX4_init 36 = .ok (.iconst (-1), 1) := by decide +kernel
theorem dX4_init_37 : decode cX4_init 37 = .ok (.invokevirtual 30, 3) := by decide +kernel
theorem dX4_init_40 : decode cX4_init 40 = .ok (.aload_n 0, 1) := by decide +kernel
theorem dX4_init_41 : decode cX4_init 41 = .ok (.bipush 8, 2) := by decide +kernel
theorem dX4_init_43 : decode cX4_init 43 = .ok (.newarray .int, 2) := by decide +kernel
theorem dX4_init_45 : decode cX4_init 45 = .ok (.putfield 33, 3) := by decide +kernel
theorem dX4_init_48 : decode cX4_init 48 = .ok (.aload_n 0, 1) := by decide +kernel
theorem dX4_init_49 : decode cX4_init 49 = .ok (.bipush 8, 2) := by decide +kernel
theorem dX4_init_51 : decode cX4_init 51 = .ok (.newarray .int, 2) := by decide +kernel
theorem dX4_init_53 : decode cX4_init 53 = .ok (.putfield 37, 3) := by decide +kernel
theorem dX4_init_56 : decode cX4_init 56 = .ok (.aload_n 0, 1) := by decide +kernel
theorem dX4_init_57 : decode cX4_init 57 = .ok (.bipush 8, 2) := by decide +kernel
theorem dX4_init_59 : decode cX4_init 59 = .ok (.newarray .int, 2) := by decide +kernel
theorem dX4_init_61 : decode cX4_init 61 = .ok (.putfield 40, 3) := by decide +kernel
theorem dX4_init_64 : decode cX4_init 64 = .ok (.aload_n 0, 1) := by decide +kernel
theorem dX4_init_65 : decode cX4_init 65 = .ok (.bipush 8, 2) := by decide +kernel
theorem dX4_init_67 : decode cX4_init 67 = .ok (.newarray .int, 2) := by decide +kernel
theorem dX4_init_69 : decode cX4_init 69 = .ok (.putfield 43, 3) := by decide +kernel
theorem dX4_init_72 : decode cX4_init 72 = .ok (.aload_n 0, 1) := by decide +kernel
theorem dX4_init_73 : decode cX4_init 73 = .ok (.bipush 8, 2) := by decide +kernel
theorem dX4_init_75 : decode cX4_init 75 = .ok (.newarray .int, 2) := by decide +kernel
theorem dX4_init_77 : decode cX4_init 77 = .ok (.putfield 46, 3) := by decide +kernel
theorem dX4_init_80 : decode cX4_init 80 = .ok (.aload_n 0, 1) := by decide +kernel
theorem dX4_init_81 : decode cX4_init 81 = .ok (.bipush 8, 2) := by decide +kernel
theorem dX4_init_83 : decode cX4_init 83 = .ok (.newarray .int, 2) := by decide +kernel
theorem dX4_init_85 : decode cX4_init 85 = .ok (.putfield 49, 3) := by decide +kernel
theorem dX4_init_88 : decode cX4_init 88 = .ok (.return_, 1) := by decide +kernel
theorem dX4_addReason_0 : decode cX4_addReason 0 = .ok (.aload_n 0, 1) := by decide +kernel
theorem dX4_addReason_1 : decode cX4_addReason 1 = .ok (.getfield 52, 3) := by decide +kernel
theorem dX4_addReason_4 : decode cX4_addReason 4 = .ok (.bipush 8, 2) := by decide +kernel
theorem dX4_addReason_6 : decode cX4_addReason 6 = .ok (.if_icmp .ge 76, 3) := by decide +kernel
theorem dX4_addReason_9 : decode cX4_addReason 9 = .ok (.aload_n 0, 1) := by decide +kernel
theorem dX4_addReason_10 : decode cX4_addReason 10 = .ok (.getfield 33, 3) := by decide +kernel
theorem dX4_addReason_13 : decode cX4_addReason 13 = .ok (.aload_n 0, 1) := by decide +kernel
theorem dX4_addReason_14 : decode cX4_addReason 14 = .ok (.getfield 52, 3) := by decide +kernel
theorem dX4_addReason_17 : decode cX4_addReason 17 = .ok (.iload_n 1, 1) := by decide +kernel
theorem dX4_addReason_18 : decode cX4_addReason 18 = .ok (.iastore, 1) := by decide +kernel
theorem dX4_addReason_19 : decode cX4_addReason 19 = .ok (.aload_n 0, 1) := by decide +kernel
theorem dX4_addReason_20 : decode cX4_addReason 20 = .ok (.getfield 37, 3) := by decide +kernel
theorem dX4_addReason_23 : decode cX4_addReason 23 = .ok (.aload_n 0, 1) := by decide +kernel
theorem dX4_addReason_24 : decode cX4_addReason 24 = .ok (.getfield 52, 3) := by decide +kernel
theorem dX4_addReason_27 : decode cX4_addReason 27 = .ok (.iload_n 2, 1) := by decide +kernel
theorem dX4_addReason_28 : decode cX4_addReason 28 = .ok (.iastore, 1) := by decide +kernel
theorem dX4_addReason_29 : decode cX4_addReason 29 = .ok (.aload_n 0, 1) := by decide +kernel
theorem dX4_addReason_30 : decode cX4_addReason 30 = .ok (.getfield 40, 3) := by decide +kernel
theorem dX4_addReason_33 : decode cX4_addReason 33 = .ok (.aload_n 0, 1) := by decide +kernel
theorem dX4_addReason_34 : decode cX4_addReason 34 = .ok (.getfield 52, 3) := by decide +kernel
theorem dX4_addReason_37 : decode cX4_addReason 37 = .ok (.iload_n 3, 1) := by decide +kernel
theorem dX4_addReason_38 : decode cX4_addReason 38 = .ok (.iastore, 1) := by decide +kernel
theorem dX4_addReason_39 : decode cX4_addReason 39 = .ok (.aload_n 0, 1) := by decide +kernel
theorem dX4_addReason_40 : decode cX4_addReason 40 = .ok (.getfield 43, 3) := by decide +kernel
theorem dX4_addReason_43 : decode cX4_addReason 43 = .ok (.aload_n 0, 1) := by decide +kernel
theorem dX4_addReason_44 : decode cX4_addReason 44 = .ok (.getfield 52, 3) := by decide +kernel
theorem dX4_addReason_47 : decode cX4_addReason 47 = .ok (.iload 4, 2) := by decide +kernel
theorem dX4_addReason_49 : decode cX4_addReason 49 = .ok (.iastore, 1) := by decide +kernel
theorem dX4_addReason_50 : decode cX4_addReason 50 = .ok (.aload_n 0, 1) := by decide +kernel
theorem dX4_addReason_51 : decode cX4_addReason 51 = .ok (.getfield 46, 3) := by decide +kernel
theorem dX4_addReason_54 : decode cX4_addReason 54 = .ok (.aload_n 0, 1) := by decide +kernel
theorem dX4_addReason_55 : decode cX4_addReason 55 = .ok (.getfield 52, 3) := by decide +kernel
theorem dX4_addReason_58 : decode cX4_addReason 58 = .ok (.iload 5, 2) := by decide +kernel
theorem dX4_addReason_60 : decode cX4_addReason 60 = .ok (.iastore, 1) := by decide +kernel
theorem dX4_addReason_61 : decode cX4_addReason 61 = .ok (.aload_n 0, 1) := by decide +kernel
theorem dX4_addReason_62 : decode cX4_addReason 62 = .ok (.getfield 49, 3) := by decide +kernel
theorem dX4_addReason_65 : decode cX4_addReason 65 = .ok (.aload_n 0, 1) := by decide +kernel
theorem dX4_addReason_66 : decode cX4_addReason 66 = .ok (.getfield 52, 3) := by decide +kernel
theorem dX4_addReason_69 : decode cX4_addReason 69 = .ok (.iload 6, 2) := by decide +kernel
theorem dX4_addReason_71 : decode cX4_addReason 71 = .ok (.iastore, 1) := by decide +kernel
theorem dX4_addReason_72 : decode cX4_addReason 72 = .ok (.aload_n 0, 1) := by decide +kernel
theorem dX4_addReason_73 : decode cX4_addReason 73 = .ok (.dup, 1) := by decide +kernel
theorem dX4_addReason_74 : decode cX4_addReason 74 = .ok (.getfield 52, 3) := by decide +kernel
theorem dX4_addReason_77 : decode cX4_addReason 77 = .ok (.iconst 1, 1) := by decide +kernel
theorem dX4_addReason_78 : decode cX4_addReason 78 = .ok (.iadd, 1) := by decide +kernel
theorem dX4_addReason_79 : decode cX4_addReason 79 = .ok (.putfield 52, 3) := by decide +kernel
theorem dX4_addReason_82 : decode cX4_addReason 82 = .ok (.return_, 1) := by decide +kernel
theorem dX4_reasonWithCode_0 : decode cX4_reasonWithCode 0 = .ok (.iconst 0, 1) := by decide +kernel
theorem dX4_reasonWithCode_1 : decode cX4_reasonWithCode 1 = .ok (.istore_n 2, 1) := by decide +kernel
theorem dX4_reasonWithCode_2 : decode cX4_reasonWithCode 2 = .ok (.iload_n 2, 1) := by decide +kernel
theorem dX4_reasonWithCode_3 : decode cX4_reasonWithCode 3 = .ok (.aload_n 0, 1) := by decide +kernel
theorem dX4_reasonWithCode_4 : decode cX4_reasonWithCode 4 = .ok (.getfield 52, 3) := by decide +kernel
theorem dX4_reasonWithCode_7 : decode cX4_reasonWithCode 7 = .ok (.if_icmp .ge 21, 3) := by decide +kernel
theorem dX4_reasonWithCode_10 : decode cX4_reasonWithCode 10 = .ok (.aload_n 0, 1) := by decide +kernel
theorem dX4_reasonWithCode_11 : decode cX4_reasonWithCode 11 = .ok (.getfield 33, 3) := by decide +kernel
theorem dX4_reasonWithCode_14 : decode cX4_reasonWithCode 14 = .ok (.iload_n 2, 1) := by decide +kernel
theorem dX4_reasonWithCode_15 : decode cX4_reasonWithCode 15 = .ok (.iaload, 1) := by decide +kernel
theorem dX4_reasonWithCode_16 : decode cX4_reasonWithCode 16 = .ok (.iload_n 1, 1) := by decide +kernel
theorem dX4_reasonWithCode_17 : decode cX4_reasonWithCode 17 = .ok (.if_icmp .ne 5, 3) := by decide +kernel
theorem dX4_reasonWithCode_20 : decode cX4_reasonWithCode 20 = .ok (.iload_n 2, 1) := by decide +kernel
theorem dX4_reasonWithCode_21 : decode cX4_reasonWithCode 21 = .ok (.ireturn, 1) := by decide +kernel
theorem dX4_reasonWithCode_22 : decode cX4_reasonWithCode 22 = .ok (.iinc 2 1, 3) := by decide +kernel
theorem dX4_reasonWithCode_25 : decode cX4_reasonWithCode 25 = .ok (.goto (-23), 3) := by decide +kernel
theorem dX4_reasonWithCode_28 : decode cX4_reasonWithCode 28 = .ok (.iconst (-1), 1) := by decide +kernel
theorem dX4_reasonWithCode_29 : decode cX4_reasonWithCode 29 = .ok (.ireturn, 1) := by decide +kernel
