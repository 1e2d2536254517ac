theorem dX5_init_0 : decode cX5_init 0 = .ok (.aload_n 0, 1) := by decide +kernel
theorem dX5_init_1 : decode cX5_init 1 = .ok (.invokespecial 3, 3) := by decide +kernel
theorem dX5_init_4 : decode cX5_init 4 = .ok (.aload_n 0, 1) := by decide +kernel
theorem dX5_init_5 : decode cX5_init 5 = .ok (.aload_n 1, 1) := by decide +kernel
theorem dX5_init_6 : decode cX5_init 6 = .ok (.putfield 9, 3) := by decide +kernel
theorem dX5_init_9 : decode cX5_init 9 = .ok (.aload_n 0, 1) := by decide +kernel
theorem dX5_init_10 : decode cX5_init 10 = .ok (.new 15, 3) := by decide +kernel
theorem dX5_init_13 : decode cX5_init 13 = .ok (.dup, 1) := by decide +kernel
theorem dX5_init_14 : decode cX5_init 14 = .ok (.invokespecial 17, 3) := by decide +kernel
theorem dX5_init_17 : decode cX5_init 17 = .ok (.putfield 18, 3) := by decide +kernel
theorem dX5_init_20 : decode cX5_init 20 = .ok (.return_, 1) := by decide +kernel
theorem dX5_readAll_0 : decode cX5_readAll 0 = .ok (.aload_n 0, 1) := by decide +kernel
theorem dX5_readAll_1 : decode cX5_readAll 1 = .ok (.getfield 9, 3) := by decide +kernel
theorem dX5_readAll_4 : decode cX5_readAll 4 = .ok (.invokevirtual 22, 3) := by decide +kernel
theorem dX5_readAll_7 : decode cX5_readAll 7 = .ok (.iconst 0, 1) := by decide +kernel
theorem dX5_readAll_8 : decode cX5_readAll 8 = .ok (.istore_n 1, 1) := by decide +kernel
theorem dX5_readAll_9 : decode cX5_readAll 9 = .ok (.iload_n 1, 1) := by decide +kernel
theorem dX5_readAll_10 : decode cX5_readAll 10 = .ok (.aload_n 0, 1) := by decide +kernel
theorem dX5_readAll_11 : decode cX5_readAll 11 = .ok (.getfield 9, 3) := by decide +kernel
theorem dX5_readAll_14 : decode cX5_readAll 14 = .ok (.getfield 27, 3) := by decide +kernel
theorem dX5_readAll_17 : decode cX5_readAll 17 = .ok (.if_icmp .ge 112, 3) := by decide +kernel
theorem dX5_readAll_20 : decode cX5_readAll 20 = .ok (.aload_n 0, 1) := by decide +kernel
theorem dX5_readAll_21 : decode cX5_readAll 21 = .ok (.invokevirtual 31, 3) := by decide +kernel
theorem dX5_readAll_24 : decode cX5_readAll 24 = .ok (.ifCond .eq 105, 3) := by decide +kernel
theorem dX5_readAll_27 : decode cX5_readAll 27 = .ok (.aload_n 0, 1) := by decide +kernel
theorem dX5_readAll_28 : decode cX5_readAll 28 = .ok (.invokevirtual 35, 3) := by decide +kernel
theorem dX5_readAll_31 : decode cX5_readAll 31 = .ok (.iconst (-1), 1) := by decide +kernel
theorem dX5_readAll_32 : decode cX5_readAll 32 = .ok (.if_icmp .eq 97, 3) := by decide +kernel
theorem dX5_readAll_35 : decode cX5_readAll 35 = .ok (.aload_n 0, 1) := by decide +kernel
theorem dX5_readAll_36 : decode cX5_readAll 36 = .ok (.invokevirtual 35, 3) := by decide +kernel
theorem dX5_readAll_39 : decode cX5_readAll 39 = .ok (.tableswitch 72 257 262 #[37, 44, 72, 51, 58, 65], 37) := by decide +kernel
theorem dX5_readAll_76 : decode cX5_readAll 76 = .ok (.aload_n 0, 1) := by decide +kernel
theorem dX5_readAll_77 : decode cX5_readAll 77 = .ok (.invokevirtual 39, 3) := by decide +kernel
theorem dX5_readAll_80 : decode cX5_readAll 80 = .ok (.goto 37, 3) := by decide +kernel
theorem dX5_readAll_83 : decode cX5_readAll 83 = .ok (.aload_n 0, 1) := by decide +kernel
theorem dX5_readAll_84 : decode cX5_readAll 84 = .ok (.invokevirtual 42, 3) := by decide +kernel
theorem dX5_readAll_87 : decode cX5_readAll 87 = .ok (.goto 30, 3) := by decide +kernel
theorem dX5_readAll_90 : decode cX5_readAll 90 = .ok (.aload_n 0, 1) := by decide +kernel
theorem dX5_readAll_91 : decode cX5_readAll 91 = .ok (.invokevirtual 45, 3) := by decide +kernel
theorem dX5_readAll_94 : decode cX5_readAll 94 = .ok (.goto 23, 3) := by decide +kernel
theorem dX5_readAll_97 : decode cX5_readAll 97 = .ok (.aload_n 0, 1) := by decide +kernel
theorem dX5_readAll_98 : decode cX5_readAll 98 = .ok (.invokevirtual 48, 3) := by decide +kernel
theorem dX5_readAll_101 : decode cX5_readAll 101 = .ok (.goto 16, 3) := by decide +kernel
theorem dX5_readAll_104 : decode cX5_readAll 104 = .ok (.aload_n 0, 1) := by decide +kernel
theorem dX5_readAll_105 : decode cX5_readAll 105 = .ok (.invokevirtual 51, 3) := by decide +kernel
theorem dX5_readAll_108 : decode cX5_readAll 108 = .ok (.goto 9, 3) := by decide +kernel
theorem dX5_readAll_111 : decode cX5_readAll 111 = .ok (.aload_n 0, 1) := by decide +kernel
theorem dX5_readAll_112 : decode cX5_readAll 112 = .ok (.bipush (-2), 2) := by decide +kernel
theorem dX5_readAll_114 : decode cX5_readAll 114 = .ok (.invokevirtual 54, 3) := by decide +kernel
theorem dX5_readAll_117 : decode cX5_readAll 117 = .ok (.aload_n 0, 1) := by decide +kernel
theorem dX5_readAll_118 : decode cX5_readAll 118 = .ok (.bipush 59, 2) := by decide +kernel
theorem dX5_readAll_120 : decode cX5_readAll 120 = .ok (.invokevirtual 58, 3) := by decide +kernel
theorem dX5_readAll_123 : decode cX5_readAll 123 = .ok (.iinc 1 1, 3) := by decide +kernel
theorem dX5_readAll_126 : decode cX5_readAll 126 = .ok (.goto (-117), 3) := by decide +kernel
theorem dX5_readAll_129 : decode cX5_readAll 129 = .ok (.return_, 1) := by decide +kernel
theorem dX5_readParties_0 : decode cX5_readParties 0 = .ok (.aload_n 0, 1) := by decide +kernel
theorem dX5_readParties_1 : decode cX5_readParties 1 = .ok (.aload_n 0, 1) := by decide +kernel
theorem dX5_readParties_2 : decode cX5_readParties 2 = .ok (.getfield 61, 3) := by decide +kernel
theorem dX5_readParties_5 : decode cX5_readParties 5 = .ok (.invokevirtual 65, 3) := by decide +kernel
theorem dX5_readParties_8 : decode cX5_readParties 8 = .ok (.aload_n 0, 1) := by decide +kernel
theorem dX5_readParties_9 : decode cX5_readParties 9 = .ok (.iconst 1, 1) := by decide +kernel
theorem dX5_readParties_10 : decode cX5_readParties 10 = .ok (.putfield 61, 3) := by decide +kernel
theorem dX5_readParties_13 : decode cX5_readParties 13 = .ok (.aload_n 0, 1) := by decide +kernel
theorem dX5_readParties_14 : decode cX5_readParties 14 = .ok (.getfield 18, 3) := by decide +kernel
theorem dX5_readParties_17 : decode cX5_readParties 17 = .ok (.aload_n 0, 1) := by decide +kernel
theorem dX5_readParties_18 : decode cX5_readParties 18 = .ok (.iconst 1, 1) := by decide +kernel
theorem dX5_readParties_19 : decode cX5_readParties 19 = .ok (.iconst 4, 1) := by decide +kernel
theorem dX5_readParties_20 : decode cX5_readParties 20 = .ok (.invokevirtual 69, 3) := by decide +kernel
theorem dX5_readParties_23 : decode cX5_readParties 23 = .ok (.putfield 73, 3) := by decide +kernel
theorem dX5_readParties_26 : decode cX5_readParties 26 = .ok (.aload_n 0, 1) := by decide +kernel
theorem dX5_readParties_27 : decode cX5_readParties 27 = .ok (.getfield 18, 3) := by decide +kernel
theorem dX5_readParties_30 : decode cX5_readParties 30 = .ok (.aload_n 0, 1) := by decide +kernel
theorem dX5_readParties_31 : decode cX5_readParties 31 = .ok (.iconst 1, 1) := by decide +kernel
theorem dX5_readParties_32 : decode cX5_readParties 32 = .ok (.iconst 4, 1) := by decide +kernel
theorem dX5_readParties_33 : decode cX5_readParties 33 = .ok (.invokevirtual 69, 3) := by decide +kernel
theorem dX5_readParties_36 : decode cX5_readParties 36 = .ok (.putfield 76, 3) := by decide +kernel
theorem dX5_readParties_39 : decode cX5_readParties 39 = .ok (.return_, 1) := by decide +kernel
theorem dX5_readReason_0 : decode cX5_readReason 0 = .ok (.aload_n 0, 1) := by decide +kernel
theorem dX5_readReason_1 : decode cX5_readReason 1 = .ok (.getfield 18, 3) := by decide +kernel
theorem dX5_readReason_4 : decode cX5_readReason 4 = .ok (.getfield 79, 3) := by decide +kernel
theorem dX5_readReason_7 : decode cX5_readReason 7 = .ok (.bipush 8, 2) := by decide +kernel
theorem dX5_readReason_9 : decode cX5_readReason 9 = .ok (.if_icmp .lt 10, 3) := by decide +kernel
theorem dX5_readReason_12 : decode cX5_readReason 12 = .ok (.aload_n 0, 1) := by decide +kernel
theorem dX5_readReason_13 : decode cX5_readReason 13 = .ok (.bipush (-4), 2) := by decide +kernel
theorem dX5_readReason_15 : decode cX5_readReason 15 = .ok (.invokevirtual 54, 3) := by decide +kernel
theorem dX5_readReason_18 : decode cX5_readReason 18 = .ok (.return_, 1) := by decide +kernel
theorem dX5_readReason_19 : decode cX5_readReason 19 = .ok (.aload_n 0, 1) := by decide +kernel
theorem dX5_readReason_20 : decode cX5_readReason 20 = .ok (.invokevirtual 82, 3) := by decide +kernel
theorem dX5_readReason_23 : decode cX5_readReason 23 = .ok (.aload_n 0, 1) := by decide +kernel
theorem dX5_readReason_24 : decode cX5_readReason 24 = .ok (.invokevirtual 85, 3) := by decide +kernel
theorem dX5_readReason_27 : decode cX5_readReason 27 = .ok (.istore_n 1, 1) := by decide +kernel
theorem dX5_readReason_28 : decode cX5_readReason 28 = .ok (.aload_n 0, 1) := by decide +kernel
theorem dX5_readReason_29 : decode cX5_readReason 29 = .ok (.iconst 0, 1) := by decide +kernel
theorem dX5_readReason_30 : decode cX5_readReason 30 = .ok (.sipush 200, 3) := by decide +kernel
theorem dX5_readReason_33 : decode cX5_readReason 33 = .ok (.invokevirtual 69, 3) := by decide +kernel
theorem dX5_readReason_36 : decode cX5_readReason 36 = .ok (.istore_n 2, 1) := by decide +kernel
theorem dX5_readReason_37 : decode cX5_readReason 37 = .ok (.aload_n 0, 1) := by decide +kernel
theorem dX5_readReason_38 : decode cX5_readReason 38 = .ok (.iconst 1, 1) := by decide +kernel
theorem dX5_readReason_39 : decode cX5_readReason 39 = .ok (.bipush 60, 2) := by decide +kernel
theorem dX5_readReason_41 : decode cX5_readReason 41 = .ok (.invokevirtual 69, 3) := by decide +kernel
theorem dX5_readReason_44 : decode cX5_readReason 44 = .ok (.istore_n 3, 1) := by decide +kernel
theorem dX5_readReason_45 : decode cX5_readReason 45 = .ok (.aload_n 0, 1) := by decide +kernel
theorem dX5_readReason_46 : decode cX5_readReason 46 = .ok (.iconst 1, 1) := by decide +kernel
theorem dX5_readReason_47 : decode cX5_readReason 47 = .ok (.bipush 60, 2) := by decide +kernel
theorem dX5_readReason_49 : decode cX5_readReason 49 = .ok (.invokevirtual 69, 3) := by decide +kernel
theorem dX5_readReason_52 : decode cX5_readReason 52 = .ok (.istore 4, 2) := by decide +kernel
theorem dX5_readReason_54 : decode cX5_readReason 54 = .ok (.aload_n 0, 1) := by decide +kernel
theorem dX5_readReason_55 : decode cX5_readReason 55 = .ok (.iconst 0, 1) := by decide +kernel
theorem dX5_readReason_56 : decode cX5_readReason 56 = .ok (.sipush 9999, 3) := by decide +kernel
theorem dX5_readReason_59 : decode cX5_readReason 59 = .ok (.invokevirtual 69, 3) := by decide +kernel
theorem dX5_readReason_62 : decode cX5_readReason 62 = .ok (.istore 5, 2) := by decide +kernel
theorem dX5_readReason_64 : decode cX5_readReason 64 = .ok (.iconst 0, 1) := by decide +kernel
theorem dX5_readReason_65 : decode cX5_readReason 65 = .ok (.istore 6, 2) := by decide +kernel
theorem dX5_readReason_67 : decode cX5_readReason 67 = .ok (.aload_n 0, 1) := by decide +kernel
theorem dX5_readReason_68 : decode cX5_readReason 68 = .ok (.invokevirtual 31, 3) := by decide +kernel
theorem dX5_readReason_71 : decode cX5_readReason 71 = .ok (.ifCond .eq 23, 3) := by decide +kernel
theorem dX5_readReason_74 : decode cX5_readReason 74 = .ok (.aload_n 0, 1) := by decide +kernel
theorem dX5_readReason_75 : decode cX5_readReason 75 = .ok (.invokevirtual 35, 3) := by decide +kernel
theorem dX5_readReason_78 : decode cX5_readReason 78 = .ok (.sipush 259, 3) := by decide +kernel
theorem dX5_readReason_81 : decode cX5_readReason 81 = .ok (.if_icmp .ne 13, 3) := by decide +kernel
theorem dX5_readReason_84 : decode cX5_readReason 84 = .ok (.aload_n 0, 1) := by decide +kernel
theorem dX5_readReason_85 : decode cX5_readReason 85 = .ok (.invokevirtual 82, 3) := by decide +kernel
theorem dX5_readReason_88 : decode cX5_readReason 88 = .ok (.aload_n 0, 1) := by decide +kernel
theorem dX5_readReason_89 : decode cX5_readReason 89 = .ok (.invokevirtual 88, 3) := by decide +kernel
theorem dX5_readReason_92 : decode cX5_readReason 92 = .ok (.istore 6, 2) := by decide +kernel
theorem dX5_readReason_94 : decode cX5_readReason 94 = .ok (.aload_n 0, 1) := by decide +kernel
theorem dX5_readReason_95 : decode cX5_readReason 95 = .ok (.getfield 18, 3) := by decide +kernel
theorem dX5_readReason_98 : decode cX5_readReason 98 = .ok (.iload_n 1, 1) := by decide +kernel
theorem dX5_readReason_99 : decode cX5_readReason 99 = .ok (.iload_n 2, 1) := by decide +kernel
theorem dX5_readReason_100 : decode cX5_readReason 100 = .ok (.iload_n 3, 1) := by decide +kernel
theorem dX5_readReason_101 : decode cX5_readReason 101 = .ok (.iload 4, 2) := by decide +kernel
theorem dX5_readReason_103 : decode cX5_readReason 103 = .ok (.iload 5, 2) := by decide +kernel
theorem dX5_readReason_105 : decode cX5_readReason 105 = .ok (.iload 6, 2) := by decide +kernel
theorem dX5_readReason_107 : decode cX5_readReason 107 = .ok (.invokevirtual 91, 3) := by decide +kernel
theorem dX5_readReason_110 : decode cX5_readReason 110 = .ok (.return_, 1) := by decide +kernel
theorem dX5_readFees_0 : decode cX5_readFees 0 = .ok (.aload_n 0, 1) := by decide +kernel
theorem dX5_readFees_1 : decode cX5_readFees 1 = .ok (.aload_n 0, 1) := by decide +kernel
theorem dX5_readFees_2 : decode cX5_readFees 2 = .ok (.getfield 95, 3) := by decide +kernel
theorem dX5_readFees_5 : decode cX5_readFees 5 = .ok (.invokevirtual 65, 3) := by decide +kernel
theorem dX5_readFees_8 : decode cX5_readFees 8 = .ok (.aload_n 0, 1) := by decide +kernel
theorem dX5_readFees_9 : decode cX5_readFees 9 = .ok (.iconst 1, 1) := by decide +kernel
theorem dX5_readFees_10 : decode cX5_readFees 10 = .ok (.putfield 95, 3) := by decide +kernel
theorem dX5_readFees_13 : decode cX5_readFees 13 = .ok (.aload_n 0, 1) := by decide +kernel
theorem dX5_readFees_14 : decode cX5_readFees 14 = .ok (.getfield 18, 3) := by decide +kernel
theorem dX5_readFees_17 : decode cX5_readFees 17 = .ok (.aload_n 0, 1) := by decide +kernel
theorem dX5_readFees_18 : decode cX5_readFees 18 = .ok (.iconst 0, 1) := by decide +kernel
theorem dX5_readFees_19 : decode cX5_readFees 19 = .ok (.sipush 999, 3) := by decide +kernel
theorem dX5_readFees_22 : decode cX5_readFees 22 = .ok (.invokevirtual 69, 3) := by decide +kernel
theorem dX5_readFees_25 : decode cX5_readFees 25 = .ok (.putfield 98, 3) := by decide +kernel
theorem dX5_readFees_28 : decode cX5_readFees 28 = .ok (.aload_n 0, 1) := by decide +kernel
theorem dX5_readFees_29 : decode cX5_readFees 29 = .ok (.getfield 18, 3) := by decide +kernel
theorem dX5_readFees_32 : decode cX5_readFees 32 = .ok (.aload_n 0, 1) := by decide +kernel
theorem dX5_readFees_33 : decode cX5_readFees 33 = .ok (.iconst 0, 1) := by decide +kernel
theorem dX5_readFees_34 : decode cX5_readFees 34 = .ok (.sipush 999, 3) := by decide +kernel
theorem dX5_readFees_37 : decode cX5_readFees 37 = .ok (.invokevirtual 69, 3) := by decide +kernel
theorem dX5_readFees_40 : decode cX5_readFees 40 = .ok (.putfield 101, 3) := by decide +kernel
theorem dX5_readFees_43 : decode cX5_readFees 43 = .ok (.return_, 1) := by decide +kernel
theorem dX5_readScore_0 : decode cX5_readScore 0 = .ok (.aload_n 0, 1) := by decide +kernel
theorem dX5_readScore_1 : decode cX5_readScore 1 = .ok (.aload_n 0, 1) := by decide +kernel
theorem dX5_readScore_2 : decode cX5_readScore 2 = .ok (.getfield 104, 3) := by decide +kernel
theorem dX5_readScore_5 : decode cX5_readScore 5 = .ok (.invokevirtual 65, 3) := by decide +kernel
theorem dX5_readScore_8 : decode cX5_readScore 8 = .ok (.aload_n 0, 1) := by decide +kernel
theorem dX5_readScore_9 : decode cX5_readScore 9 = .ok (.iconst 1, 1) := by decide +kernel
theorem dX5_readScore_10 : decode cX5_readScore 10 = .ok (.putfield 104, 3) := by decide +kernel
theorem dX5_readScore_13 : decode cX5_readScore 13 = .ok (.aload_n 0, 1) := by decide +kernel
theorem dX5_readScore_14 : decode cX5_readScore 14 = .ok (.getfield 18, 3) := by decide +kernel
theorem dX5_readScore_17 : decode cX5_readScore 17 = .ok (.new 107, 3) := by decide +kernel
theorem dX5_readScore_20 : decode cX5_readScore 20 = .ok (.dup, 1) := by decide +kernel
theorem dX5_readScore_21 : decode cX5_readScore 21 = .ok (.aload_n 0, 1) := by decide +kernel
theorem dX5_readScore_22 : decode cX5_readScore 22 = .ok (.getfield 9, 3) := by decide +kernel
theorem dX5_readScore_25 : decode cX5_readScore 25 = .ok (.getfield 27, 3) := by decide +kernel
theorem dX5_readScore_28 : decode cX5_readScore 28 = .ok (.invokespecial 109, 3) := by decide +kernel
theorem dX5_readScore_31 : decode cX5_readScore 31 = .ok (.putfield 111, 3) := by decide +kernel
theorem dX5_readScore_34 : decode cX5_readScore 34 = .ok (.aload_n 0, 1) := by decide +kernel
theorem dX5_readScore_35 : decode cX5_readScore 35 = .ok (.iconst 0, 1) := by decide +kernel
theorem dX5_readScore_36 : decode cX5_readScore 36 = .ok (.invokevirtual 115, 3) := by decide +kernel
theorem dX5_readScore_39 : decode cX5_readScore 39 = .ok (.return_, 1) := by decide +kernel
theorem dX5_readLimit_0 : decode cX5_readLimit 0 = .ok (.aload_n 0, 1) := by decide +kernel
theorem dX5_readLimit_1 : decode cX5_readLimit 1 = .ok (.aload_n 0, 1) := by decide +kernel
theorem dX5_readLimit_2 : decode cX5_readLimit 2 = .ok (.getfield 118, 3) := by decide +kernel
theorem dX5_readLimit_5 : decode cX5_readLimit 5 = .ok (.invokevirtual 65, 3) := by decide +kernel
theorem dX5_readLimit_8 : decode cX5_readLimit 8 = .ok (.aload_n 0, 1) := by decide +kernel
theorem dX5_readLimit_9 : decode cX5_readLimit 9 = .ok (.iconst 1, 1) := by decide +kernel
theorem dX5_readLimit_10 : decode cX5_readLimit 10 = .ok (.putfield 118, 3) := by decide +kernel
theorem dX5_readLimit_13 : decode cX5_readLimit 13 = .ok (.aload_n 0, 1) := by decide +kernel
theorem dX5_readLimit_14 : decode cX5_readLimit 14 = .ok (.getfield 18, 3) := by decide +kernel
theorem dX5_readLimit_17 : decode cX5_readLimit 17 = .ok (.aload_n 0, 1) := by decide +kernel
theorem dX5_readLimit_18 : decode cX5_readLimit 18 = .ok (.iconst 0, 1) := by decide +kernel
theorem dX5_readLimit_19 : decode cX5_readLimit 19 = .ok (.sipush 9999, 3) := by decide +kernel
theorem dX5_readLimit_22 : decode cX5_readLimit 22 = .ok (.invokevirtual 69, 3) := by decide +kernel
theorem dX5_readLimit_25 : decode cX5_readLimit 25 = .ok (.putfield 121, 3) := by decide +kernel
theorem dX5_readLimit_28 : decode cX5_readLimit 28 = .ok (.return_, 1) := by decide +kernel
theorem dX5_readSum_0 : decode cX5_readSum 0 = .ok (.aload_n 0, 1) := by decide +kernel
theorem dX5_readSum_1 : decode cX5_readSum 1 = .ok (.iload_n 1, 1) := by decide +kernel
theorem dX5_readSum_2 : decode cX5_readSum 2 = .ok (.invokevirtual 124, 3) := by decide +kernel
theorem dX5_readSum_5 : decode cX5_readSum 5 = .ok (.iconst 0, 1) := by decide +kernel
theorem dX5_readSum_6 : decode cX5_readSum 6 = .ok (.istore_n 2, 1) := by decide +kernel
theorem dX5_readSum_7 : decode cX5_readSum 7 = .ok (.iload_n 2, 1) := by decide +kernel
theorem dX5_readSum_8 : decode cX5_readSum 8 = .ok (.aload_n 0, 1) := by decide +kernel
theorem dX5_readSum_9 : decode cX5_readSum 9 = .ok (.getfield 9, 3) := by decide +kernel
theorem dX5_readSum_12 : decode cX5_readSum 12 = .ok (.getfield 27, 3) := by decide +kernel
theorem dX5_readSum_15 : decode cX5_readSum 15 = .ok (.if_icmp .ge 71, 3) := by decide +kernel
theorem dX5_readSum_18 : decode cX5_readSum 18 = .ok (.aload_n 0, 1) := by decide +kernel
theorem dX5_readSum_19 : decode cX5_readSum 19 = .ok (.invokevirtual 31, 3) := by decide +kernel
theorem dX5_readSum_22 : decode cX5_readSum 22 = .ok (.ifCond .eq 64, 3) := by decide +kernel
theorem dX5_readSum_25 : decode cX5_readSum 25 = .ok (.aload_n 0, 1) := by decide +kernel
theorem dX5_readSum_26 : decode cX5_readSum 26 = .ok (.invokevirtual 35, 3) := by decide +kernel
theorem dX5_readSum_29 : decode cX5_readSum 29 = .ok (.bipush 43, 2) := by decide +kernel
theorem dX5_readSum_31 : decode cX5_readSum 31 = .ok (.if_icmp .eq 12, 3) := by decide +kernel
theorem dX5_readSum_34 : decode cX5_readSum 34 = .ok (.aload_n 0, 1) := by decide +kernel
theorem dX5_readSum_35 : decode cX5_readSum 35 = .ok (.invokevirtual 35, 3) := by decide +kernel
theorem dX5_readSum_38 : decode cX5_readSum 38 = .ok (.bipush 45, 2) := by decide +kernel
theorem dX5_readSum_40 : decode cX5_readSum 40 = .ok (.if_icmp .ne 46, 3) := by decide +kernel
theorem dX5_readSum_43 : decode cX5_readSum 43 = .ok (.aload_n 0, 1) := by decide +kernel
theorem dX5_readSum_44 : decode cX5_readSum 44 = .ok (.invokevirtual 35, 3) := by decide +kernel
theorem dX5_readSum_47 : decode cX5_readSum 47 = .ok (.bipush 43, 2) := by decide +kernel
theorem dX5_readSum_49 : decode cX5_readSum 49 = .ok (.if_icmp .ne 8, 3) := by decide +kernel
theorem dX5_readSum_52 : decode cX5_readSum 52 = .ok (.bipush (-5), 2) := by decide +kernel
theorem dX5_readSum_54 : decode cX5_readSum 54 = .ok (.goto 5, 3) := by decide +kernel
theorem dX5_readSum_57 : decode cX5_readSum 57 = .ok (.bipush (-6), 2) := by decide +kernel
theorem dX5_readSum_59 : decode cX5_readSum 59 = .ok (.istore_n 3, 1) := by decide +kernel
theorem dX5_readSum_60 : decode cX5_readSum 60 = .ok (.aload_n 0, 1) := by decide +kernel
theorem dX5_readSum_61 : decode cX5_readSum 61 = .ok (.invokevirtual 82, 3) := by decide +kernel
theorem dX5_readSum_64 : decode cX5_readSum 64 = .ok (.aload_n 0, 1) := by decide +kernel
theorem dX5_readSum_65 : decode cX5_readSum 65 = .ok (.iload_n 1, 1) := by decide +kernel
theorem dX5_readSum_66 : decode cX5_readSum 66 = .ok (.invokevirtual 124, 3) := by decide +kernel
theorem dX5_readSum_69 : decode cX5_readSum 69 = .ok (.aload_n 0, 1) := by decide +kernel
theorem dX5_readSum_70 : decode cX5_readSum 70 = .ok (.getfield 18, 3) := by decide +kernel
theorem dX5_readSum_73 : decode cX5_readSum 73 = .ok (.getfield 111, 3) := by decide +kernel
theorem dX5_readSum_76 : decode cX5_readSum 76 = .ok (.iload_n 3, 1) := by decide +kernel
theorem dX5_readSum_77 : decode cX5_readSum 77 = .ok (.invokevirtual 127, 3) := by decide +kernel
theorem dX5_readSum_80 : decode cX5_readSum 80 = .ok (.iinc 2 1, 3) := by decide +kernel
theorem dX5_readSum_83 : decode cX5_readSum 83 = .ok (.goto (-76), 3) := by decide +kernel
theorem dX5_readSum_86 : decode cX5_readSum 86 = .ok (.return_, 1) := by decide +kernel
theorem dX5_readTerm_0 : decode cX5_readTerm 0 = .ok (.aload_n 0, 1) := by decide +kernel
theorem dX5_readTerm_1 : decode cX5_readTerm 1 = .ok (.iload_n 1, 1) := by decide +kernel
theorem dX5_readTerm_2 : decode cX5_readTerm 2 = .ok (.invokevirtual 130, 3) := by decide +kernel
theorem dX5_readTerm_5 : decode cX5_readTerm 5 = .ok (.iconst 0, 1) := by decide +kernel
theorem dX5_readTerm_6 : decode cX5_readTerm 6 = .ok (.istore_n 2, 1) := by decide +kernel
theorem dX5_readTerm_7 : decode cX5_readTerm 7 = .ok (.iload_n 2, 1) := by decide +kernel
theorem dX5_readTerm_8 : decode cX5_readTerm 8 = .ok (.aload_n 0, 1) := by decide +kernel
theorem dX5_readTerm_9 : decode cX5_readTerm 9 = .ok (.getfield 9, 3) := by decide +kernel
theorem dX5_readTerm_12 : decode cX5_readTerm 12 = .ok (.getfield 27, 3) := by decide +kernel
theorem dX5_readTerm_15 : decode cX5_readTerm 15 = .ok (.if_icmp .ge 71, 3) := by decide +kernel
theorem dX5_readTerm_18 : decode cX5_readTerm 18 = .ok (.aload_n 0, 1) := by decide +kernel
theorem dX5_readTerm_19 : decode cX5_readTerm 19 = .ok (.invokevirtual 31, 3) := by decide +kernel
theorem dX5_readTerm_22 : decode cX5_readTerm 22 = .ok (.ifCond .eq 64, 3) := by decide +kernel
theorem dX5_readTerm_25 : decode cX5_readTerm 25 = .ok (.aload_n 0, 1) := by decide +kernel
theorem dX5_readTerm_26 : decode cX5_readTerm 26 = .ok (.invokevirtual 35, 3) := by decide +kernel
theorem dX5_readTerm_29 : decode cX5_readTerm 29 = .ok (.bipush 42, 2) := by decide +kernel
theorem dX5_readTerm_31 : decode cX5_readTerm 31 = .ok (.if_icmp .eq 12, 3) := by decide +kernel
theorem dX5_readTerm_34 : decode cX5_readTerm 34 = .ok (.aload_n 0, 1) := by decide +kernel
theorem dX5_readTerm_35 : decode cX5_readTerm 35 = .ok (.invokevirtual 35, 3) := by decide +kernel
theorem dX5_readTerm_38 : decode cX5_readTerm 38 = .ok (.bipush 47, 2) := by decide +kernel
theorem dX5_readTerm_40 : decode cX5_readTerm 40 = .ok (.if_icmp .ne 46, 3) := by decide +kernel
theorem dX5_readTerm_43 : decode cX5_readTerm 43 = .ok (.aload_n 0, 1) := by decide +kernel
theorem dX5_readTerm_44 : decode cX5_readTerm 44 = .ok (.invokevirtual 35, 3) := by decide +kernel
theorem dX5_readTerm_47 : decode cX5_readTerm 47 = .ok (.bipush 42, 2) := by decide +kernel
theorem dX5_readTerm_49 : decode cX5_readTerm 49 = .ok (.if_icmp .ne 8, 3) := by decide +kernel
theorem dX5_readTerm_52 : decode cX5_readTerm 52 = .ok (.bipush (-7), 2) := by decide +kernel
theorem dX5_readTerm_54 : decode cX5_readTerm 54 = .ok (.goto 5, 3) := by decide +kernel
theorem dX5_readTerm_57 : decode cX5_readTerm 57 = .ok (.bipush (-8), 2) := by decide +kernel
theorem dX5_readTerm_59 : decode cX5_readTerm 59 = .ok (.istore_n 3, 1) := by decide +kernel
theorem dX5_readTerm_60 : decode cX5_readTerm 60 = .ok (.aload_n 0, 1) := by decide +kernel
theorem dX5_readTerm_61 : decode cX5_readTerm 61 = .ok (.invokevirtual 82, 3) := by decide +kernel
theorem dX5_readTerm_64 : decode cX5_readTerm 64 = .ok (.aload_n 0, 1) := by decide +kernel
theorem dX5_readTerm_65 : decode cX5_readTerm 65 = .ok (.iload_n 1, 1) := by decide +kernel
theorem dX5_readTerm_66 : decode cX5_readTerm 66 = .ok (.invokevirtual 130, 3) := by decide +kernel
theorem dX5_readTerm_69 : decode cX5_readTerm 69 = .ok (.aload_n 0, 1) := by decide +kernel
theorem dX5_readTerm_70 : decode cX5_readTerm 70 = .ok (.getfield 18, 3) := by decide +kernel
theorem dX5_readTerm_73 : decode cX5_readTerm 73 = .ok (.getfield 111, 3) := by decide +kernel
theorem dX5_readTerm_76 : decode cX5_readTerm 76 = .ok (.iload_n 3, 1) := by decide +kernel
theorem dX5_readTerm_77 : decode cX5_readTerm 77 = .ok (.invokevirtual 127, 3) := by decide +kernel
theorem dX5_readTerm_80 : decode cX5_readTerm 80 = .ok (.iinc 2 1, 3) := by decide +kernel
theorem dX5_readTerm_83 : decode cX5_readTerm 83 = .ok (.goto (-76), 3) := by decide +kernel
theorem dX5_readTerm_86 : decode cX5_readTerm 86 = .ok (.return_, 1) := by decide +kernel
theorem dX5_readFactor_0 : decode cX5_readFactor 0 = .ok (.aload_n 0, 1) := by decide +kernel
theorem dX5_readFactor_1 : decode cX5_readFactor 1 = .ok (.invokevirtual 31, 3) := by decide +kernel
theorem dX5_readFactor_4 : decode cX5_readFactor 4 = .ok (.ifCond .ne 4, 3) := by decide +kernel
theorem dX5_readFactor_7 : decode cX5_readFactor 7 = .ok (.return_, 1) := by decide +kernel
theorem dX5_readFactor_8 : decode cX5_readFactor 8 = .ok (.aload_n 0, 1) := by decide +kernel
theorem dX5_readFactor_9 : decode cX5_readFactor 9 = .ok (.invokevirtual 35, 3) := by decide +kernel
theorem dX5_readFactor_12 : decode cX5_readFactor 12 = .ok (.lookupswitch 150 #[(40, 116), (256, 60), (263, 81), (264, 89), (265, 98), (266, 107)], 60) := by decide +kernel
theorem dX5_readFactor_72 : decode cX5_readFactor 72 = .ok (.aload_n 0, 1) := by decide +kernel
theorem dX5_readFactor_73 : decode cX5_readFactor 73 = .ok (.getfield 18, 3) := by decide +kernel
theorem dX5_readFactor_76 : decode cX5_readFactor 76 = .ok (.getfield 111, 3) := by decide +kernel
theorem dX5_readFactor_79 : decode cX5_readFactor 79 = .ok (.aload_n 0, 1) := by decide +kernel
theorem dX5_readFactor_80 : decode cX5_readFactor 80 = .ok (.iconst 0, 1) := by decide +kernel
theorem dX5_readFactor_81 : decode cX5_readFactor 81 = .ok (.sipush 9999, 3) := by decide +kernel
theorem dX5_readFactor_84 : decode cX5_readFactor 84 = .ok (.invokevirtual 69, 3) := by decide +kernel
theorem dX5_readFactor_87 : decode cX5_readFactor 87 = .ok (.invokevirtual 127, 3) := by decide +kernel
theorem dX5_readFactor_90 : decode cX5_readFactor 90 = .ok (.goto 78, 3) := by decide +kernel
theorem dX5_readFactor_93 : decode cX5_readFactor 93 = .ok (.aload_n 0, 1) := by decide +kernel
theorem dX5_readFactor_94 : decode cX5_readFactor 94 = .ok (.iconst (-1), 1) := by decide +kernel
theorem dX5_readFactor_95 : decode cX5_readFactor 95 = .ok (.invokevirtual 133, 3) := by decide +kernel
theorem dX5_readFactor_98 : decode cX5_readFactor 98 = .ok (.goto 70, 3) := by decide +kernel
theorem dX5_readFactor_101 : decode cX5_readFactor 101 = .ok (.aload_n 0, 1) := by decide +kernel
theorem dX5_readFactor_102 : decode cX5_readFactor 102 = .ok (.bipush (-2), 2) := by decide +kernel
theorem dX5_readFactor_104 : decode cX5_readFactor 104 = .ok (.invokevirtual 133, 3) := by decide +kernel
theorem dX5_readFactor_107 : decode cX5_readFactor 107 = .ok (.goto 61, 3) := by decide +kernel
theorem dX5_readFactor_110 : decode cX5_readFactor 110 = .ok (.aload_n 0, 1) := by decide +kernel
theorem dX5_readFactor_111 : decode cX5_readFactor 111 = .ok (.bipush (-3), 2) := by decide +kernel
theorem dX5_readFactor_113 : decode cX5_readFactor 113 = .ok (.invokevirtual 133, 3) := by decide +kernel
theorem dX5_readFactor_116 : decode cX5_readFactor 116 = .ok (.goto 52, 3) := by decide +kernel
theorem dX5_readFactor_119 : decode cX5_readFactor 119 = .ok (.aload_n 0, 1) := by decide +kernel
theorem dX5_readFactor_120 : decode cX5_readFactor 120 = .ok (.bipush (-4), 2) := by decide +kernel
theorem dX5_readFactor_122 : decode cX5_readFactor 122 = .ok (.invokevirtual 133, 3) := by decide +kernel
theorem dX5_readFactor_125 : decode cX5_readFactor 125 = .ok (.goto 43, 3) := by decide +kernel
theorem dX5_readFactor_128 : decode cX5_readFactor 128 = .ok (.iload_n 1, 1) := by decide +kernel
theorem dX5_readFactor_129 : decode cX5_readFactor 129 = .ok (.iconst 4, 1) := by decide +kernel
theorem dX5_readFactor_130 : decode cX5_readFactor 130 = .ok (.if_icmp .lt 12, 3) := by decide +kernel
theorem dX5_readFactor_133 : decode cX5_readFactor 133 = .ok (.aload_n 0, 1) := by decide +kernel
theorem dX5_readFactor_134 : decode cX5_readFactor 134 = .ok (.bipush (-5), 2) := by decide +kernel
theorem dX5_readFactor_136 : decode cX5_readFactor 136 = .ok (.invokevirtual 54, 3) := by decide +kernel
theorem dX5_readFactor_139 : decode cX5_readFactor 139 = .ok (.goto 29, 3) := by decide +kernel
theorem dX5_readFactor_142 : decode cX5_readFactor 142 = .ok (.aload_n 0, 1) := by decide +kernel
theorem dX5_readFactor_143 : decode cX5_readFactor 143 = .ok (.invokevirtual 82, 3) := by decide +kernel
theorem dX5_readFactor_146 : decode cX5_readFactor 146 = .ok (.aload_n 0, 1) := by decide +kernel
theorem dX5_readFactor_147 : decode cX5_readFactor 147 = .ok (.iload_n 1, 1) := by decide +kernel
theorem dX5_readFactor_148 : decode cX5_readFactor 148 = .ok (.iconst 1, 1) := by decide +kernel
theorem dX5_readFactor_149 : decode cX5_readFactor 149 = .ok (.iadd, 1) := by decide +kernel
theorem dX5_readFactor_150 : decode cX5_readFactor 150 = .ok (.invokevirtual 115, 3) := by decide +kernel
theorem dX5_readFactor_153 : decode cX5_readFactor 153 = .ok (.aload_n 0, 1) := by decide +kernel
theorem dX5_readFactor_154 : decode cX5_readFactor 154 = .ok (.bipush 41, 2) := by decide +kernel
theorem dX5_readFactor_156 : decode cX5_readFactor 156 = .ok (.invokevirtual 58, 3) := by decide +kernel
theorem dX5_readFactor_159 : decode cX5_readFactor 159 = .ok (.goto 9, 3) := by decide +kernel
theorem dX5_readFactor_162 : decode cX5_readFactor 162 = .ok (.aload_n 0, 1) := by decide +kernel
theorem dX5_readFactor_163 : decode cX5_readFactor 163 = .ok (.bipush (-2), 2) := by decide +kernel
theorem dX5_readFactor_165 : decode cX5_readFactor 165 = .ok (.invokevirtual 54, 3) := by decide +kernel
theorem dX5_readFactor_168 : decode cX5_readFactor 168 = .ok (.return_, 1) := by decide +kernel
theorem dX5_takeName_0 : decode cX5_takeName 0 = .ok (.aload_n 0, 1) := by decide +kernel
theorem dX5_takeName_1 : decode cX5_takeName 1 = .ok (.getfield 18, 3) := by decide +kernel
theorem dX5_takeName_4 : decode cX5_takeName 4 = .ok (.getfield 111, 3) := by decide +kernel
theorem dX5_takeName_7 : decode cX5_takeName 7 = .ok (.iload_n 1, 1) := by decide +kernel
theorem dX5_takeName_8 : decode cX5_takeName 8 = .ok (.invokevirtual 127, 3) := by decide +kernel
theorem dX5_takeName_11 : decode cX5_takeName 11 = .ok (.aload_n 0, 1) := by decide +kernel
theorem dX5_takeName_12 : decode cX5_takeName 12 = .ok (.invokevirtual 82, 3) := by decide +kernel
theorem dX5_takeName_15 : decode cX5_takeName 15 = .ok (.return_, 1) := by decide +kernel
theorem dX5_takeOnce_0 : decode cX5_takeOnce 0 = .ok (.iload_n 1, 1) := by decide +kernel
theorem dX5_takeOnce_1 : decode cX5_takeOnce 1 = .ok (.ifCond .eq 10, 3) := by decide +kernel
theorem dX5_takeOnce_4 : decode cX5_takeOnce 4 = .ok (.aload_n 0, 1) := by decide +kernel
theorem dX5_takeOnce_5 : decode cX5_takeOnce 5 = .ok (.bipush (-2), 2) := by decide +kernel
theorem dX5_takeOnce_7 : decode cX5_takeOnce 7 = .ok (.invokevirtual 54, 3) := by decide +kernel
theorem dX5_takeOnce_10 : decode cX5_takeOnce 10 = .ok (.return_, 1) := by decide +kernel
theorem dX5_takeOnce_11 : decode cX5_takeOnce 11 = .ok (.aload_n 0, 1) := by decide +kernel
theorem dX5_takeOnce_12 : decode cX5_takeOnce 12 = .ok (.invokevirtual 82, 3) := by decide +kernel
theorem dX5_takeOnce_15 : decode cX5_takeOnce 15 = .ok (.return_, 1) := by decide +kernel
theorem dX5_take_0 : decode cX5_take 0 = .ok (.aload_n 0, 1) := by decide +kernel
theorem dX5_take_1 : decode cX5_take 1 = .ok (.invokevirtual 31, 3) := by decide +kernel
theorem dX5_take_4 : decode cX5_take 4 = .ok (.ifCond .eq 18, 3) := by decide +kernel
theorem dX5_take_7 : decode cX5_take 7 = .ok (.aload_n 0, 1) := by decide +kernel
theorem dX5_take_8 : decode cX5_take 8 = .ok (.invokevirtual 35, 3) := by decide +kernel
theorem dX5_take_11 : decode cX5_take 11 = .ok (.iload_n 1, 1) := by decide +kernel
theorem dX5_take_12 : decode cX5_take 12 = .ok (.if_icmp .ne 10, 3) := by decide +kernel
theorem dX5_take_15 : decode cX5_take 15 = .ok (.aload_n 0, 1) := by decide +kernel
theorem dX5_take_16 : decode cX5_take 16 = .ok (.invokevirtual 82, 3) := by decide +kernel
theorem dX5_take_19 : decode cX5_take 19 = .ok (.goto 9, 3) := by decide +kernel
theorem dX5_take_22 : decode cX5_take 22 = .ok (.aload_n 0, 1) := by decide +kernel
theorem dX5_take_23 : decode cX5_take 23 = .ok (.bipush (-2), 2) := by decide +kernel
theorem dX5_take_25 : decode cX5_take 25 = .ok (.invokevirtual 54, 3) := by decide +kernel
theorem dX5_take_28 : decode cX5_take 28 = .ok (.return_, 1) := by decide +kernel
theorem dX5_takeCode_0 : decode cX5_takeCode 0 = .ok (.aload_n 0, 1) := by decide +kernel
theorem dX5_takeCode_1 : decode cX5_takeCode 1 = .ok (.invokevirtual 31, 3) := by decide +kernel
theorem dX5_takeCode_4 : decode cX5_takeCode 4 = .ok (.ifCond .eq 34, 3) := by decide +kernel
theorem dX5_takeCode_7 : decode cX5_takeCode 7 = .ok (.aload_n 0, 1) := by decide +kernel
theorem dX5_takeCode_8 : decode cX5_takeCode 8 = .ok (.invokevirtual 35, 3) := by decide +kernel
theorem dX5_takeCode_11 : decode cX5_takeCode 11 = .ok (.sipush 256, 3) := by decide +kernel
theorem dX5_takeCode_14 : decode cX5_takeCode 14 = .ok (.if_icmp .ne 24, 3) := by decide +kernel
theorem dX5_takeCode_17 : decode cX5_takeCode 17 = .ok (.aload_n 0, 1) := by decide +kernel
theorem dX5_takeCode_18 : decode cX5_takeCode 18 = .ok (.getfield 18, 3) := by decide +kernel
theorem dX5_takeCode_21 : decode cX5_takeCode 21 = .ok (.aload_n 0, 1) := by decide +kernel
theorem dX5_takeCode_22 : decode cX5_takeCode 22 = .ok (.invokevirtual 136, 3) := by decide +kernel
theorem dX5_takeCode_25 : decode cX5_takeCode 25 = .ok (.invokevirtual 139, 3) := by decide +kernel
theorem dX5_takeCode_28 : decode cX5_takeCode 28 = .ok (.iconst (-1), 1) := by decide +kernel
theorem dX5_takeCode_29 : decode cX5_takeCode 29 = .ok (.if_icmp .eq 9, 3) := by decide +kernel
theorem dX5_takeCode_32 : decode cX5_takeCode 32 = .ok (.aload_n 0, 1) := by decide +kernel
theorem dX5_takeCode_33 : decode cX5_takeCode 33 = .ok (.bipush (-3), 2) := by decide +kernel
theorem dX5_takeCode_35 : decode cX5_takeCode 35 = .ok (.invokevirtual 54, 3) := by decide +kernel
theorem dX5_takeCode_38 : decode cX5_takeCode 38 = .ok (.aload_n 0, 1) := by decide +kernel
theorem dX5_takeCode_39 : decode cX5_takeCode 39 = .ok (.iconst 0, 1) := by decide +kernel
theorem dX5_takeCode_40 : decode cX5_takeCode 40 = .ok (.bipush 99, 2) := by decide +kernel
theorem dX5_takeCode_42 : decode cX5_takeCode 42 = .ok (.invokevirtual 69, 3) := by decide +kernel
theorem dX5_takeCode_45 : decode cX5_takeCode 45 = .ok (.ireturn, 1) := by decide +kernel
theorem dX5_takeTypes_0 : decode cX5_takeTypes 0 = .ok (.iconst 1, 1) := by decide +kernel
theorem dX5_takeTypes_1 : decode cX5_takeTypes 1 = .ok (.aload_n 0, 1) := by decide +kernel
theorem dX5_takeTypes_2 : decode cX5_takeTypes 2 = .ok (.iconst 0, 1) := by decide +kernel
theorem dX5_takeTypes_3 : decode cX5_takeTypes 3 = .ok (.bipush 7, 2) := by decide +kernel
theorem dX5_takeTypes_5 : decode cX5_takeTypes 5 = .ok (.invokevirtual 69, 3) := by decide +kernel
theorem dX5_takeTypes_8 : decode cX5_takeTypes 8 = .ok (.ishl, 1) := by decide +kernel
theorem dX5_takeTypes_9 : decode cX5_takeTypes 9 = .ok (.istore_n 1, 1) := by decide +kernel
theorem dX5_takeTypes_10 : decode cX5_takeTypes 10 = .ok (.iconst 0, 1) := by decide +kernel
theorem dX5_takeTypes_11 : decode cX5_takeTypes 11 = .ok (.istore_n 2, 1) := by decide +kernel
theorem dX5_takeTypes_12 : decode cX5_takeTypes 12 = .ok (.iload_n 2, 1) := by decide +kernel
theorem dX5_takeTypes_13 : decode cX5_takeTypes 13 = .ok (.bipush 7, 2) := by decide +kernel
theorem dX5_takeTypes_15 : decode cX5_takeTypes 15 = .ok (.if_icmp .gt 64, 3) := by decide +kernel
theorem dX5_takeTypes_18 : decode cX5_takeTypes 18 = .ok (.aload_n 0, 1) := by decide +kernel
theorem dX5_takeTypes_19 : decode cX5_takeTypes 19 = .ok (.invokevirtual 31, 3) := by decide +kernel
theorem dX5_takeTypes_22 : decode cX5_takeTypes 22 = .ok (.ifCond .eq 57, 3) := by decide +kernel
theorem dX5_takeTypes_25 : decode cX5_takeTypes 25 = .ok (.aload_n 0, 1) := by decide +kernel
theorem dX5_takeTypes_26 : decode cX5_takeTypes 26 = .ok (.invokevirtual 35, 3) := by decide +kernel
theorem dX5_takeTypes_29 : decode cX5_takeTypes 29 = .ok (.sipush 256, 3) := by decide +kernel
theorem dX5_takeTypes_32 : decode cX5_takeTypes 32 = .ok (.if_icmp .ne 47, 3) := by decide +kernel
theorem dX5_takeTypes_35 : decode cX5_takeTypes 35 = .ok (.aload_n 0, 1) := by decide +kernel
theorem dX5_takeTypes_36 : decode cX5_takeTypes 36 = .ok (.invokevirtual 136, 3) := by decide +kernel
theorem dX5_takeTypes_39 : decode cX5_takeTypes 39 = .ok (.bipush 7, 2) := by decide +kernel
theorem dX5_takeTypes_41 : decode cX5_takeTypes 41 = .ok (.if_icmp .gt 20, 3) := by decide +kernel
theorem dX5_takeTypes_44 : decode cX5_takeTypes 44 = .ok (.iload_n 1, 1) := by decide +kernel
theorem dX5_takeTypes_45 : decode cX5_takeTypes 45 = .ok (.aload_n 0, 1) := by decide +kernel
theorem dX5_takeTypes_46 : decode cX5_takeTypes 46 = .ok (.invokevirtual 136, 3) := by decide +kernel
theorem dX5_takeTypes_49 : decode cX5_takeTypes 49 = .ok (.ishr, 1) := by decide +kernel
theorem dX5_takeTypes_50 : decode cX5_takeTypes 50 = .ok (.iconst 1, 1) := by decide +kernel
theorem dX5_takeTypes_51 : decode cX5_takeTypes 51 = .ok (.iand, 1) := by decide +kernel
theorem dX5_takeTypes_52 : decode cX5_takeTypes 52 = .ok (.ifCond .eq 9, 3) := by decide +kernel
theorem dX5_takeTypes_55 : decode cX5_takeTypes 55 = .ok (.aload_n 0, 1) := by decide +kernel
theorem dX5_takeTypes_56 : decode cX5_takeTypes 56 = .ok (.bipush (-3), 2) := by decide +kernel
theorem dX5_takeTypes_58 : decode cX5_takeTypes 58 = .ok (.invokevirtual 54, 3) := by decide +kernel
theorem dX5_takeTypes_61 : decode cX5_takeTypes 61 = .ok (.iload_n 1, 1) := by decide +kernel
theorem dX5_takeTypes_62 : decode cX5_takeTypes 62 = .ok (.iconst 1, 1) := by decide +kernel
theorem dX5_takeTypes_63 : decode cX5_takeTypes 63 = .ok (.aload_n 0, 1) := by decide +kernel
theorem dX5_takeTypes_64 : decode cX5_takeTypes 64 = .ok (.iconst 0, 1) := by decide +kernel
theorem dX5_takeTypes_65 : decode cX5_takeTypes 65 = .ok (.bipush 7, 2) := by decide +kernel
theorem dX5_takeTypes_67 : decode cX5_takeTypes 67 = .ok (.invokevirtual 69, 3) := by decide +kernel
theorem dX5_takeTypes_70 : decode cX5_takeTypes 70 = .ok (.ishl, 1) := by decide +kernel
theorem dX5_takeTypes_71 : decode cX5_takeTypes 71 = .ok (.ior, 1) := by decide +kernel
theorem dX5_takeTypes_72 : decode cX5_takeTypes 72 = .ok (.istore_n 1, 1) := by decide +kernel
theorem dX5_takeTypes_73 : decode cX5_takeTypes 73 = .ok (.iinc 2 1, 3) := by decide +kernel
theorem dX5_takeTypes_76 : decode cX5_takeTypes 76 = .ok (.goto (-64), 3) := by decide +kernel
theorem dX5_takeTypes_79 : decode cX5_takeTypes 79 = .ok (.iload_n 1, 1) := by decide +kernel
theorem dX5_takeTypes_80 : decode cX5_takeTypes 80 = .ok (.ireturn, 1) := by decide +kernel
theorem dX5_takeNumber_0 : decode cX5_takeNumber 0 = .ok (.aload_n 0, 1) := by decide +kernel
theorem dX5_takeNumber_1 : decode cX5_takeNumber 1 = .ok (.invokevirtual 31, 3) := by decide +kernel
theorem dX5_takeNumber_4 : decode cX5_takeNumber 4 = .ok (.ifCond .ne 5, 3) := by decide +kernel
theorem dX5_takeNumber_7 : decode cX5_takeNumber 7 = .ok (.iload_n 1, 1) := by decide +kernel
theorem dX5_takeNumber_8 : decode cX5_takeNumber 8 = .ok (.ireturn, 1) := by decide +kernel
theorem dX5_takeNumber_9 : decode cX5_takeNumber 9 = .ok (.aload_n 0, 1) := by decide +kernel
theorem dX5_takeNumber_10 : decode cX5_takeNumber 10 = .ok (.invokevirtual 35, 3) := by decide +kernel
theorem dX5_takeNumber_13 : decode cX5_takeNumber 13 = .ok (.sipush 256, 3) := by decide +kernel
theorem dX5_takeNumber_16 : decode cX5_takeNumber 16 = .ok (.if_icmp .eq 11, 3) := by decide +kernel
theorem dX5_takeNumber_19 : decode cX5_takeNumber 19 = .ok (.aload_n 0, 1) := by decide +kernel
theorem dX5_takeNumber_20 : decode cX5_takeNumber 20 = .ok (.bipush (-2), 2) := by decide +kernel
theorem dX5_takeNumber_22 : decode cX5_takeNumber 22 = .ok (.invokevirtual 54, 3) := by decide +kernel
theorem dX5_takeNumber_25 : decode cX5_takeNumber 25 = .ok (.iload_n 1, 1) := by decide +kernel
theorem dX5_takeNumber_26 : decode cX5_takeNumber 26 = .ok (.ireturn, 1) := by decide +kernel
theorem dX5_takeNumber_27 : decode cX5_takeNumber 27 = .ok (.aload_n 0, 1) := by decide +kernel
theorem dX5_takeNumber_28 : decode cX5_takeNumber 28 = .ok (.invokevirtual 136, 3) := by decide +kernel
theorem dX5_takeNumber_31 : decode cX5_takeNumber 31 = .ok (.istore_n 3, 1) := by decide +kernel
theorem dX5_takeNumber_32 : decode cX5_takeNumber 32 = .ok (.iload_n 3, 1) := by decide +kernel
theorem dX5_takeNumber_33 : decode cX5_takeNumber 33 = .ok (.iload_n 1, 1) := by decide +kernel
theorem dX5_takeNumber_34 : decode cX5_takeNumber 34 = .ok (.if_icmp .lt 8, 3) := by decide +kernel
theorem dX5_takeNumber_37 : decode cX5_takeNumber 37 = .ok (.iload_n 3, 1) := by decide +kernel
theorem dX5_takeNumber_38 : decode cX5_takeNumber 38 = .ok (.iload_n 2, 1) := by decide +kernel
theorem dX5_takeNumber_39 : decode cX5_takeNumber 39 = .ok (.if_icmp .le 11, 3) := by decide +kernel
theorem dX5_takeNumber_42 : decode cX5_takeNumber 42 = .ok (.aload_n 0, 1) := by decide +kernel
theorem dX5_takeNumber_43 : decode cX5_takeNumber 43 = .ok (.bipush (-3), 2) := by decide +kernel
theorem dX5_takeNumber_45 : decode cX5_takeNumber 45 = .ok (.invokevirtual 54, 3) := by decide +kernel
theorem dX5_takeNumber_48 : decode cX5_takeNumber 48 = .ok (.iload_n 1, 1) := by decide +kernel
theorem dX5_takeNumber_49 : decode cX5_takeNumber 49 = .ok (.ireturn, 1) := by decide +kernel
theorem dX5_takeNumber_50 : decode cX5_takeNumber 50 = .ok (.aload_n 0, 1) := by decide +kernel
theorem dX5_takeNumber_51 : decode cX5_takeNumber 51 = .ok (.invokevirtual 82, 3) := by decide +kernel
theorem dX5_takeNumber_54 : decode cX5_takeNumber 54 = .ok (.iload_n 3, 1) := by decide +kernel
theorem dX5_takeNumber_55 : decode cX5_takeNumber 55 = .ok (.ireturn, 1) := by decide +kernel
theorem dX5_isFine_0 : decode cX5_isFine 0 = .ok (.aload_n 0, 1) := by decide +kernel
theorem dX5_isFine_1 : decode cX5_isFine 1 = .ok (.getfield 143, 3) := by decide +kernel
theorem dX5_isFine_4 : decode cX5_isFine 4 = .ok (.ifCond .ne 7, 3) := by decide +kernel
theorem dX5_isFine_7 : decode cX5_isFine 7 = .ok (.iconst 1, 1) := by decide +kernel
theorem dX5_isFine_8 : decode cX5_isFine 8 = .ok (.goto 4, 3) := by decide +kernel
theorem dX5_isFine_11 : decode cX5_isFine 11 = .ok (.iconst 0, 1) := by decide +kernel
theorem dX5_isFine_12 : decode cX5_isFine 12 = .ok (.ireturn, 1) := by decide +kernel
theorem dX5_fail_0 : decode cX5_fail 0 = .ok (.aload_n 0, 1) := by decide +kernel
theorem dX5_fail_1 : decode cX5_fail 1 = .ok (.getfield 143, 3) := by decide +kernel
theorem dX5_fail_4 : decode cX5_fail 4 = .ok (.ifCond .ne 39, 3) := by decide +kernel
theorem dX5_fail_7 : decode cX5_fail 7 = .ok (.aload_n 0, 1) := by decide +kernel
theorem dX5_fail_8 : decode cX5_fail 8 = .ok (.getfield 146, 3) := by decide +kernel
theorem dX5_fail_11 : decode cX5_fail 11 = .ok (.aload_n 0, 1) := by decide +kernel
theorem dX5_fail_12 : decode cX5_fail 12 = .ok (.getfield 9, 3) := by decide +kernel
theorem dX5_fail_15 : decode cX5_fail 15 = .ok (.getfield 149, 3) := by decide +kernel
theorem dX5_fail_18 : decode cX5_fail 18 = .ok (.arraylength, 1) := by decide +kernel
theorem dX5_fail_19 : decode cX5_fail 19 = .ok (.if_icmp .ge 24, 3) := by decide +kernel
theorem dX5_fail_22 : decode cX5_fail 22 = .ok (.aload_n 0, 1) := by decide +kernel
theorem dX5_fail_23 : decode cX5_fail 23 = .ok (.iload_n 1, 1) := by decide +kernel
theorem dX5_fail_24 : decode cX5_fail 24 = .ok (.putfield 143, 3) := by decide +kernel
theorem dX5_fail_27 : decode cX5_fail 27 = .ok (.aload_n 0, 1) := by decide +kernel
theorem dX5_fail_28 : decode cX5_fail 28 = .ok (.aload_n 0, 1) := by decide +kernel
theorem dX5_fail_29 : decode cX5_fail 29 = .ok (.getfield 9, 3) := by decide +kernel
theorem dX5_fail_32 : decode cX5_fail 32 = .ok (.getfield 149, 3) := by decide +kernel
theorem dX5_fail_35 : decode cX5_fail 35 = .ok (.aload_n 0, 1) := by decide +kernel
theorem dX5_fail_36 : decode cX5_fail 36 = .ok (.getfield 146, 3) := by decide +kernel
theorem dX5_fail_39 : decode cX5_fail 39 = .ok (.iaload, 1) := by decide +kernel
theorem dX5_fail_40 : decode cX5_fail 40 = .ok (.putfield 153, 3) := by decide +kernel
theorem dX5_fail_43 : decode cX5_fail 43 = .ok (.return_, 1) := by decide +kernel
theorem dX5_kind_0 : decode cX5_kind 0 = .ok (.aload_n 0, 1) := by decide +kernel
theorem dX5_kind_1 : decode cX5_kind 1 = .ok (.getfield 146, 3) := by decide +kernel
theorem dX5_kind_4 : decode cX5_kind 4 = .ok (.aload_n 0, 1) := by decide +kernel
theorem dX5_kind_5 : decode cX5_kind 5 = .ok (.getfield 9, 3) := by decide +kernel
theorem dX5_kind_8 : decode cX5_kind 8 = .ok (.getfield 156, 3) := by decide +kernel
theorem dX5_kind_11 : decode cX5_kind 11 = .ok (.arraylength, 1) := by decide +kernel
theorem dX5_kind_12 : decode cX5_kind 12 = .ok (.if_icmp .ge 18, 3) := by decide +kernel
theorem dX5_kind_15 : decode cX5_kind 15 = .ok (.aload_n 0, 1) := by decide +kernel
theorem dX5_kind_16 : decode cX5_kind 16 = .ok (.getfield 9, 3) := by decide +kernel
theorem dX5_kind_19 : decode cX5_kind 19 = .ok (.getfield 156, 3) := by decide +kernel
theorem dX5_kind_22 : decode cX5_kind 22 = .ok (.aload_n 0, 1) := by decide +kernel
theorem dX5_kind_23 : decode cX5_kind 23 = .ok (.getfield 146, 3) := by decide +kernel
theorem dX5_kind_26 : decode cX5_kind 26 = .ok (.iaload, 1) := by decide +kernel
theorem dX5_kind_27 : decode cX5_kind 27 = .ok (.goto 4, 3) := by decide +kernel
theorem dX5_kind_30 : decode cX5_kind 30 = .ok (.iconst (-1), 1) := by decide +kernel
theorem dX5_kind_31 : decode cX5_kind 31 = .ok (.ireturn, 1) := by decide +kernel
theorem dX5_value_0 : decode cX5_value 0 = .ok (.aload_n 0, 1) := by decide +kernel
theorem dX5_value_1 : decode cX5_value 1 = .ok (.getfield 146, 3) := by decide +kernel
theorem dX5_value_4 : decode cX5_value 4 = .ok (.aload_n 0, 1) := by decide +kernel
theorem dX5_value_5 : decode cX5_value 5 = .ok (.getfield 9, 3) := by decide +kernel
theorem dX5_value_8 : decode cX5_value 8 = .ok (.getfield 159, 3) := by decide +kernel
theorem dX5_value_11 : decode cX5_value 11 = .ok (.arraylength, 1) := by decide +kernel
theorem dX5_value_12 : decode cX5_value 12 = .ok (.if_icmp .ge 18, 3) := by decide +kernel
theorem dX5_value_15 : decode cX5_value 15 = .ok (.aload_n 0, 1) := by decide +kernel
theorem dX5_value_16 : decode cX5_value 16 = .ok (.getfield 9, 3) := by decide +kernel
theorem dX5_value_19 : decode cX5_value 19 = .ok (.getfield 159, 3) := by decide +kernel
theorem dX5_value_22 : decode cX5_value 22 = .ok (.aload_n 0, 1) := by decide +kernel
theorem dX5_value_23 : decode cX5_value 23 = .ok (.getfield 146, 3) := by decide +kernel
theorem dX5_value_26 : decode cX5_value 26 = .ok (.iaload, 1) := by decide +kernel
theorem dX5_value_27 : decode cX5_value 27 = .ok (.goto 4, 3) := by decide +kernel
theorem dX5_value_30 : decode cX5_value 30 = .ok (.iconst 0, 1) := by decide +kernel
theorem dX5_value_31 : decode cX5_value 31 = .ok (.ireturn, 1) := by decide +kernel
theorem dX5_step_0 : decode cX5_step 0 = .ok (.aload_n 0, 1) := by decide +kernel
theorem dX5_step_1 : decode cX5_step 1 = .ok (.getfield 146, 3) := by decide +kernel
theorem dX5_step_4 : decode cX5_step 4 = .ok (.iconst 1, 1) := by decide +kernel
theorem dX5_step_5 : decode cX5_step 5 = .ok (.iadd, 1) := by decide +kernel
theorem dX5_step_6 : decode cX5_step 6 = .ok (.aload_n 0, 1) := by decide +kernel
theorem dX5_step_7 : decode cX5_step 7 = .ok (.getfield 9, 3) := by decide +kernel
theorem dX5_step_10 : decode cX5_step 10 = .ok (.getfield 27, 3) := by decide +kernel
theorem dX5_step_13 : decode cX5_step 13 = .ok (.if_icmp .ge 13, 3) := by decide +kernel
theorem dX5_step_16 : decode cX5_step 16 = .ok (.aload_n 0, 1) := by decide +kernel
theorem dX5_step_17 : decode cX5_step 17 = .ok (.dup, 1) := by decide +kernel
theorem dX5_step_18 : decode cX5_step 18 = .ok (.getfield 146, 3) := by decide +kernel
theorem dX5_step_21 : decode cX5_step 21 = .ok (.iconst 1, 1) := by decide +kernel
theorem dX5_step_22 : decode cX5_step 22 = .ok (.iadd, 1) := by decide +kernel
theorem dX5_step_23 : decode cX5_step 23 = .ok (.putfield 146, 3) := by decide +kernel
theorem dX5_step_26 : decode cX5_step 26 = .ok (.return_, 1) := by decide +kernel
