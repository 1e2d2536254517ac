theorem dX1_init_0 : decode cX1_init 0 = .ok (.aload_n 0, 1) := by decide +kernel
theorem dX1_init_1 : decode cX1_init 1 = .ok (.invokespecial 1, 3) := by decide +kernel
theorem dX1_init_4 : decode cX1_init 4 = .ok (.aload_n 0, 1) := by decide +kernel
theorem dX1_init_5 : decode cX1_init 5 = .ok (.iconst 0, 1) := by decide +kernel
theorem dX1_init_6 : decode cX1_init 6 = .ok (.iload_n 1, 1) := by decide +kernel
theorem dX1_init_7 : decode cX1_init 7 = .ok (.invokestatic 7, 3) := by decide +kernel
theorem dX1_init_10 : decode cX1_init 10 = .ok (.newarray .int, 2) := by decide +kernel
theorem dX1_init_12 : decode cX1_init 12 = .ok (.putfield 13, 3) := by decide +kernel
theorem dX1_init_15 : decode cX1_init 15 = .ok (.aload_n 0, 1) := by decide +kernel
theorem dX1_init_16 : decode cX1_init 16 = .ok (.bipush 11, 2) := by decide +kernel
theorem dX1_init_18 : decode cX1_init 18 = .ok (.newarray .int, 2) := by decide +kernel
theorem dX1_init_20 : decode cX1_init 20 = .ok (.putfield 19, 3) := by decide +kernel
theorem dX1_init_23 : decode cX1_init 23 = .ok (.return_, 1) := by decide +kernel
theorem dX1_add_0 : decode cX1_add 0 = .ok (.aload_n 0, 1) := by decide +kernel
theorem dX1_add_1 : decode cX1_add 1 = .ok (.getfield 22, 3) := by decide +kernel
theorem dX1_add_4 : decode cX1_add 4 = .ok (.aload_n 0, 1) := by decide +kernel
theorem dX1_add_5 : decode cX1_add 5 = .ok (.getfield 13, 3) := by decide +kernel
theorem dX1_add_8 : decode cX1_add 8 = .ok (.arraylength, 1) := by decide +kernel
theorem dX1_add_9 : decode cX1_add 9 = .ok (.if_icmp .ge 23, 3) := by decide +kernel
theorem dX1_add_12 : decode cX1_add 12 = .ok (.aload_n 0, 1) := by decide +kernel
theorem dX1_add_13 : decode cX1_add 13 = .ok (.getfield 13, 3) := by decide +kernel
theorem dX1_add_16 : decode cX1_add 16 = .ok (.aload_n 0, 1) := by decide +kernel
theorem dX1_add_17 : decode cX1_add 17 = .ok (.getfield 22, 3) := by decide +kernel
theorem dX1_add_20 : decode cX1_add 20 = .ok (.iload_n 1, 1) := by decide +kernel
theorem dX1_add_21 : decode cX1_add 21 = .ok (.iastore, 1) := by decide +kernel
theorem dX1_add_22 : decode cX1_add 22 = .ok (.aload_n 0, 1) := by decide +kernel
theorem dX1_add_23 : decode cX1_add 23 = .ok (.dup, 1) := by decide +kernel
theorem dX1_add_24 : decode cX1_add 24 = .ok (.getfield 22, 3) := by decide +kernel
theorem dX1_add_27 : decode cX1_add 27 = .ok (.iconst 1, 1) := by decide +kernel
theorem dX1_add_28 : decode cX1_add 28 = .ok (.iadd, 1) := by decide +kernel
theorem dX1_add_29 : decode cX1_add 29 = .ok (.putfield 22, 3) := by decide +kernel
theorem dX1_add_32 : decode cX1_add 32 = .ok (.return_, 1) := by decide +kernel
theorem dX1_valueFor_0 : decode cX1_valueFor 0 = .ok (.iconst 0, 1) := by decide +kernel
theorem dX1_valueFor_1 : decode cX1_valueFor 1 = .ok (.istore 5, 2) := by decide +kernel
theorem dX1_valueFor_3 : decode cX1_valueFor 3 = .ok (.iconst 0, 1) := by decide +kernel
theorem dX1_valueFor_4 : decode cX1_valueFor 4 = .ok (.istore 6, 2) := by decide +kernel
theorem dX1_valueFor_6 : decode cX1_valueFor 6 = .ok (.iload 6, 2) := by decide +kernel
theorem dX1_valueFor_8 : decode cX1_valueFor 8 = .ok (.aload_n 0, 1) := by decide +kernel
theorem dX1_valueFor_9 : decode cX1_valueFor 9 = .ok (.getfield 22, 3) := by decide +kernel
theorem dX1_valueFor_12 : decode cX1_valueFor 12 = .ok (.if_icmp .ge 96, 3) := by decide +kernel
theorem dX1_valueFor_15 : decode cX1_valueFor 15 = .ok (.aload_n 0, 1) := by decide +kernel
theorem dX1_valueFor_16 : decode cX1_valueFor 16 = .ok (.getfield 13, 3) := by decide +kernel
theorem dX1_valueFor_19 : decode cX1_valueFor 19 = .ok (.iload 6, 2) := by decide +kernel
theorem dX1_valueFor_21 : decode cX1_valueFor 21 = .ok (.iaload, 1) := by decide +kernel
theorem dX1_valueFor_22 : decode cX1_valueFor 22 = .ok (.istore 7, 2) := by decide +kernel
theorem dX1_valueFor_24 : decode cX1_valueFor 24 = .ok (.iload 7, 2) := by decide +kernel
theorem dX1_valueFor_26 : decode cX1_valueFor 26 = .ok (.bipush (-5), 2) := by decide +kernel
theorem dX1_valueFor_28 : decode cX1_valueFor 28 = .ok (.if_icmp .le 33, 3) := by decide +kernel
theorem dX1_valueFor_31 : decode cX1_valueFor 31 = .ok (.iload 5, 2) := by decide +kernel
theorem dX1_valueFor_33 : decode cX1_valueFor 33 = .ok (.bipush 11, 2) := by decide +kernel
theorem dX1_valueFor_35 : decode cX1_valueFor 35 = .ok (.if_icmp .ge 67, 3) := by decide +kernel
theorem dX1_valueFor_38 : decode cX1_valueFor 38 = .ok (.aload_n 0, 1) := by decide +kernel
theorem dX1_valueFor_39 : decode cX1_valueFor 39 = .ok (.getfield 19, 3) := by decide +kernel
theorem dX1_valueFor_42 : decode cX1_valueFor 42 = .ok (.iload 5, 2) := by decide +kernel
theorem dX1_valueFor_44 : decode cX1_valueFor 44 = .ok (.iload 7, 2) := by decide +kernel
theorem dX1_valueFor_46 : decode cX1_valueFor 46 = .ok (.iload_n 1, 1) := by decide +kernel
theorem dX1_valueFor_47 : decode cX1_valueFor 47 = .ok (.iload_n 2, 1) := by decide +kernel
theorem dX1_valueFor_48 : decode cX1_valueFor 48 = .ok (.iload_n 3, 1) := by decide +kernel
theorem dX1_valueFor_49 : decode cX1_valueFor 49 = .ok (.iload 4, 2) := by decide +kernel
theorem dX1_valueFor_51 : decode cX1_valueFor 51 = .ok (.invokestatic 26, 3) := by decide +kernel
theorem dX1_valueFor_54 : decode cX1_valueFor 54 = .ok (.iastore, 1) := by decide +kernel
theorem dX1_valueFor_55 : decode cX1_valueFor 55 = .ok (.iinc 5 1, 3) := by decide +kernel
theorem dX1_valueFor_58 : decode cX1_valueFor 58 = .ok (.goto 44, 3) := by decide +kernel
theorem dX1_valueFor_61 : decode cX1_valueFor 61 = .ok (.iload 5, 2) := by decide +kernel
theorem dX1_valueFor_63 : decode cX1_valueFor 63 = .ok (.iconst 2, 1) := by decide +kernel
theorem dX1_valueFor_64 : decode cX1_valueFor 64 = .ok (.if_icmp .lt 38, 3) := by decide +kernel
theorem dX1_valueFor_67 : decode cX1_valueFor 67 = .ok (.iinc 5 (-1), 3) := by decide +kernel
theorem dX1_valueFor_70 : decode cX1_valueFor 70 = .ok (.aload_n 0, 1) := by decide +kernel
theorem dX1_valueFor_71 : decode cX1_valueFor 71 = .ok (.getfield 19, 3) := by decide +kernel
theorem dX1_valueFor_74 : decode cX1_valueFor 74 = .ok (.iload 5, 2) := by decide +kernel
theorem dX1_valueFor_76 : decode cX1_valueFor 76 = .ok (.iconst 1, 1) := by decide +kernel
theorem dX1_valueFor_77 : decode cX1_valueFor 77 = .ok (.isub, 1) := by decide +kernel
theorem dX1_valueFor_78 : decode cX1_valueFor 78 = .ok (.iload 7, 2) := by decide +kernel
theorem dX1_valueFor_80 : decode cX1_valueFor 80 = .ok (.aload_n 0, 1) := by decide +kernel
theorem dX1_valueFor_81 : decode cX1_valueFor 81 = .ok (.getfield 19, 3) := by decide +kernel
theorem dX1_valueFor_84 : decode cX1_valueFor 84 = .ok (.iload 5, 2) := by decide +kernel
theorem dX1_valueFor_86 : decode cX1_valueFor 86 = .ok (.iconst 1, 1) := by decide +kernel
theorem dX1_valueFor_87 : decode cX1_valueFor 87 = .ok (.isub, 1) := by decide +kernel
theorem dX1_valueFor_88 : decode cX1_valueFor 88 = .ok (.iaload, 1) := by decide +kernel
theorem dX1_valueFor_89 : decode cX1_valueFor 89 = .ok (.i2l, 1) := by decide +kernel
theorem dX1_valueFor_90 : decode cX1_valueFor 90 = .ok (.aload_n 0, 1) := by decide +kernel
theorem dX1_valueFor_91 : decode cX1_valueFor 91 = .ok (.getfield 19, 3) := by decide +kernel
theorem dX1_valueFor_94 : decode cX1_valueFor 94 = .ok (.iload 5, 2) := by decide +kernel
theorem dX1_valueFor_96 : decode cX1_valueFor 96 = .ok (.iaload, 1) := by decide +kernel
theorem dX1_valueFor_97 : decode cX1_valueFor 97 = .ok (.i2l, 1) := by decide +kernel
theorem dX1_valueFor_98 : decode cX1_valueFor 98 = .ok (.invokestatic 30, 3) := by decide +kernel
theorem dX1_valueFor_101 : decode cX1_valueFor 101 = .ok (.iastore, 1) := by decide +kernel
theorem dX1_valueFor_102 : decode cX1_valueFor 102 = .ok (.iinc 6 1, 3) := by decide +kernel
theorem dX1_valueFor_105 : decode cX1_valueFor 105 = .ok (.goto (-99), 3) := by decide +kernel
theorem dX1_valueFor_108 : decode cX1_valueFor 108 = .ok (.iload 5, 2) := by decide +kernel
theorem dX1_valueFor_110 : decode cX1_valueFor 110 = .ok (.ifCond .le 15, 3) := by decide +kernel
theorem dX1_valueFor_113 : decode cX1_valueFor 113 = .ok (.aload_n 0, 1) := by decide +kernel
theorem dX1_valueFor_114 : decode cX1_valueFor 114 = .ok (.getfield 19, 3) := by decide +kernel
theorem dX1_valueFor_117 : decode cX1_valueFor 117 = .ok (.iload 5, 2) := by decide +kernel
theorem dX1_valueFor_119 : decode cX1_valueFor 119 = .ok (.iconst 1, 1) := by decide +kernel
theorem dX1_valueFor_120 : decode cX1_valueFor 120 = .ok (.isub, 1) := by decide +kernel
theorem dX1_valueFor_121 : decode cX1_valueFor 121 = .ok (.iaload, 1) := by decide +kernel
theorem dX1_valueFor_122 : decode cX1_valueFor 122 = .ok (.goto 4, 3) := by decide +kernel
theorem dX1_valueFor_125 : decode cX1_valueFor 125 = .ok (.iconst 0, 1) := by decide +kernel
theorem dX1_valueFor_126 : decode cX1_valueFor 126 = .ok (.ireturn, 1) := by decide +kernel
theorem dX1_operand_0 : decode cX1_operand 0 = .ok (.iload_n 0, 1) := by decide +kernel
theorem dX1_operand_1 : decode cX1_operand 1 = .ok (.tableswitch 40 (-4) (-1) #[37, 35, 33, 31], 31) := by decide +kernel
theorem dX1_operand_32 : decode cX1_operand 32 = .ok (.iload_n 1, 1) := by decide +kernel
theorem dX1_operand_33 : decode cX1_operand 33 = .ok (.ireturn, 1) := by decide +kernel
theorem dX1_operand_34 : decode cX1_operand 34 = .ok (.iload_n 2, 1) := by decide +kernel
theorem dX1_operand_35 : decode cX1_operand 35 = .ok (.ireturn, 1) := by decide +kernel
theorem dX1_operand_36 : decode cX1_operand 36 = .ok (.iload_n 3, 1) := by decide +kernel
theorem dX1_operand_37 : decode cX1_operand 37 = .ok (.ireturn, 1) := by decide +kernel
theorem dX1_operand_38 : decode cX1_operand 38 = .ok (.iload 4, 2) := by decide +kernel
theorem dX1_operand_40 : decode cX1_operand 40 = .ok (.ireturn, 1) := by decide +kernel
theorem dX1_operand_41 : decode cX1_operand 41 = .ok (.iload_n 0, 1) := by decide +kernel
theorem dX1_operand_42 : decode cX1_operand 42 = .ok (.ireturn, 1) := by decide +kernel
theorem dX1_result_0 : decode cX1_result 0 = .ok (.iload_n 0, 1) := by decide +kernel
theorem dX1_result_1 : decode cX1_result 1 = .ok (.tableswitch 51 (-7) (-5) #[43, 35, 27], 27) := by decide +kernel
theorem dX1_result_28 : decode cX1_result 28 = .ok (.lload_n 1, 1) := by decide +kernel
theorem dX1_result_29 : decode cX1_result 29 = .ok (.lload_n 3, 1) := by decide +kernel
theorem dX1_result_30 : decode cX1_result 30 = .ok (.ladd, 1) := by decide +kernel
theorem dX1_result_31 : decode cX1_result 31 = .ok (.lstore 5, 2) := by decide +kernel
theorem dX1_result_33 : decode cX1_result 33 = .ok (.goto 34, 3) := by decide +kernel
theorem dX1_result_36 : decode cX1_result 36 = .ok (.lload_n 1, 1) := by decide +kernel
theorem dX1_result_37 : decode cX1_result 37 = .ok (.lload_n 3, 1) := by decide +kernel
theorem dX1_result_38 : decode cX1_result 38 = .ok (.lsub, 1) := by decide +kernel
theorem dX1_result_39 : decode cX1_result 39 = .ok (.lstore 5, 2) := by decide +kernel
theorem dX1_result_41 : decode cX1_result 41 = .ok (.goto 26, 3) := by decide +kernel
theorem dX1_result_44 : decode cX1_result 44 = .ok (.lload_n 1, 1) := by decide +kernel
theorem dX1_result_45 : decode cX1_result 45 = .ok (.lload_n 3, 1) := by decide +kernel
theorem dX1_result_46 : decode cX1_result 46 = .ok (.lmul, 1) := by decide +kernel
theorem dX1_result_47 : decode cX1_result 47 = .ok (.lstore 5, 2) := by decide +kernel
theorem dX1_result_49 : decode cX1_result 49 = .ok (.goto 18, 3) := by decide +kernel
theorem dX1_result_52 : decode cX1_result 52 = .ok (.lload_n 3, 1) := by decide +kernel
theorem dX1_result_53 : decode cX1_result 53 = .ok (.lconst 0, 1) := by decide +kernel
theorem dX1_result_54 : decode cX1_result 54 = .ok (.lcmp, 1) := by decide +kernel
theorem dX1_result_55 : decode cX1_result 55 = .ok (.ifCond .ne 7, 3) := by decide +kernel
theorem dX1_result_58 : decode cX1_result 58 = .ok (.lconst 0, 1) := by decide +kernel
theorem dX1_result_59 : decode cX1_result 59 = .ok (.goto 6, 3) := by decide +kernel
theorem dX1_result_62 : decode cX1_result 62 = .ok (.lload_n 1, 1) := by decide +kernel
theorem dX1_result_63 : decode cX1_result 63 = .ok (.lload_n 3, 1) := by decide +kernel
theorem dX1_result_64 : decode cX1_result 64 = .ok (.ldiv, 1) := by decide +kernel
theorem dX1_result_65 : decode cX1_result 65 = .ok (.lstore 5, 2) := by decide +kernel
theorem dX1_result_67 : decode cX1_result 67 = .ok (.ldc2_w 34, 3) := by decide +kernel
theorem dX1_result_70 : decode cX1_result 70 = .ok (.ldc2_w 36, 3) := by decide +kernel
theorem dX1_result_73 : decode cX1_result 73 = .ok (.lload 5, 2) := by decide +kernel
theorem dX1_result_75 : decode cX1_result 75 = .ok (.invokestatic 38, 3) := by decide +kernel
theorem dX1_result_78 : decode cX1_result 78 = .ok (.invokestatic 42, 3) := by decide +kernel
theorem dX1_result_81 : decode cX1_result 81 = .ok (.l2i, 1) := by decide +kernel
theorem dX1_result_82 : decode cX1_result 82 = .ok (.ireturn, 1) := by decide +kernel
