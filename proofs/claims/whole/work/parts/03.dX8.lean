theorem dX8_init_0 : decode cX8_init 0 = .ok (.aload_n 0, 1) := by decide +kernel
theorem dX8_init_1 : decode cX8_init 1 = .ok (.invokespecial 3, 3) := by decide +kernel
theorem dX8_init_4 : decode cX8_init 4 = .ok (.aload_n 0, 1) := by decide +kernel
theorem dX8_init_5 : decode cX8_init 5 = .ok (.sipush 900, 3) := by decide +kernel
theorem dX8_init_8 : decode cX8_init 8 = .ok (.newarray .int, 2) := by decide +kernel
theorem dX8_init_10 : decode cX8_init 10 = .ok (.putfield 9, 3) := by decide +kernel
theorem dX8_init_13 : decode cX8_init 13 = .ok (.aload_n 0, 1) := by decide +kernel
theorem dX8_init_14 : decode cX8_init 14 = .ok (.iconst (-1), 1) := by decide +kernel
theorem dX8_init_15 : decode cX8_init 15 = .ok (.putfield 13, 3) := by decide +kernel
theorem dX8_init_18 : decode cX8_init 18 = .ok (.aload_n 0, 1) := by decide +kernel
theorem dX8_init_19 : decode cX8_init 19 = .ok (.sipush 1824, 3) := by decide +kernel
theorem dX8_init_22 : decode cX8_init 22 = .ok (.newarray .int, 2) := by decide +kernel
theorem dX8_init_24 : decode cX8_init 24 = .ok (.putfield 17, 3) := by decide +kernel
theorem dX8_init_27 : decode cX8_init 27 = .ok (.aload_n 0, 1) := by decide +kernel
theorem dX8_init_28 : decode cX8_init 28 = .ok (.sipush 1824, 3) := by decide +kernel
theorem dX8_init_31 : decode cX8_init 31 = .ok (.newarray .int, 2) := by decide +kernel
theorem dX8_init_33 : decode cX8_init 33 = .ok (.putfield 20, 3) := by decide +kernel
theorem dX8_init_36 : decode cX8_init 36 = .ok (.aload_n 0, 1) := by decide +kernel
theorem dX8_init_37 : decode cX8_init 37 = .ok (.sipush 1824, 3) := by decide +kernel
theorem dX8_init_40 : decode cX8_init 40 = .ok (.newarray .int, 2) := by decide +kernel
theorem dX8_init_42 : decode cX8_init 42 = .ok (.putfield 23, 3) := by decide +kernel
theorem dX8_init_45 : decode cX8_init 45 = .ok (.aload_n 0, 1) := by decide +kernel
theorem dX8_init_46 : decode cX8_init 46 = .ok (.bipush 8, 2) := by decide +kernel
theorem dX8_init_48 : decode cX8_init 48 = .ok (.sipush 1824, 3) := by decide +kernel
theorem dX8_init_51 : decode cX8_init 51 = .ok (.multianewarray 26 2, 4) := by decide +kernel
theorem dX8_init_55 : decode cX8_init 55 = .ok (.putfield 28, 3) := by decide +kernel
theorem dX8_init_58 : decode cX8_init 58 = .ok (.aload_n 0, 1) := by decide +kernel
theorem dX8_init_59 : decode cX8_init 59 = .ok (.sipush 1500, 3) := by decide +kernel
theorem dX8_init_62 : decode cX8_init 62 = .ok (.newarray .long, 2) := by decide +kernel
theorem dX8_init_64 : decode cX8_init 64 = .ok (.putfield 31, 3) := by decide +kernel
theorem dX8_init_67 : decode cX8_init 67 = .ok (.aload_n 0, 1) := by decide +kernel
theorem dX8_init_68 : decode cX8_init 68 = .ok (.getfield 17, 3) := by decide +kernel
theorem dX8_init_71 : decode cX8_init 71 = .ok (.invokestatic 35, 3) := by decide +kernel
theorem dX8_init_74 : decode cX8_init 74 = .ok (.return_, 1) := by decide +kernel
theorem dX8_thrown_0 : decode cX8_thrown 0 = .ok (.aload_n 0, 1) := by decide +kernel
theorem dX8_thrown_1 : decode cX8_thrown 1 = .ok (.getfield 39, 3) := by decide +kernel
theorem dX8_thrown_4 : decode cX8_thrown 4 = .ok (.ireturn, 1) := by decide +kernel
theorem dX8_fails_0 : decode cX8_fails 0 = .ok (.iload_n 1, 1) := by decide +kernel
theorem dX8_fails_1 : decode cX8_fails 1 = .ok (.ifCond .eq 15, 3) := by decide +kernel
theorem dX8_fails_4 : decode cX8_fails 4 = .ok (.aload_n 0, 1) := by decide +kernel
theorem dX8_fails_5 : decode cX8_fails 5 = .ok (.getfield 39, 3) := by decide +kernel
theorem dX8_fails_8 : decode cX8_fails 8 = .ok (.ifCond .ne 8, 3) := by decide +kernel
theorem dX8_fails_11 : decode cX8_fails 11 = .ok (.aload_n 0, 1) := by decide +kernel
theorem dX8_fails_12 : decode cX8_fails 12 = .ok (.iload_n 2, 1) := by decide +kernel
theorem dX8_fails_13 : decode cX8_fails 13 = .ok (.putfield 39, 3) := by decide +kernel
theorem dX8_fails_16 : decode cX8_fails 16 = .ok (.aload_n 0, 1) := by decide +kernel
theorem dX8_fails_17 : decode cX8_fails 17 = .ok (.getfield 39, 3) := by decide +kernel
theorem dX8_fails_20 : decode cX8_fails 20 = .ok (.ifCond .eq 7, 3) := by decide +kernel
theorem dX8_fails_23 : decode cX8_fails 23 = .ok (.iconst 1, 1) := by decide +kernel
theorem dX8_fails_24 : decode cX8_fails 24 = .ok (.goto 4, 3) := by decide +kernel
theorem dX8_fails_27 : decode cX8_fails 27 = .ok (.iconst 0, 1) := by decide +kernel
theorem dX8_fails_28 : decode cX8_fails 28 = .ok (.ireturn, 1) := by decide +kernel
theorem dX8_in_0 : decode cX8_in 0 = .ok (.iload_n 0, 1) := by decide +kernel
theorem dX8_in_1 : decode cX8_in 1 = .ok (.iload_n 1, 1) := by decide +kernel
theorem dX8_in_2 : decode cX8_in 2 = .ok (.if_icmp .lt 12, 3) := by decide +kernel
theorem dX8_in_5 : decode cX8_in 5 = .ok (.iload_n 0, 1) := by decide +kernel
theorem dX8_in_6 : decode cX8_in 6 = .ok (.iload_n 2, 1) := by decide +kernel
theorem dX8_in_7 : decode cX8_in 7 = .ok (.if_icmp .gt 7, 3) := by decide +kernel
theorem dX8_in_10 : decode cX8_in 10 = .ok (.iconst 1, 1) := by decide +kernel
theorem dX8_in_11 : decode cX8_in 11 = .ok (.goto 4, 3) := by decide +kernel
theorem dX8_in_14 : decode cX8_in 14 = .ok (.iconst 0, 1) := by decide +kernel
theorem dX8_in_15 : decode cX8_in 15 = .ok (.ireturn, 1) := by decide +kernel
theorem dX8_min_0 : decode cX8_min 0 = .ok (.iload_n 0, 1) := by decide +kernel
theorem dX8_min_1 : decode cX8_min 1 = .ok (.iload_n 1, 1) := by decide +kernel
theorem dX8_min_2 : decode cX8_min 2 = .ok (.if_icmp .ge 7, 3) := by decide +kernel
theorem dX8_min_5 : decode cX8_min 5 = .ok (.iload_n 0, 1) := by decide +kernel
theorem dX8_min_6 : decode cX8_min 6 = .ok (.goto 4, 3) := by decide +kernel
theorem dX8_min_9 : decode cX8_min 9 = .ok (.iload_n 1, 1) := by decide +kernel
theorem dX8_min_10 : decode cX8_min 10 = .ok (.ireturn, 1) := by decide +kernel
theorem dX8_copy_0 : decode cX8_copy 0 = .ok (.iconst 0, 1) := by decide +kernel
theorem dX8_copy_1 : decode cX8_copy 1 = .ok (.istore_n 2, 1) := by decide +kernel
theorem dX8_copy_2 : decode cX8_copy 2 = .ok (.iload_n 2, 1) := by decide +kernel
theorem dX8_copy_3 : decode cX8_copy 3 = .ok (.sipush 1824, 3) := by decide +kernel
theorem dX8_copy_6 : decode cX8_copy 6 = .ok (.if_icmp .ge 15, 3) := by decide +kernel
theorem dX8_copy_9 : decode cX8_copy 9 = .ok (.aload_n 1, 1) := by decide +kernel
theorem dX8_copy_10 : decode cX8_copy 10 = .ok (.iload_n 2, 1) := by decide +kernel
theorem dX8_copy_11 : decode cX8_copy 11 = .ok (.aload_n 0, 1) := by decide +kernel
theorem dX8_copy_12 : decode cX8_copy 12 = .ok (.iload_n 2, 1) := by decide +kernel
theorem dX8_copy_13 : decode cX8_copy 13 = .ok (.iaload, 1) := by decide +kernel
theorem dX8_copy_14 : decode cX8_copy 14 = .ok (.iastore, 1) := by decide +kernel
theorem dX8_copy_15 : decode cX8_copy 15 = .ok (.iinc 2 1, 3) := by decide +kernel
theorem dX8_copy_18 : decode cX8_copy 18 = .ok (.goto (-16), 3) := by decide +kernel
theorem dX8_copy_21 : decode cX8_copy 21 = .ok (.return_, 1) := by decide +kernel
theorem dX8_clear_0 : decode cX8_clear 0 = .ok (.iconst 0, 1) := by decide +kernel
theorem dX8_clear_1 : decode cX8_clear 1 = .ok (.istore_n 1, 1) := by decide +kernel
theorem dX8_clear_2 : decode cX8_clear 2 = .ok (.iload_n 1, 1) := by decide +kernel
theorem dX8_clear_3 : decode cX8_clear 3 = .ok (.sipush 1824, 3) := by decide +kernel
theorem dX8_clear_6 : decode cX8_clear 6 = .ok (.if_icmp .ge 13, 3) := by decide +kernel
theorem dX8_clear_9 : decode cX8_clear 9 = .ok (.aload_n 0, 1) := by decide +kernel
theorem dX8_clear_10 : decode cX8_clear 10 = .ok (.iload_n 1, 1) := by decide +kernel
theorem dX8_clear_11 : decode cX8_clear 11 = .ok (.iconst 0, 1) := by decide +kernel
theorem dX8_clear_12 : decode cX8_clear 12 = .ok (.iastore, 1) := by decide +kernel
theorem dX8_clear_13 : decode cX8_clear 13 = .ok (.iinc 1 1, 3) := by decide +kernel
theorem dX8_clear_16 : decode cX8_clear 16 = .ok (.goto (-14), 3) := by decide +kernel
theorem dX8_clear_19 : decode cX8_clear 19 = .ok (.aload_n 0, 1) := by decide +kernel
theorem dX8_clear_20 : decode cX8_clear 20 = .ok (.iconst 0, 1) := by decide +kernel
theorem dX8_clear_21 : decode cX8_clear 21 = .ok (.iconst 1, 1) := by decide +kernel
theorem dX8_clear_22 : decode cX8_clear 22 = .ok (.iastore, 1) := by decide +kernel
theorem dX8_clear_23 : decode cX8_clear 23 = .ok (.aload_n 0, 1) := by decide +kernel
theorem dX8_clear_24 : decode cX8_clear 24 = .ok (.iconst 1, 1) := by decide +kernel
theorem dX8_clear_25 : decode cX8_clear 25 = .ok (.iconst 1, 1) := by decide +kernel
theorem dX8_clear_26 : decode cX8_clear 26 = .ok (.iastore, 1) := by decide +kernel
theorem dX8_clear_27 : decode cX8_clear 27 = .ok (.aload_n 0, 1) := by decide +kernel
theorem dX8_clear_28 : decode cX8_clear 28 = .ok (.bipush 8, 2) := by decide +kernel
theorem dX8_clear_30 : decode cX8_clear 30 = .ok (.bipush 100, 2) := by decide +kernel
theorem dX8_clear_32 : decode cX8_clear 32 = .ok (.iastore, 1) := by decide +kernel
theorem dX8_clear_33 : decode cX8_clear 33 = .ok (.return_, 1) := by decide +kernel
theorem dX8_reason_0 : decode cX8_reason 0 = .ok (.bipush 20, 2) := by decide +kernel
theorem dX8_reason_2 : decode cX8_reason 2 = .ok (.bipush 6, 2) := by decide +kernel
theorem dX8_reason_4 : decode cX8_reason 4 = .ok (.iload_n 0, 1) := by decide +kernel
theorem dX8_reason_5 : decode cX8_reason 5 = .ok (.imul, 1) := by decide +kernel
theorem dX8_reason_6 : decode cX8_reason 6 = .ok (.iadd, 1) := by decide +kernel
theorem dX8_reason_7 : decode cX8_reason 7 = .ok (.ireturn, 1) := by decide +kernel
theorem dX8_purchase_0 : decode cX8_purchase 0 = .ok (.bipush 68, 2) := by decide +kernel
theorem dX8_purchase_2 : decode cX8_purchase 2 = .ok (.iconst 4, 1) := by decide +kernel
theorem dX8_purchase_3 : decode cX8_purchase 3 = .ok (.iload_n 0, 1) := by decide +kernel
theorem dX8_purchase_4 : decode cX8_purchase 4 = .ok (.imul, 1) := by decide +kernel
theorem dX8_purchase_5 : decode cX8_purchase 5 = .ok (.iadd, 1) := by decide +kernel
theorem dX8_purchase_6 : decode cX8_purchase 6 = .ok (.ireturn, 1) := by decide +kernel
theorem dX8_dispute_0 : decode cX8_dispute 0 = .ok (.sipush 164, 3) := by decide +kernel
theorem dX8_dispute_3 : decode cX8_dispute 3 = .ok (.bipush 8, 2) := by decide +kernel
theorem dX8_dispute_5 : decode cX8_dispute 5 = .ok (.iload_n 0, 1) := by decide +kernel
theorem dX8_dispute_6 : decode cX8_dispute 6 = .ok (.imul, 1) := by decide +kernel
theorem dX8_dispute_7 : decode cX8_dispute 7 = .ok (.iadd, 1) := by decide +kernel
theorem dX8_dispute_8 : decode cX8_dispute 8 = .ok (.ireturn, 1) := by decide +kernel
theorem dX8_append_0 : decode cX8_append 0 = .ok (.aload_n 0, 1) := by decide +kernel
theorem dX8_append_1 : decode cX8_append 1 = .ok (.iconst 0, 1) := by decide +kernel
theorem dX8_append_2 : decode cX8_append 2 = .ok (.putfield 39, 3) := by decide +kernel
theorem dX8_append_5 : decode cX8_append 5 = .ok (.aload_n 0, 1) := by decide +kernel
theorem dX8_append_6 : decode cX8_append 6 = .ok (.getfield 42, 3) := by decide +kernel
theorem dX8_append_9 : decode cX8_append 9 = .ok (.bipush 20, 2) := by decide +kernel
theorem dX8_append_11 : decode cX8_append 11 = .ok (.iadd, 1) := by decide +kernel
theorem dX8_append_12 : decode cX8_append 12 = .ok (.sipush 900, 3) := by decide +kernel
theorem dX8_append_15 : decode cX8_append 15 = .ok (.if_icmp .le 5, 3) := by decide +kernel
theorem dX8_append_18 : decode cX8_append 18 = .ok (.iconst (-1), 1) := by decide +kernel
theorem dX8_append_19 : decode cX8_append 19 = .ok (.ireturn, 1) := by decide +kernel
theorem dX8_append_20 : decode cX8_append 20 = .ok (.iconst 0, 1) := by decide +kernel
theorem dX8_append_21 : decode cX8_append 21 = .ok (.istore 6, 2) := by decide +kernel
theorem dX8_append_23 : decode cX8_append 23 = .ok (.iload 6, 2) := by decide +kernel
theorem dX8_append_25 : decode cX8_append 25 = .ok (.bipush 20, 2) := by decide +kernel
theorem dX8_append_27 : decode cX8_append 27 = .ok (.if_icmp .ge 93, 3) := by decide +kernel
theorem dX8_append_30 : decode cX8_append 30 = .ok (.iload 6, 2) := by decide +kernel
theorem dX8_append_32 : decode cX8_append 32 = .ok (.iconst 4, 1) := by decide +kernel
theorem dX8_append_33 : decode cX8_append 33 = .ok (.if_icmp .ge 7, 3) := by decide +kernel
theorem dX8_append_36 : decode cX8_append 36 = .ok (.iload_n 1, 1) := by decide +kernel
theorem dX8_append_37 : decode cX8_append 37 = .ok (.goto 39, 3) := by decide +kernel
theorem dX8_append_40 : decode cX8_append 40 = .ok (.iload 6, 2) := by decide +kernel
theorem dX8_append_42 : decode cX8_append 42 = .ok (.bipush 8, 2) := by decide +kernel
theorem dX8_append_44 : decode cX8_append 44 = .ok (.if_icmp .ge 7, 3) := by decide +kernel
theorem dX8_append_47 : decode cX8_append 47 = .ok (.iload_n 2, 1) := by decide +kernel
theorem dX8_append_48 : decode cX8_append 48 = .ok (.goto 28, 3) := by decide +kernel
theorem dX8_append_51 : decode cX8_append 51 = .ok (.iload 6, 2) := by decide +kernel
theorem dX8_append_53 : decode cX8_append 53 = .ok (.bipush 12, 2) := by decide +kernel
theorem dX8_append_55 : decode cX8_append 55 = .ok (.if_icmp .ge 7, 3) := by decide +kernel
theorem dX8_append_58 : decode cX8_append 58 = .ok (.iload_n 3, 1) := by decide +kernel
theorem dX8_append_59 : decode cX8_append 59 = .ok (.goto 17, 3) := by decide +kernel
theorem dX8_append_62 : decode cX8_append 62 = .ok (.iload 6, 2) := by decide +kernel
theorem dX8_append_64 : decode cX8_append 64 = .ok (.bipush 16, 2) := by decide +kernel
theorem dX8_append_66 : decode cX8_append 66 = .ok (.if_icmp .ge 8, 3) := by decide +kernel
theorem dX8_append_69 : decode cX8_append 69 = .ok (.iload 4, 2) := by decide +kernel
theorem dX8_append_71 : decode cX8_append 71 = .ok (.goto 5, 3) := by decide +kernel
theorem dX8_append_74 : decode cX8_append 74 = .ok (.iload 5, 2) := by decide +kernel
theorem dX8_append_76 : decode cX8_append 76 = .ok (.istore 7, 2) := by decide +kernel
theorem dX8_append_78 : decode cX8_append 78 = .ok (.aload_n 0, 1) := by decide +kernel
theorem dX8_append_79 : decode cX8_append 79 = .ok (.getfield 9, 3) := by decide +kernel
theorem dX8_append_82 : decode cX8_append 82 = .ok (.aload_n 0, 1) := by decide +kernel
theorem dX8_append_83 : decode cX8_append 83 = .ok (.getfield 42, 3) := by decide +kernel
theorem dX8_append_86 : decode cX8_append 86 = .ok (.iload 7, 2) := by decide +kernel
theorem dX8_append_88 : decode cX8_append 88 = .ok (.bipush 24, 2) := by decide +kernel
theorem dX8_append_90 : decode cX8_append 90 = .ok (.bipush 8, 2) := by decide +kernel
theorem dX8_append_92 : decode cX8_append 92 = .ok (.iload 6, 2) := by decide +kernel
theorem dX8_append_94 : decode cX8_append 94 = .ok (.iconst 4, 1) := by decide +kernel
theorem dX8_append_95 : decode cX8_append 95 = .ok (.irem, 1) := by decide +kernel
theorem dX8_append_96 : decode cX8_append 96 = .ok (.imul, 1) := by decide +kernel
theorem dX8_append_97 : decode cX8_append 97 = .ok (.isub, 1) := by decide +kernel
theorem dX8_append_98 : decode cX8_append 98 = .ok (.ishr, 1) := by decide +kernel
theorem dX8_append_99 : decode cX8_append 99 = .ok (.sipush 255, 3) := by decide +kernel
theorem dX8_append_102 : decode cX8_append 102 = .ok (.iand, 1) := by decide +kernel
theorem dX8_append_103 : decode cX8_append 103 = .ok (.iastore, 1) := by decide +kernel
theorem dX8_append_104 : decode cX8_append 104 = .ok (.aload_n 0, 1) := by decide +kernel
theorem dX8_append_105 : decode cX8_append 105 = .ok (.dup, 1) := by decide +kernel
theorem dX8_append_106 : decode cX8_append 106 = .ok (.getfield 42, 3) := by decide +kernel
theorem dX8_append_109 : decode cX8_append 109 = .ok (.iconst 1, 1) := by decide +kernel
theorem dX8_append_110 : decode cX8_append 110 = .ok (.iadd, 1) := by decide +kernel
theorem dX8_append_111 : decode cX8_append 111 = .ok (.putfield 42, 3) := by decide +kernel
theorem dX8_append_114 : decode cX8_append 114 = .ok (.iinc 6 1, 3) := by decide +kernel
theorem dX8_append_117 : decode cX8_append 117 = .ok (.goto (-94), 3) := by decide +kernel
theorem dX8_append_120 : decode cX8_append 120 = .ok (.aload_n 0, 1) := by decide +kernel
theorem dX8_append_121 : decode cX8_append 121 = .ok (.getfield 42, 3) := by decide +kernel
theorem dX8_append_124 : decode cX8_append 124 = .ok (.ireturn, 1) := by decide +kernel
theorem dX8_byteAt_0 : decode cX8_byteAt 0 = .ok (.iload_n 1, 1) := by decide +kernel
theorem dX8_byteAt_1 : decode cX8_byteAt 1 = .ok (.aload_n 0, 1) := by decide +kernel
theorem dX8_byteAt_2 : decode cX8_byteAt 2 = .ok (.getfield 45, 3) := by decide +kernel
theorem dX8_byteAt_5 : decode cX8_byteAt 5 = .ok (.if_icmp .ge 12, 3) := by decide +kernel
theorem dX8_byteAt_8 : decode cX8_byteAt 8 = .ok (.aload_n 0, 1) := by decide +kernel
theorem dX8_byteAt_9 : decode cX8_byteAt 9 = .ok (.getfield 9, 3) := by decide +kernel
theorem dX8_byteAt_12 : decode cX8_byteAt 12 = .ok (.iload_n 1, 1) := by decide +kernel
theorem dX8_byteAt_13 : decode cX8_byteAt 13 = .ok (.iaload, 1) := by decide +kernel
theorem dX8_byteAt_14 : decode cX8_byteAt 14 = .ok (.goto 4, 3) := by decide +kernel
theorem dX8_byteAt_17 : decode cX8_byteAt 17 = .ok (.iconst (-1), 1) := by decide +kernel
theorem dX8_byteAt_18 : decode cX8_byteAt 18 = .ok (.ireturn, 1) := by decide +kernel
theorem dX8_next_0 : decode cX8_next 0 = .ok (.aload_n 0, 1) := by decide +kernel
theorem dX8_next_1 : decode cX8_next 1 = .ok (.aload_n 0, 1) := by decide +kernel
theorem dX8_next_2 : decode cX8_next 2 = .ok (.getfield 48, 3) := by decide +kernel
theorem dX8_next_5 : decode cX8_next 5 = .ok (.invokevirtual 51, 3) := by decide +kernel
theorem dX8_next_8 : decode cX8_next 8 = .ok (.bipush 32, 2) := by decide +kernel
theorem dX8_next_10 : decode cX8_next 10 = .ok (.if_icmp .ne 16, 3) := by decide +kernel
theorem dX8_next_13 : decode cX8_next 13 = .ok (.aload_n 0, 1) := by decide +kernel
theorem dX8_next_14 : decode cX8_next 14 = .ok (.dup, 1) := by decide +kernel
theorem dX8_next_15 : decode cX8_next 15 = .ok (.getfield 48, 3) := by decide +kernel
theorem dX8_next_18 : decode cX8_next 18 = .ok (.iconst 1, 1) := by decide +kernel
theorem dX8_next_19 : decode cX8_next 19 = .ok (.iadd, 1) := by decide +kernel
theorem dX8_next_20 : decode cX8_next 20 = .ok (.putfield 48, 3) := by decide +kernel
theorem dX8_next_23 : decode cX8_next 23 = .ok (.goto (-23), 3) := by decide +kernel
theorem dX8_next_26 : decode cX8_next 26 = .ok (.aload_n 0, 1) := by decide +kernel
theorem dX8_next_27 : decode cX8_next 27 = .ok (.aload_n 0, 1) := by decide +kernel
theorem dX8_next_28 : decode cX8_next 28 = .ok (.getfield 48, 3) := by decide +kernel
theorem dX8_next_31 : decode cX8_next 31 = .ok (.invokevirtual 51, 3) := by decide +kernel
theorem dX8_next_34 : decode cX8_next 34 = .ok (.ireturn, 1) := by decide +kernel
theorem dX8_isGood_0 : decode cX8_isGood 0 = .ok (.aload_n 0, 1) := by decide +kernel
theorem dX8_isGood_1 : decode cX8_isGood 1 = .ok (.getfield 55, 3) := by decide +kernel
theorem dX8_isGood_4 : decode cX8_isGood 4 = .ok (.ifCond .ne 7, 3) := by decide +kernel
theorem dX8_isGood_7 : decode cX8_isGood 7 = .ok (.iconst 1, 1) := by decide +kernel
theorem dX8_isGood_8 : decode cX8_isGood 8 = .ok (.goto 4, 3) := by decide +kernel
theorem dX8_isGood_11 : decode cX8_isGood 11 = .ok (.iconst 0, 1) := by decide +kernel
theorem dX8_isGood_12 : decode cX8_isGood 12 = .ok (.ireturn, 1) := by decide +kernel
theorem dX8_report_0 : decode cX8_report 0 = .ok (.aload_n 0, 1) := by decide +kernel
theorem dX8_report_1 : decode cX8_report 1 = .ok (.getfield 55, 3) := by decide +kernel
theorem dX8_report_4 : decode cX8_report 4 = .ok (.ifCond .eq 4, 3) := by decide +kernel
theorem dX8_report_7 : decode cX8_report 7 = .ok (.return_, 1) := by decide +kernel
theorem dX8_report_8 : decode cX8_report 8 = .ok (.aload_n 0, 1) := by decide +kernel
theorem dX8_report_9 : decode cX8_report 9 = .ok (.iload_n 1, 1) := by decide +kernel
theorem dX8_report_10 : decode cX8_report 10 = .ok (.putfield 55, 3) := by decide +kernel
theorem dX8_report_13 : decode cX8_report 13 = .ok (.aload_n 0, 1) := by decide +kernel
theorem dX8_report_14 : decode cX8_report 14 = .ok (.iload_n 2, 1) := by decide +kernel
theorem dX8_report_15 : decode cX8_report 15 = .ok (.putfield 58, 3) := by decide +kernel
theorem dX8_report_18 : decode cX8_report 18 = .ok (.return_, 1) := by decide +kernel
theorem dX8_isDigit_0 : decode cX8_isDigit 0 = .ok (.iload_n 0, 1) := by decide +kernel
theorem dX8_isDigit_1 : decode cX8_isDigit 1 = .ok (.bipush 48, 2) := by decide +kernel
theorem dX8_isDigit_3 : decode cX8_isDigit 3 = .ok (.bipush 57, 2) := by decide +kernel
theorem dX8_isDigit_5 : decode cX8_isDigit 5 = .ok (.invokestatic 61, 3) := by decide +kernel
theorem dX8_isDigit_8 : decode cX8_isDigit 8 = .ok (.ireturn, 1) := by decide +kernel
theorem dX8_takeWord_0 : decode cX8_takeWord 0 = .ok (.aload_n 0, 1) := by decide +kernel
theorem dX8_takeWord_1 : decode cX8_takeWord 1 = .ok (.invokevirtual 65, 3) := by decide +kernel
theorem dX8_takeWord_4 : decode cX8_takeWord 4 = .ok (.ifCond .ne 5, 3) := by decide +kernel
theorem dX8_takeWord_7 : decode cX8_takeWord 7 = .ok (.iconst 0, 1) := by decide +kernel
theorem dX8_takeWord_8 : decode cX8_takeWord 8 = .ok (.ireturn, 1) := by decide +kernel
theorem dX8_takeWord_9 : decode cX8_takeWord 9 = .ok (.aload_n 0, 1) := by decide +kernel
theorem dX8_takeWord_10 : decode cX8_takeWord 10 = .ok (.invokevirtual 69, 3) := by decide +kernel
theorem dX8_takeWord_13 : decode cX8_takeWord 13 = .ok (.pop, 1) := by decide +kernel
theorem dX8_takeWord_14 : decode cX8_takeWord 14 = .ok (.iconst 0, 1) := by decide +kernel
theorem dX8_takeWord_15 : decode cX8_takeWord 15 = .ok (.istore_n 2, 1) := by decide +kernel
theorem dX8_takeWord_16 : decode cX8_takeWord 16 = .ok (.iload_n 2, 1) := by decide +kernel
theorem dX8_takeWord_17 : decode cX8_takeWord 17 = .ok (.aload_n 1, 1) := by decide +kernel
theorem dX8_takeWord_18 : decode cX8_takeWord 18 = .ok (.invokevirtual 73, 3) := by decide +kernel
theorem dX8_takeWord_21 : decode cX8_takeWord 21 = .ok (.if_icmp .ge 27, 3) := by decide +kernel
theorem dX8_takeWord_24 : decode cX8_takeWord 24 = .ok (.aload_n 0, 1) := by decide +kernel
theorem dX8_takeWord_25 : decode cX8_takeWord 25 = .ok (.aload_n 0, 1) := by decide +kernel
theorem dX8_takeWord_26 : decode cX8_takeWord 26 = .ok (.getfield 48, 3) := by decide +kernel
theorem dX8_takeWord_29 : decode cX8_takeWord 29 = .ok (.iload_n 2, 1) := by decide +kernel
theorem dX8_takeWord_30 : decode cX8_takeWord 30 = .ok (.iadd, 1) := by decide +kernel
theorem dX8_takeWord_31 : decode cX8_takeWord 31 = .ok (.invokevirtual 51, 3) := by decide +kernel
theorem dX8_takeWord_34 : decode cX8_takeWord 34 = .ok (.aload_n 1, 1) := by decide +kernel
theorem dX8_takeWord_35 : decode cX8_takeWord 35 = .ok (.iload_n 2, 1) := by decide +kernel
theorem dX8_takeWord_36 : decode cX8_takeWord 36 = .ok (.invokevirtual 78, 3) := by decide +kernel
theorem dX8_takeWord_39 : decode cX8_takeWord 39 = .ok (.if_icmp .ne 9, 3) := by decide +kernel
theorem dX8_takeWord_42 : decode cX8_takeWord 42 = .ok (.iinc 2 1, 3) := by decide +kernel
theorem dX8_takeWord_45 : decode cX8_takeWord 45 = .ok (.goto (-29), 3) := by decide +kernel
theorem dX8_takeWord_48 : decode cX8_takeWord 48 = .ok (.iload_n 2, 1) := by decide +kernel
theorem dX8_takeWord_49 : decode cX8_takeWord 49 = .ok (.aload_n 1, 1) := by decide +kernel
theorem dX8_takeWord_50 : decode cX8_takeWord 50 = .ok (.invokevirtual 73, 3) := by decide +kernel
theorem dX8_takeWord_53 : decode cX8_takeWord 53 = .ok (.if_icmp .lt 23, 3) := by decide +kernel
theorem dX8_takeWord_56 : decode cX8_takeWord 56 = .ok (.aload_n 0, 1) := by decide +kernel
theorem dX8_takeWord_57 : decode cX8_takeWord 57 = .ok (.aload_n 0, 1) := by decide +kernel
theorem dX8_takeWord_58 : decode cX8_takeWord 58 = .ok (.getfield 48, 3) := by decide +kernel
theorem dX8_takeWord_61 : decode cX8_takeWord 61 = .ok (.iload_n 2, 1) := by decide +kernel
theorem dX8_takeWord_62 : decode cX8_takeWord 62 = .ok (.iadd, 1) := by decide +kernel
theorem dX8_takeWord_63 : decode cX8_takeWord 63 = .ok (.invokevirtual 51, 3) := by decide +kernel
theorem dX8_takeWord_66 : decode cX8_takeWord 66 = .ok (.bipush 97, 2) := by decide +kernel
theorem dX8_takeWord_68 : decode cX8_takeWord 68 = .ok (.bipush 122, 2) := by decide +kernel
theorem dX8_takeWord_70 : decode cX8_takeWord 70 = .ok (.invokestatic 61, 3) := by decide +kernel
theorem dX8_takeWord_73 : decode cX8_takeWord 73 = .ok (.ifCond .eq 5, 3) := by decide +kernel
theorem dX8_takeWord_76 : decode cX8_takeWord 76 = .ok (.iconst 0, 1) := by decide +kernel
theorem dX8_takeWord_77 : decode cX8_takeWord 77 = .ok (.ireturn, 1) := by decide +kernel
theorem dX8_takeWord_78 : decode cX8_takeWord 78 = .ok (.aload_n 0, 1) := by decide +kernel
theorem dX8_takeWord_79 : decode cX8_takeWord 79 = .ok (.dup, 1) := by decide +kernel
theorem dX8_takeWord_80 : decode cX8_takeWord 80 = .ok (.getfield 48, 3) := by decide +kernel
theorem dX8_takeWord_83 : decode cX8_takeWord 83 = .ok (.iload_n 2, 1) := by decide +kernel
theorem dX8_takeWord_84 : decode cX8_takeWord 84 = .ok (.iadd, 1) := by decide +kernel
theorem dX8_takeWord_85 : decode cX8_takeWord 85 = .ok (.putfield 48, 3) := by decide +kernel
theorem dX8_takeWord_88 : decode cX8_takeWord 88 = .ok (.iconst 1, 1) := by decide +kernel
theorem dX8_takeWord_89 : decode cX8_takeWord 89 = .ok (.ireturn, 1) := by decide +kernel
theorem dX8_expect_0 : decode cX8_expect 0 = .ok (.aload_n 0, 1) := by decide +kernel
theorem dX8_expect_1 : decode cX8_expect 1 = .ok (.invokevirtual 65, 3) := by decide +kernel
theorem dX8_expect_4 : decode cX8_expect 4 = .ok (.ifCond .ne 4, 3) := by decide +kernel
theorem dX8_expect_7 : decode cX8_expect 7 = .ok (.return_, 1) := by decide +kernel
theorem dX8_expect_8 : decode cX8_expect 8 = .ok (.aload_n 0, 1) := by decide +kernel
theorem dX8_expect_9 : decode cX8_expect 9 = .ok (.invokevirtual 69, 3) := by decide +kernel
theorem dX8_expect_12 : decode cX8_expect 12 = .ok (.iload_n 1, 1) := by decide +kernel
theorem dX8_expect_13 : decode cX8_expect 13 = .ok (.if_icmp .ne 16, 3) := by decide +kernel
theorem dX8_expect_16 : decode cX8_expect 16 = .ok (.aload_n 0, 1) := by decide +kernel
theorem dX8_expect_17 : decode cX8_expect 17 = .ok (.dup, 1) := by decide +kernel
theorem dX8_expect_18 : decode cX8_expect 18 = .ok (.getfield 48, 3) := by decide +kernel
theorem dX8_expect_21 : decode cX8_expect 21 = .ok (.iconst 1, 1) := by decide +kernel
theorem dX8_expect_22 : decode cX8_expect 22 = .ok (.iadd, 1) := by decide +kernel
theorem dX8_expect_23 : decode cX8_expect 23 = .ok (.putfield 48, 3) := by decide +kernel
theorem dX8_expect_26 : decode cX8_expect 26 = .ok (.goto 13, 3) := by decide +kernel
theorem dX8_expect_29 : decode cX8_expect 29 = .ok (.aload_n 0, 1) := by decide +kernel
theorem dX8_expect_30 : decode cX8_expect 30 = .ok (.bipush (-2), 2) := by decide +kernel
theorem dX8_expect_32 : decode cX8_expect 32 = .ok (.aload_n 0, 1) := by decide +kernel
theorem dX8_expect_33 : decode cX8_expect 33 = .ok (.getfield 48, 3) := by decide +kernel
theorem dX8_expect_36 : decode cX8_expect 36 = .ok (.invokevirtual 82, 3) := by decide +kernel
theorem dX8_expect_39 : decode cX8_expect 39 = .ok (.return_, 1) := by decide +kernel
theorem dX8_number_0 : decode cX8_number 0 = .ok (.aload_n 0, 1) := by decide +kernel
theorem dX8_number_1 : decode cX8_number 1 = .ok (.invokevirtual 65, 3) := by decide +kernel
theorem dX8_number_4 : decode cX8_number 4 = .ok (.ifCond .ne 5, 3) := by decide +kernel
theorem dX8_number_7 : decode cX8_number 7 = .ok (.iconst 0, 1) := by decide +kernel
theorem dX8_number_8 : decode cX8_number 8 = .ok (.ireturn, 1) := by decide +kernel
theorem dX8_number_9 : decode cX8_number 9 = .ok (.aload_n 0, 1) := by decide +kernel
theorem dX8_number_10 : decode cX8_number 10 = .ok (.invokevirtual 69, 3) := by decide +kernel
theorem dX8_number_13 : decode cX8_number 13 = .ok (.invokestatic 86, 3) := by decide +kernel
theorem dX8_number_16 : decode cX8_number 16 = .ok (.ifCond .ne 15, 3) := by decide +kernel
theorem dX8_number_19 : decode cX8_number 19 = .ok (.aload_n 0, 1) := by decide +kernel
theorem dX8_number_20 : decode cX8_number 20 = .ok (.bipush (-2), 2) := by decide +kernel
theorem dX8_number_22 : decode cX8_number 22 = .ok (.aload_n 0, 1) := by decide +kernel
theorem dX8_number_23 : decode cX8_number 23 = .ok (.getfield 48, 3) := by decide +kernel
theorem dX8_number_26 : decode cX8_number 26 = .ok (.invokevirtual 82, 3) := by decide +kernel
theorem dX8_number_29 : decode cX8_number 29 = .ok (.iconst 0, 1) := by decide +kernel
theorem dX8_number_30 : decode cX8_number 30 = .ok (.ireturn, 1) := by decide +kernel
theorem dX8_number_31 : decode cX8_number 31 = .ok (.aload_n 0, 1) := by decide +kernel
theorem dX8_number_32 : decode cX8_number 32 = .ok (.aload_n 0, 1) := by decide +kernel
theorem dX8_number_33 : decode cX8_number 33 = .ok (.getfield 48, 3) := by decide +kernel
theorem dX8_number_36 : decode cX8_number 36 = .ok (.putfield 90, 3) := by decide +kernel
theorem dX8_number_39 : decode cX8_number 39 = .ok (.iconst 0, 1) := by decide +kernel
theorem dX8_number_40 : decode cX8_number 40 = .ok (.istore_n 3, 1) := by decide +kernel
theorem dX8_number_41 : decode cX8_number 41 = .ok (.aload_n 0, 1) := by decide +kernel
theorem dX8_number_42 : decode cX8_number 42 = .ok (.aload_n 0, 1) := by decide +kernel
theorem dX8_number_43 : decode cX8_number 43 = .ok (.getfield 48, 3) := by decide +kernel
theorem dX8_number_46 : decode cX8_number 46 = .ok (.invokevirtual 51, 3) := by decide +kernel
theorem dX8_number_49 : decode cX8_number 49 = .ok (.invokestatic 86, 3) := by decide +kernel
theorem dX8_number_52 : decode cX8_number 52 = .ok (.ifCond .eq 38, 3) := by decide +kernel
theorem dX8_number_55 : decode cX8_number 55 = .ok (.ldc 93, 2) := by decide +kernel
theorem dX8_number_57 : decode cX8_number 57 = .ok (.bipush 10, 2) := by decide +kernel
theorem dX8_number_59 : decode cX8_number 59 = .ok (.iload_n 3, 1) := by decide +kernel
theorem dX8_number_60 : decode cX8_number 60 = .ok (.imul, 1) := by decide +kernel
theorem dX8_number_61 : decode cX8_number 61 = .ok (.aload_n 0, 1) := by decide +kernel
theorem dX8_number_62 : decode cX8_number 62 = .ok (.aload_n 0, 1) := by decide +kernel
theorem dX8_number_63 : decode cX8_number 63 = .ok (.getfield 48, 3) := by decide +kernel
theorem dX8_number_66 : decode cX8_number 66 = .ok (.invokevirtual 51, 3) := by decide +kernel
theorem dX8_number_69 : decode cX8_number 69 = .ok (.iadd, 1) := by decide +kernel
theorem dX8_number_70 : decode cX8_number 70 = .ok (.bipush 48, 2) := by decide +kernel
theorem dX8_number_72 : decode cX8_number 72 = .ok (.isub, 1) := by decide +kernel
theorem dX8_number_73 : decode cX8_number 73 = .ok (.invokestatic 94, 3) := by decide +kernel
theorem dX8_number_76 : decode cX8_number 76 = .ok (.istore_n 3, 1) := by decide +kernel
theorem dX8_number_77 : decode cX8_number 77 = .ok (.aload_n 0, 1) := by decide +kernel
theorem dX8_number_78 : decode cX8_number 78 = .ok (.dup, 1) := by decide +kernel
theorem dX8_number_79 : decode cX8_number 79 = .ok (.getfield 48, 3) := by decide +kernel
theorem dX8_number_82 : decode cX8_number 82 = .ok (.iconst 1, 1) := by decide +kernel
theorem dX8_number_83 : decode cX8_number 83 = .ok (.iadd, 1) := by decide +kernel
theorem dX8_number_84 : decode cX8_number 84 = .ok (.putfield 48, 3) := by decide +kernel
theorem dX8_number_87 : decode cX8_number 87 = .ok (.goto (-46), 3) := by decide +kernel
theorem dX8_number_90 : decode cX8_number 90 = .ok (.iload_n 3, 1) := by decide +kernel
theorem dX8_number_91 : decode cX8_number 91 = .ok (.iload_n 1, 1) := by decide +kernel
theorem dX8_number_92 : decode cX8_number 92 = .ok (.iload_n 2, 1) := by decide +kernel
theorem dX8_number_93 : decode cX8_number 93 = .ok (.invokestatic 61, 3) := by decide +kernel
theorem dX8_number_96 : decode cX8_number 96 = .ok (.ifCond .ne 13, 3) := by decide +kernel
theorem dX8_number_99 : decode cX8_number 99 = .ok (.aload_n 0, 1) := by decide +kernel
theorem dX8_number_100 : decode cX8_number 100 = .ok (.bipush (-3), 2) := by decide +kernel
theorem dX8_number_102 : decode cX8_number 102 = .ok (.aload_n 0, 1) := by decide +kernel
theorem dX8_number_103 : decode cX8_number 103 = .ok (.getfield 90, 3) := by decide +kernel
theorem dX8_number_106 : decode cX8_number 106 = .ok (.invokevirtual 82, 3) := by decide +kernel
theorem dX8_number_109 : decode cX8_number 109 = .ok (.iload_n 3, 1) := by decide +kernel
theorem dX8_number_110 : decode cX8_number 110 = .ok (.ireturn, 1) := by decide +kernel
theorem dX8_emit_0 : decode cX8_emit 0 = .ok (.aload_n 0, 1) := by decide +kernel
theorem dX8_emit_1 : decode cX8_emit 1 = .ok (.invokevirtual 65, 3) := by decide +kernel
theorem dX8_emit_4 : decode cX8_emit 4 = .ok (.ifCond .ne 4, 3) := by decide +kernel
theorem dX8_emit_7 : decode cX8_emit 7 = .ok (.return_, 1) := by decide +kernel
theorem dX8_emit_8 : decode cX8_emit 8 = .ok (.aload_n 0, 1) := by decide +kernel
theorem dX8_emit_9 : decode cX8_emit 9 = .ok (.getfield 20, 3) := by decide +kernel
theorem dX8_emit_12 : decode cX8_emit 12 = .ok (.sipush 324, 3) := by decide +kernel
theorem dX8_emit_15 : decode cX8_emit 15 = .ok (.aload_n 0, 1) := by decide +kernel
theorem dX8_emit_16 : decode cX8_emit 16 = .ok (.getfield 20, 3) := by decide +kernel
theorem dX8_emit_19 : decode cX8_emit 19 = .ok (.bipush 10, 2) := by decide +kernel
theorem dX8_emit_21 : decode cX8_emit 21 = .ok (.iaload, 1) := by decide +kernel
theorem dX8_emit_22 : decode cX8_emit 22 = .ok (.iadd, 1) := by decide +kernel
theorem dX8_emit_23 : decode cX8_emit 23 = .ok (.iload_n 1, 1) := by decide +kernel
theorem dX8_emit_24 : decode cX8_emit 24 = .ok (.iastore, 1) := by decide +kernel
theorem dX8_emit_25 : decode cX8_emit 25 = .ok (.aload_n 0, 1) := by decide +kernel
theorem dX8_emit_26 : decode cX8_emit 26 = .ok (.getfield 20, 3) := by decide +kernel
theorem dX8_emit_29 : decode cX8_emit 29 = .ok (.bipush 10, 2) := by decide +kernel
theorem dX8_emit_31 : decode cX8_emit 31 = .ok (.dup2, 1) := by decide +kernel
theorem dX8_emit_32 : decode cX8_emit 32 = .ok (.iaload, 1) := by decide +kernel
theorem dX8_emit_33 : decode cX8_emit 33 = .ok (.iconst 1, 1) := by decide +kernel
theorem dX8_emit_34 : decode cX8_emit 34 = .ok (.iadd, 1) := by decide +kernel
theorem dX8_emit_35 : decode cX8_emit 35 = .ok (.iastore, 1) := by decide +kernel
theorem dX8_emit_36 : decode cX8_emit 36 = .ok (.return_, 1) := by decide +kernel
theorem dX8_factor_0 : decode cX8_factor 0 = .ok (.aload_n 0, 1) := by decide +kernel
theorem dX8_factor_1 : decode cX8_factor 1 = .ok (.invokevirtual 65, 3) := by decide +kernel
theorem dX8_factor_4 : decode cX8_factor 4 = .ok (.ifCond .ne 4, 3) := by decide +kernel
theorem dX8_factor_7 : decode cX8_factor 7 = .ok (.return_, 1) := by decide +kernel
theorem dX8_factor_8 : decode cX8_factor 8 = .ok (.aload_n 0, 1) := by decide +kernel
theorem dX8_factor_9 : decode cX8_factor 9 = .ok (.invokevirtual 69, 3) := by decide +kernel
theorem dX8_factor_12 : decode cX8_factor 12 = .ok (.istore_n 1, 1) := by decide +kernel
theorem dX8_factor_13 : decode cX8_factor 13 = .ok (.iload_n 1, 1) := by decide +kernel
theorem dX8_factor_14 : decode cX8_factor 14 = .ok (.bipush 40, 2) := by decide +kernel
theorem dX8_factor_16 : decode cX8_factor 16 = .ok (.if_icmp .ne 62, 3) := by decide +kernel
theorem dX8_factor_19 : decode cX8_factor 19 = .ok (.aload_n 0, 1) := by decide +kernel
theorem dX8_factor_20 : decode cX8_factor 20 = .ok (.getfield 98, 3) := by decide +kernel
theorem dX8_factor_23 : decode cX8_factor 23 = .ok (.iconst 4, 1) := by decide +kernel
theorem dX8_factor_24 : decode cX8_factor 24 = .ok (.if_icmp .ne 13, 3) := by decide +kernel
theorem dX8_factor_27 : decode cX8_factor 27 = .ok (.aload_n 0, 1) := by decide +kernel
theorem dX8_factor_28 : decode cX8_factor 28 = .ok (.bipush (-5), 2) := by decide +kernel
theorem dX8_factor_30 : decode cX8_factor 30 = .ok (.aload_n 0, 1) := by decide +kernel
theorem dX8_factor_31 : decode cX8_factor 31 = .ok (.getfield 48, 3) := by decide +kernel
theorem dX8_factor_34 : decode cX8_factor 34 = .ok (.invokevirtual 82, 3) := by decide +kernel
theorem dX8_factor_37 : decode cX8_factor 37 = .ok (.aload_n 0, 1) := by decide +kernel
theorem dX8_factor_38 : decode cX8_factor 38 = .ok (.dup, 1) := by decide +kernel
theorem dX8_factor_39 : decode cX8_factor 39 = .ok (.getfield 48, 3) := by decide +kernel
theorem dX8_factor_42 : decode cX8_factor 42 = .ok (.iconst 1, 1) := by decide +kernel
theorem dX8_factor_43 : decode cX8_factor 43 = .ok (.iadd, 1) := by decide +kernel
theorem dX8_factor_44 : decode cX8_factor 44 = .ok (.putfield 48, 3) := by decide +kernel
theorem dX8_factor_47 : decode cX8_factor 47 = .ok (.aload_n 0, 1) := by decide +kernel
theorem dX8_factor_48 : decode cX8_factor 48 = .ok (.dup, 1) := by decide +kernel
theorem dX8_factor_49 : decode cX8_factor 49 = .ok (.getfield 98, 3) := by decide +kernel
theorem dX8_factor_52 : decode cX8_factor 52 = .ok (.iconst 1, 1) := by decide +kernel
theorem dX8_factor_53 : decode cX8_factor 53 = .ok (.iadd, 1) := by decide +kernel
theorem dX8_factor_54 : decode cX8_factor 54 = .ok (.putfield 98, 3) := by decide +kernel
theorem dX8_factor_57 : decode cX8_factor 57 = .ok (.aload_n 0, 1) := by decide +kernel
theorem dX8_factor_58 : decode cX8_factor 58 = .ok (.invokevirtual 101, 3) := by decide +kernel
theorem dX8_factor_61 : decode cX8_factor 61 = .ok (.aload_n 0, 1) := by decide +kernel
theorem dX8_factor_62 : decode cX8_factor 62 = .ok (.bipush 41, 2) := by decide +kernel
theorem dX8_factor_64 : decode cX8_factor 64 = .ok (.invokevirtual 104, 3) := by decide +kernel
theorem dX8_factor_67 : decode cX8_factor 67 = .ok (.aload_n 0, 1) := by decide +kernel
theorem dX8_factor_68 : decode cX8_factor 68 = .ok (.dup, 1) := by decide +kernel
theorem dX8_factor_69 : decode cX8_factor 69 = .ok (.getfield 98, 3) := by decide +kernel
theorem dX8_factor_72 : decode cX8_factor 72 = .ok (.iconst 1, 1) := by decide +kernel
theorem dX8_factor_73 : decode cX8_factor 73 = .ok (.isub, 1) := by decide +kernel
theorem dX8_factor_74 : decode cX8_factor 74 = .ok (.putfield 98, 3) := by decide +kernel
theorem dX8_factor_77 : decode cX8_factor 77 = .ok (.return_, 1) := by decide +kernel
theorem dX8_factor_78 : decode cX8_factor 78 = .ok (.iload_n 1, 1) := by decide +kernel
theorem dX8_factor_79 : decode cX8_factor 79 = .ok (.invokestatic 86, 3) := by decide +kernel
theorem dX8_factor_82 : decode cX8_factor 82 = .ok (.ifCond .eq 7, 3) := by decide +kernel
theorem dX8_factor_85 : decode cX8_factor 85 = .ok (.iconst (-1), 1) := by decide +kernel
theorem dX8_factor_86 : decode cX8_factor 86 = .ok (.goto 56, 3) := by decide +kernel
theorem dX8_factor_89 : decode cX8_factor 89 = .ok (.aload_n 0, 1) := by decide +kernel
theorem dX8_factor_90 : decode cX8_factor 90 = .ok (.ldc 108, 2) := by decide +kernel
theorem dX8_factor_92 : decode cX8_factor 92 = .ok (.invokevirtual 110, 3) := by decide +kernel
theorem dX8_factor_95 : decode cX8_factor 95 = .ok (.ifCond .eq 7, 3) := by decide +kernel
theorem dX8_factor_98 : decode cX8_factor 98 = .ok (.iconst 0, 1) := by decide +kernel
theorem dX8_factor_99 : decode cX8_factor 99 = .ok (.goto 43, 3) := by decide +kernel
theorem dX8_factor_102 : decode cX8_factor 102 = .ok (.aload_n 0, 1) := by decide +kernel
theorem dX8_factor_103 : decode cX8_factor 103 = .ok (.ldc 114, 2) := by decide +kernel
theorem dX8_factor_105 : decode cX8_factor 105 = .ok (.invokevirtual 110, 3) := by decide +kernel
theorem dX8_factor_108 : decode cX8_factor 108 = .ok (.ifCond .eq 7, 3) := by decide +kernel
theorem dX8_factor_111 : decode cX8_factor 111 = .ok (.iconst 1, 1) := by decide +kernel
theorem dX8_factor_112 : decode cX8_factor 112 = .ok (.goto 30, 3) := by decide +kernel
theorem dX8_factor_115 : decode cX8_factor 115 = .ok (.aload_n 0, 1) := by decide +kernel
theorem dX8_factor_116 : decode cX8_factor 116 = .ok (.ldc 116, 2) := by decide +kernel
theorem dX8_factor_118 : decode cX8_factor 118 = .ok (.invokevirtual 110, 3) := by decide +kernel
theorem dX8_factor_121 : decode cX8_factor 121 = .ok (.ifCond .eq 7, 3) := by decide +kernel
theorem dX8_factor_124 : decode cX8_factor 124 = .ok (.iconst 2, 1) := by decide +kernel
theorem dX8_factor_125 : decode cX8_factor 125 = .ok (.goto 17, 3) := by decide +kernel
theorem dX8_factor_128 : decode cX8_factor 128 = .ok (.aload_n 0, 1) := by decide +kernel
theorem dX8_factor_129 : decode cX8_factor 129 = .ok (.ldc 118, 2) := by decide +kernel
theorem dX8_factor_131 : decode cX8_factor 131 = .ok (.invokevirtual 110, 3) := by decide +kernel
theorem dX8_factor_134 : decode cX8_factor 134 = .ok (.ifCond .eq 7, 3) := by decide +kernel
theorem dX8_factor_137 : decode cX8_factor 137 = .ok (.iconst 3, 1) := by decide +kernel
theorem dX8_factor_138 : decode cX8_factor 138 = .ok (.goto 4, 3) := by decide +kernel
theorem dX8_factor_141 : decode cX8_factor 141 = .ok (.iconst (-1), 1) := by decide +kernel
theorem dX8_factor_142 : decode cX8_factor 142 = .ok (.istore_n 2, 1) := by decide +kernel
theorem dX8_factor_143 : decode cX8_factor 143 = .ok (.iload_n 2, 1) := by decide +kernel
theorem dX8_factor_144 : decode cX8_factor 144 = .ok (.ifCond .ge 14, 3) := by decide +kernel
theorem dX8_factor_147 : decode cX8_factor 147 = .ok (.aload_n 0, 1) := by decide +kernel
theorem dX8_factor_148 : decode cX8_factor 148 = .ok (.iconst 0, 1) := by decide +kernel
theorem dX8_factor_149 : decode cX8_factor 149 = .ok (.sipush 9999, 3) := by decide +kernel
theorem dX8_factor_152 : decode cX8_factor 152 = .ok (.invokevirtual 120, 3) := by decide +kernel
theorem dX8_factor_155 : decode cX8_factor 155 = .ok (.goto 4, 3) := by decide +kernel
theorem dX8_factor_158 : decode cX8_factor 158 = .ok (.iload_n 2, 1) := by decide +kernel
theorem dX8_factor_159 : decode cX8_factor 159 = .ok (.istore_n 3, 1) := by decide +kernel
theorem dX8_factor_160 : decode cX8_factor 160 = .ok (.aload_n 0, 1) := by decide +kernel
theorem dX8_factor_161 : decode cX8_factor 161 = .ok (.iload_n 2, 1) := by decide +kernel
theorem dX8_factor_162 : decode cX8_factor 162 = .ok (.ifCond .ge 7, 3) := by decide +kernel
theorem dX8_factor_165 : decode cX8_factor 165 = .ok (.iconst 0, 1) := by decide +kernel
theorem dX8_factor_166 : decode cX8_factor 166 = .ok (.goto 4, 3) := by decide +kernel
theorem dX8_factor_169 : decode cX8_factor 169 = .ok (.iconst 1, 1) := by decide +kernel
theorem dX8_factor_170 : decode cX8_factor 170 = .ok (.invokevirtual 123, 3) := by decide +kernel
theorem dX8_factor_173 : decode cX8_factor 173 = .ok (.aload_n 0, 1) := by decide +kernel
theorem dX8_factor_174 : decode cX8_factor 174 = .ok (.iload_n 3, 1) := by decide +kernel
theorem dX8_factor_175 : decode cX8_factor 175 = .ok (.invokevirtual 123, 3) := by decide +kernel
theorem dX8_factor_178 : decode cX8_factor 178 = .ok (.return_, 1) := by decide +kernel
theorem dX8_term_0 : decode cX8_term 0 = .ok (.aload_n 0, 1) := by decide +kernel
theorem dX8_term_1 : decode cX8_term 1 = .ok (.invokevirtual 126, 3) := by decide +kernel
theorem dX8_term_4 : decode cX8_term 4 = .ok (.aload_n 0, 1) := by decide +kernel
theorem dX8_term_5 : decode cX8_term 5 = .ok (.invokevirtual 65, 3) := by decide +kernel
theorem dX8_term_8 : decode cX8_term 8 = .ok (.ifCond .eq 66, 3) := by decide +kernel
theorem dX8_term_11 : decode cX8_term 11 = .ok (.aload_n 0, 1) := by decide +kernel
theorem dX8_term_12 : decode cX8_term 12 = .ok (.invokevirtual 69, 3) := by decide +kernel
theorem dX8_term_15 : decode cX8_term 15 = .ok (.bipush 42, 2) := by decide +kernel
theorem dX8_term_17 : decode cX8_term 17 = .ok (.if_icmp .eq 12, 3) := by decide +kernel
theorem dX8_term_20 : decode cX8_term 20 = .ok (.aload_n 0, 1) := by decide +kernel
theorem dX8_term_21 : decode cX8_term 21 = .ok (.invokevirtual 69, 3) := by decide +kernel
theorem dX8_term_24 : decode cX8_term 24 = .ok (.bipush 47, 2) := by decide +kernel
theorem dX8_term_26 : decode cX8_term 26 = .ok (.if_icmp .ne 48, 3) := by decide +kernel
theorem dX8_term_29 : decode cX8_term 29 = .ok (.aload_n 0, 1) := by decide +kernel
theorem dX8_term_30 : decode cX8_term 30 = .ok (.invokevirtual 69, 3) := by decide +kernel
theorem dX8_term_33 : decode cX8_term 33 = .ok (.bipush 42, 2) := by decide +kernel
theorem dX8_term_35 : decode cX8_term 35 = .ok (.if_icmp .ne 7, 3) := by decide +kernel
theorem dX8_term_38 : decode cX8_term 38 = .ok (.iconst 1, 1) := by decide +kernel
theorem dX8_term_39 : decode cX8_term 39 = .ok (.goto 4, 3) := by decide +kernel
theorem dX8_term_42 : decode cX8_term 42 = .ok (.iconst 0, 1) := by decide +kernel
theorem dX8_term_43 : decode cX8_term 43 = .ok (.istore_n 1, 1) := by decide +kernel
theorem dX8_term_44 : decode cX8_term 44 = .ok (.aload_n 0, 1) := by decide +kernel
theorem dX8_term_45 : decode cX8_term 45 = .ok (.dup, 1) := by decide +kernel
theorem dX8_term_46 : decode cX8_term 46 = .ok (.getfield 48, 3) := by decide +kernel
theorem dX8_term_49 : decode cX8_term 49 = .ok (.iconst 1, 1) := by decide +kernel
theorem dX8_term_50 : decode cX8_term 50 = .ok (.iadd, 1) := by decide +kernel
theorem dX8_term_51 : decode cX8_term 51 = .ok (.putfield 48, 3) := by decide +kernel
theorem dX8_term_54 : decode cX8_term 54 = .ok (.aload_n 0, 1) := by decide +kernel
theorem dX8_term_55 : decode cX8_term 55 = .ok (.invokevirtual 126, 3) := by decide +kernel
theorem dX8_term_58 : decode cX8_term 58 = .ok (.aload_n 0, 1) := by decide +kernel
theorem dX8_term_59 : decode cX8_term 59 = .ok (.iload_n 1, 1) := by decide +kernel
theorem dX8_term_60 : decode cX8_term 60 = .ok (.ifCond .eq 7, 3) := by decide +kernel
theorem dX8_term_63 : decode cX8_term 63 = .ok (.iconst 4, 1) := by decide +kernel
theorem dX8_term_64 : decode cX8_term 64 = .ok (.goto 4, 3) := by decide +kernel
theorem dX8_term_67 : decode cX8_term 67 = .ok (.iconst 5, 1) := by decide +kernel
theorem dX8_term_68 : decode cX8_term 68 = .ok (.invokevirtual 123, 3) := by decide +kernel
theorem dX8_term_71 : decode cX8_term 71 = .ok (.goto (-67), 3) := by decide +kernel
theorem dX8_term_74 : decode cX8_term 74 = .ok (.return_, 1) := by decide +kernel
theorem dX8_sum_0 : decode cX8_sum 0 = .ok (.aload_n 0, 1) := by decide +kernel
theorem dX8_sum_1 : decode cX8_sum 1 = .ok (.invokevirtual 129, 3) := by decide +kernel
theorem dX8_sum_4 : decode cX8_sum 4 = .ok (.aload_n 0, 1) := by decide +kernel
theorem dX8_sum_5 : decode cX8_sum 5 = .ok (.invokevirtual 65, 3) := by decide +kernel
theorem dX8_sum_8 : decode cX8_sum 8 = .ok (.ifCond .eq 66, 3) := by decide +kernel
theorem dX8_sum_11 : decode cX8_sum 11 = .ok (.aload_n 0, 1) := by decide +kernel
theorem dX8_sum_12 : decode cX8_sum 12 = .ok (.invokevirtual 69, 3) := by decide +kernel
theorem dX8_sum_15 : decode cX8_sum 15 = .ok (.bipush 43, 2) := by decide +kernel
theorem dX8_sum_17 : decode cX8_sum 17 = .ok (.if_icmp .eq 12, 3) := by decide +kernel
theorem dX8_sum_20 : decode cX8_sum 20 = .ok (.aload_n 0, 1) := by decide +kernel
theorem dX8_sum_21 : decode cX8_sum 21 = .ok (.invokevirtual 69, 3) := by decide +kernel
theorem dX8_sum_24 : decode cX8_sum 24 = .ok (.bipush 45, 2) := by decide +kernel
theorem dX8_sum_26 : decode cX8_sum 26 = .ok (.if_icmp .ne 48, 3) := by decide +kernel
theorem dX8_sum_29 : decode cX8_sum 29 = .ok (.aload_n 0, 1) := by decide +kernel
theorem dX8_sum_30 : decode cX8_sum 30 = .ok (.invokevirtual 69, 3) := by decide +kernel
theorem dX8_sum_33 : decode cX8_sum 33 = .ok (.bipush 43, 2) := by decide +kernel
theorem dX8_sum_35 : decode cX8_sum 35 = .ok (.if_icmp .ne 7, 3) := by decide +kernel
theorem dX8_sum_38 : decode cX8_sum 38 = .ok (.iconst 1, 1) := by decide +kernel
theorem dX8_sum_39 : decode cX8_sum 39 = .ok (.goto 4, 3) := by decide +kernel
theorem dX8_sum_42 : decode cX8_sum 42 = .ok (.iconst 0, 1) := by decide +kernel
theorem dX8_sum_43 : decode cX8_sum 43 = .ok (.istore_n 1, 1) := by decide +kernel
theorem dX8_sum_44 : decode cX8_sum 44 = .ok (.aload_n 0, 1) := by decide +kernel
theorem dX8_sum_45 : decode cX8_sum 45 = .ok (.dup, 1) := by decide +kernel
theorem dX8_sum_46 : decode cX8_sum 46 = .ok (.getfield 48, 3) := by decide +kernel
theorem dX8_sum_49 : decode cX8_sum 49 = .ok (.iconst 1, 1) := by decide +kernel
theorem dX8_sum_50 : decode cX8_sum 50 = .ok (.iadd, 1) := by decide +kernel
theorem dX8_sum_51 : decode cX8_sum 51 = .ok (.putfield 48, 3) := by decide +kernel
theorem dX8_sum_54 : decode cX8_sum 54 = .ok (.aload_n 0, 1) := by decide +kernel
theorem dX8_sum_55 : decode cX8_sum 55 = .ok (.invokevirtual 129, 3) := by decide +kernel
theorem dX8_sum_58 : decode cX8_sum 58 = .ok (.aload_n 0, 1) := by decide +kernel
theorem dX8_sum_59 : decode cX8_sum 59 = .ok (.iload_n 1, 1) := by decide +kernel
theorem dX8_sum_60 : decode cX8_sum 60 = .ok (.ifCond .eq 7, 3) := by decide +kernel
theorem dX8_sum_63 : decode cX8_sum 63 = .ok (.iconst 2, 1) := by decide +kernel
theorem dX8_sum_64 : decode cX8_sum 64 = .ok (.goto 4, 3) := by decide +kernel
theorem dX8_sum_67 : decode cX8_sum 67 = .ok (.iconst 3, 1) := by decide +kernel
theorem dX8_sum_68 : decode cX8_sum 68 = .ok (.invokevirtual 123, 3) := by decide +kernel
theorem dX8_sum_71 : decode cX8_sum 71 = .ok (.goto (-67), 3) := by decide +kernel
theorem dX8_sum_74 : decode cX8_sum 74 = .ok (.return_, 1) := by decide +kernel
theorem dX8_once_0 : decode cX8_once 0 = .ok (.aload_n 0, 1) := by decide +kernel
theorem dX8_once_1 : decode cX8_once 1 = .ok (.getfield 132, 3) := by decide +kernel
theorem dX8_once_4 : decode cX8_once 4 = .ok (.iload_n 1, 1) := by decide +kernel
theorem dX8_once_5 : decode cX8_once 5 = .ok (.ishr, 1) := by decide +kernel
theorem dX8_once_6 : decode cX8_once 6 = .ok (.iconst 1, 1) := by decide +kernel
theorem dX8_once_7 : decode cX8_once 7 = .ok (.iand, 1) := by decide +kernel
theorem dX8_once_8 : decode cX8_once 8 = .ok (.iconst 1, 1) := by decide +kernel
theorem dX8_once_9 : decode cX8_once 9 = .ok (.if_icmp .ne 10, 3) := by decide +kernel
theorem dX8_once_12 : decode cX8_once 12 = .ok (.aload_n 0, 1) := by decide +kernel
theorem dX8_once_13 : decode cX8_once 13 = .ok (.bipush (-2), 2) := by decide +kernel
theorem dX8_once_15 : decode cX8_once 15 = .ok (.iload_n 2, 1) := by decide +kernel
theorem dX8_once_16 : decode cX8_once 16 = .ok (.invokevirtual 82, 3) := by decide +kernel
theorem dX8_once_19 : decode cX8_once 19 = .ok (.aload_n 0, 1) := by decide +kernel
theorem dX8_once_20 : decode cX8_once 20 = .ok (.dup, 1) := by decide +kernel
theorem dX8_once_21 : decode cX8_once 21 = .ok (.getfield 132, 3) := by decide +kernel
theorem dX8_once_24 : decode cX8_once 24 = .ok (.iconst 1, 1) := by decide +kernel
theorem dX8_once_25 : decode cX8_once 25 = .ok (.iload_n 1, 1) := by decide +kernel
theorem dX8_once_26 : decode cX8_once 26 = .ok (.ishl, 1) := by decide +kernel
theorem dX8_once_27 : decode cX8_once 27 = .ok (.ior, 1) := by decide +kernel
theorem dX8_once_28 : decode cX8_once 28 = .ok (.putfield 132, 3) := by decide +kernel
theorem dX8_once_31 : decode cX8_once 31 = .ok (.return_, 1) := by decide +kernel
theorem dX8_readReason_0 : decode cX8_readReason 0 = .ok (.aload_n 0, 1) := by decide +kernel
theorem dX8_readReason_1 : decode cX8_readReason 1 = .ok (.getfield 20, 3) := by decide +kernel
theorem dX8_readReason_4 : decode cX8_readReason 4 = .ok (.iconst 2, 1) := by decide +kernel
theorem dX8_readReason_5 : decode cX8_readReason 5 = .ok (.iaload, 1) := by decide +kernel
theorem dX8_readReason_6 : decode cX8_readReason 6 = .ok (.bipush 8, 2) := by decide +kernel
theorem dX8_readReason_8 : decode cX8_readReason 8 = .ok (.if_icmp .ne 10, 3) := by decide +kernel
theorem dX8_readReason_11 : decode cX8_readReason 11 = .ok (.aload_n 0, 1) := by decide +kernel
theorem dX8_readReason_12 : decode cX8_readReason 12 = .ok (.bipush (-4), 2) := by decide +kernel
theorem dX8_readReason_14 : decode cX8_readReason 14 = .ok (.iload_n 1, 1) := by decide +kernel
theorem dX8_readReason_15 : decode cX8_readReason 15 = .ok (.invokevirtual 82, 3) := by decide +kernel
theorem dX8_readReason_18 : decode cX8_readReason 18 = .ok (.aload_n 0, 1) := by decide +kernel
theorem dX8_readReason_19 : decode cX8_readReason 19 = .ok (.invokevirtual 65, 3) := by decide +kernel
theorem dX8_readReason_22 : decode cX8_readReason 22 = .ok (.ifCond .ne 4, 3) := by decide +kernel
theorem dX8_readReason_25 : decode cX8_readReason 25 = .ok (.return_, 1) := by decide +kernel
theorem dX8_readReason_26 : decode cX8_readReason 26 = .ok (.aload_n 0, 1) := by decide +kernel
theorem dX8_readReason_27 : decode cX8_readReason 27 = .ok (.getfield 20, 3) := by decide +kernel
theorem dX8_readReason_30 : decode cX8_readReason 30 = .ok (.iconst 2, 1) := by decide +kernel
theorem dX8_readReason_31 : decode cX8_readReason 31 = .ok (.iaload, 1) := by decide +kernel
theorem dX8_readReason_32 : decode cX8_readReason 32 = .ok (.invokestatic 135, 3) := by decide +kernel
theorem dX8_readReason_35 : decode cX8_readReason 35 = .ok (.istore_n 2, 1) := by decide +kernel
theorem dX8_readReason_36 : decode cX8_readReason 36 = .ok (.aload_n 0, 1) := by decide +kernel
theorem dX8_readReason_37 : decode cX8_readReason 37 = .ok (.getfield 20, 3) := by decide +kernel
theorem dX8_readReason_40 : decode cX8_readReason 40 = .ok (.iload_n 2, 1) := by decide +kernel
theorem dX8_readReason_41 : decode cX8_readReason 41 = .ok (.aload_n 0, 1) := by decide +kernel
theorem dX8_readReason_42 : decode cX8_readReason 42 = .ok (.iconst 0, 1) := by decide +kernel
theorem dX8_readReason_43 : decode cX8_readReason 43 = .ok (.bipush 99, 2) := by decide +kernel
theorem dX8_readReason_45 : decode cX8_readReason 45 = .ok (.invokevirtual 120, 3) := by decide +kernel
theorem dX8_readReason_48 : decode cX8_readReason 48 = .ok (.iastore, 1) := by decide +kernel
theorem dX8_readReason_49 : decode cX8_readReason 49 = .ok (.iconst 0, 1) := by decide +kernel
theorem dX8_readReason_50 : decode cX8_readReason 50 = .ok (.istore_n 3, 1) := by decide +kernel
theorem dX8_readReason_51 : decode cX8_readReason 51 = .ok (.iload_n 3, 1) := by decide +kernel
theorem dX8_readReason_52 : decode cX8_readReason 52 = .ok (.aload_n 0, 1) := by decide +kernel
theorem dX8_readReason_53 : decode cX8_readReason 53 = .ok (.getfield 20, 3) := by decide +kernel
theorem dX8_readReason_56 : decode cX8_readReason 56 = .ok (.iconst 2, 1) := by decide +kernel
theorem dX8_readReason_57 : decode cX8_readReason 57 = .ok (.iaload, 1) := by decide +kernel
theorem dX8_readReason_58 : decode cX8_readReason 58 = .ok (.if_icmp .ge 44, 3) := by decide +kernel
theorem dX8_readReason_61 : decode cX8_readReason 61 = .ok (.aload_n 0, 1) := by decide +kernel
theorem dX8_readReason_62 : decode cX8_readReason 62 = .ok (.invokevirtual 65, 3) := by decide +kernel
theorem dX8_readReason_65 : decode cX8_readReason 65 = .ok (.ifCond .eq 31, 3) := by decide +kernel
theorem dX8_readReason_68 : decode cX8_readReason 68 = .ok (.aload_n 0, 1) := by decide +kernel
theorem dX8_readReason_69 : decode cX8_readReason 69 = .ok (.getfield 20, 3) := by decide +kernel
theorem dX8_readReason_72 : decode cX8_readReason 72 = .ok (.iload_n 3, 1) := by decide +kernel
theorem dX8_readReason_73 : decode cX8_readReason 73 = .ok (.invokestatic 135, 3) := by decide +kernel
theorem dX8_readReason_76 : decode cX8_readReason 76 = .ok (.iaload, 1) := by decide +kernel
theorem dX8_readReason_77 : decode cX8_readReason 77 = .ok (.aload_n 0, 1) := by decide +kernel
theorem dX8_readReason_78 : decode cX8_readReason 78 = .ok (.getfield 20, 3) := by decide +kernel
theorem dX8_readReason_81 : decode cX8_readReason 81 = .ok (.iload_n 2, 1) := by decide +kernel
theorem dX8_readReason_82 : decode cX8_readReason 82 = .ok (.iaload, 1) := by decide +kernel
theorem dX8_readReason_83 : decode cX8_readReason 83 = .ok (.if_icmp .ne 13, 3) := by decide +kernel
theorem dX8_readReason_86 : decode cX8_readReason 86 = .ok (.aload_n 0, 1) := by decide +kernel
theorem dX8_readReason_87 : decode cX8_readReason 87 = .ok (.bipush (-3), 2) := by decide +kernel
theorem dX8_readReason_89 : decode cX8_readReason 89 = .ok (.aload_n 0, 1) := by decide +kernel
theorem dX8_readReason_90 : decode cX8_readReason 90 = .ok (.getfield 90, 3) := by decide +kernel
theorem dX8_readReason_93 : decode cX8_readReason 93 = .ok (.invokevirtual 82, 3) := by decide +kernel
theorem dX8_readReason_96 : decode cX8_readReason 96 = .ok (.iinc 3 1, 3) := by decide +kernel
theorem dX8_readReason_99 : decode cX8_readReason 99 = .ok (.goto (-48), 3) := by decide +kernel
theorem dX8_readReason_102 : decode cX8_readReason 102 = .ok (.aload_n 0, 1) := by decide +kernel
theorem dX8_readReason_103 : decode cX8_readReason 103 = .ok (.getfield 20, 3) := by decide +kernel
theorem dX8_readReason_106 : decode cX8_readReason 106 = .ok (.iload_n 2, 1) := by decide +kernel
theorem dX8_readReason_107 : decode cX8_readReason 107 = .ok (.iconst 1, 1) := by decide +kernel
theorem dX8_readReason_108 : decode cX8_readReason 108 = .ok (.iadd, 1) := by decide +kernel
theorem dX8_readReason_109 : decode cX8_readReason 109 = .ok (.aload_n 0, 1) := by decide +kernel
theorem dX8_readReason_110 : decode cX8_readReason 110 = .ok (.iconst 0, 1) := by decide +kernel
theorem dX8_readReason_111 : decode cX8_readReason 111 = .ok (.sipush 200, 3) := by decide +kernel
theorem dX8_readReason_114 : decode cX8_readReason 114 = .ok (.invokevirtual 120, 3) := by decide +kernel
theorem dX8_readReason_117 : decode cX8_readReason 117 = .ok (.iastore, 1) := by decide +kernel
theorem dX8_readReason_118 : decode cX8_readReason 118 = .ok (.aload_n 0, 1) := by decide +kernel
theorem dX8_readReason_119 : decode cX8_readReason 119 = .ok (.getfield 20, 3) := by decide +kernel
theorem dX8_readReason_122 : decode cX8_readReason 122 = .ok (.iload_n 2, 1) := by decide +kernel
theorem dX8_readReason_123 : decode cX8_readReason 123 = .ok (.iconst 2, 1) := by decide +kernel
theorem dX8_readReason_124 : decode cX8_readReason 124 = .ok (.iadd, 1) := by decide +kernel
theorem dX8_readReason_125 : decode cX8_readReason 125 = .ok (.aload_n 0, 1) := by decide +kernel
theorem dX8_readReason_126 : decode cX8_readReason 126 = .ok (.iconst 1, 1) := by decide +kernel
theorem dX8_readReason_127 : decode cX8_readReason 127 = .ok (.bipush 60, 2) := by decide +kernel
theorem dX8_readReason_129 : decode cX8_readReason 129 = .ok (.invokevirtual 120, 3) := by decide +kernel
theorem dX8_readReason_132 : decode cX8_readReason 132 = .ok (.iastore, 1) := by decide +kernel
theorem dX8_readReason_133 : decode cX8_readReason 133 = .ok (.aload_n 0, 1) := by decide +kernel
theorem dX8_readReason_134 : decode cX8_readReason 134 = .ok (.getfield 20, 3) := by decide +kernel
theorem dX8_readReason_137 : decode cX8_readReason 137 = .ok (.iload_n 2, 1) := by decide +kernel
theorem dX8_readReason_138 : decode cX8_readReason 138 = .ok (.iconst 3, 1) := by decide +kernel
theorem dX8_readReason_139 : decode cX8_readReason 139 = .ok (.iadd, 1) := by decide +kernel
theorem dX8_readReason_140 : decode cX8_readReason 140 = .ok (.aload_n 0, 1) := by decide +kernel
theorem dX8_readReason_141 : decode cX8_readReason 141 = .ok (.iconst 1, 1) := by decide +kernel
theorem dX8_readReason_142 : decode cX8_readReason 142 = .ok (.bipush 60, 2) := by decide +kernel
theorem dX8_readReason_144 : decode cX8_readReason 144 = .ok (.invokevirtual 120, 3) := by decide +kernel
theorem dX8_readReason_147 : decode cX8_readReason 147 = .ok (.iastore, 1) := by decide +kernel
theorem dX8_readReason_148 : decode cX8_readReason 148 = .ok (.aload_n 0, 1) := by decide +kernel
theorem dX8_readReason_149 : decode cX8_readReason 149 = .ok (.getfield 20, 3) := by decide +kernel
theorem dX8_readReason_152 : decode cX8_readReason 152 = .ok (.iload_n 2, 1) := by decide +kernel
theorem dX8_readReason_153 : decode cX8_readReason 153 = .ok (.iconst 4, 1) := by decide +kernel
theorem dX8_readReason_154 : decode cX8_readReason 154 = .ok (.iadd, 1) := by decide +kernel
theorem dX8_readReason_155 : decode cX8_readReason 155 = .ok (.aload_n 0, 1) := by decide +kernel
theorem dX8_readReason_156 : decode cX8_readReason 156 = .ok (.iconst 0, 1) := by decide +kernel
theorem dX8_readReason_157 : decode cX8_readReason 157 = .ok (.sipush 9999, 3) := by decide +kernel
theorem dX8_readReason_160 : decode cX8_readReason 160 = .ok (.invokevirtual 120, 3) := by decide +kernel
theorem dX8_readReason_163 : decode cX8_readReason 163 = .ok (.iastore, 1) := by decide +kernel
theorem dX8_readReason_164 : decode cX8_readReason 164 = .ok (.aload_n 0, 1) := by decide +kernel
theorem dX8_readReason_165 : decode cX8_readReason 165 = .ok (.getfield 20, 3) := by decide +kernel
theorem dX8_readReason_168 : decode cX8_readReason 168 = .ok (.iload_n 2, 1) := by decide +kernel
theorem dX8_readReason_169 : decode cX8_readReason 169 = .ok (.iconst 5, 1) := by decide +kernel
theorem dX8_readReason_170 : decode cX8_readReason 170 = .ok (.iadd, 1) := by decide +kernel
theorem dX8_readReason_171 : decode cX8_readReason 171 = .ok (.iconst 0, 1) := by decide +kernel
theorem dX8_readReason_172 : decode cX8_readReason 172 = .ok (.iastore, 1) := by decide +kernel
theorem dX8_readReason_173 : decode cX8_readReason 173 = .ok (.aload_n 0, 1) := by decide +kernel
theorem dX8_readReason_174 : decode cX8_readReason 174 = .ok (.ldc 138, 2) := by decide +kernel
theorem dX8_readReason_176 : decode cX8_readReason 176 = .ok (.invokevirtual 110, 3) := by decide +kernel
theorem dX8_readReason_179 : decode cX8_readReason 179 = .ok (.ifCond .eq 10, 3) := by decide +kernel
theorem dX8_readReason_182 : decode cX8_readReason 182 = .ok (.aload_n 0, 1) := by decide +kernel
theorem dX8_readReason_183 : decode cX8_readReason 183 = .ok (.iload_n 2, 1) := by decide +kernel
theorem dX8_readReason_184 : decode cX8_readReason 184 = .ok (.iconst 5, 1) := by decide +kernel
theorem dX8_readReason_185 : decode cX8_readReason 185 = .ok (.iadd, 1) := by decide +kernel
theorem dX8_readReason_186 : decode cX8_readReason 186 = .ok (.invokevirtual 140, 3) := by decide +kernel
theorem dX8_readReason_189 : decode cX8_readReason 189 = .ok (.aload_n 0, 1) := by decide +kernel
theorem dX8_readReason_190 : decode cX8_readReason 190 = .ok (.getfield 20, 3) := by decide +kernel
theorem dX8_readReason_193 : decode cX8_readReason 193 = .ok (.iconst 2, 1) := by decide +kernel
theorem dX8_readReason_194 : decode cX8_readReason 194 = .ok (.dup2, 1) := by decide +kernel
theorem dX8_readReason_195 : decode cX8_readReason 195 = .ok (.iaload, 1) := by decide +kernel
theorem dX8_readReason_196 : decode cX8_readReason 196 = .ok (.iconst 1, 1) := by decide +kernel
theorem dX8_readReason_197 : decode cX8_readReason 197 = .ok (.iadd, 1) := by decide +kernel
theorem dX8_readReason_198 : decode cX8_readReason 198 = .ok (.iastore, 1) := by decide +kernel
theorem dX8_readReason_199 : decode cX8_readReason 199 = .ok (.return_, 1) := by decide +kernel
theorem dX8_readNeeds_0 : decode cX8_readNeeds 0 = .ok (.aload_n 0, 1) := by decide +kernel
theorem dX8_readNeeds_1 : decode cX8_readNeeds 1 = .ok (.iconst 0, 1) := by decide +kernel
theorem dX8_readNeeds_2 : decode cX8_readNeeds 2 = .ok (.bipush 7, 2) := by decide +kernel
theorem dX8_readNeeds_4 : decode cX8_readNeeds 4 = .ok (.invokevirtual 120, 3) := by decide +kernel
theorem dX8_readNeeds_7 : decode cX8_readNeeds 7 = .ok (.istore_n 2, 1) := by decide +kernel
theorem dX8_readNeeds_8 : decode cX8_readNeeds 8 = .ok (.aload_n 0, 1) := by decide +kernel
theorem dX8_readNeeds_9 : decode cX8_readNeeds 9 = .ok (.invokevirtual 65, 3) := by decide +kernel
theorem dX8_readNeeds_12 : decode cX8_readNeeds 12 = .ok (.ifCond .eq 27, 3) := by decide +kernel
theorem dX8_readNeeds_15 : decode cX8_readNeeds 15 = .ok (.aload_n 0, 1) := by decide +kernel
theorem dX8_readNeeds_16 : decode cX8_readNeeds 16 = .ok (.getfield 20, 3) := by decide +kernel
theorem dX8_readNeeds_19 : decode cX8_readNeeds 19 = .ok (.iload_n 1, 1) := by decide +kernel
theorem dX8_readNeeds_20 : decode cX8_readNeeds 20 = .ok (.iaload, 1) := by decide +kernel
theorem dX8_readNeeds_21 : decode cX8_readNeeds 21 = .ok (.iload_n 2, 1) := by decide +kernel
theorem dX8_readNeeds_22 : decode cX8_readNeeds 22 = .ok (.ishr, 1) := by decide +kernel
theorem dX8_readNeeds_23 : decode cX8_readNeeds 23 = .ok (.iconst 1, 1) := by decide +kernel
theorem dX8_readNeeds_24 : decode cX8_readNeeds 24 = .ok (.iand, 1) := by decide +kernel
theorem dX8_readNeeds_25 : decode cX8_readNeeds 25 = .ok (.iconst 1, 1) := by decide +kernel
theorem dX8_readNeeds_26 : decode cX8_readNeeds 26 = .ok (.if_icmp .ne 13, 3) := by decide +kernel
theorem dX8_readNeeds_29 : decode cX8_readNeeds 29 = .ok (.aload_n 0, 1) := by decide +kernel
theorem dX8_readNeeds_30 : decode cX8_readNeeds 30 = .ok (.bipush (-3), 2) := by decide +kernel
theorem dX8_readNeeds_32 : decode cX8_readNeeds 32 = .ok (.aload_n 0, 1) := by decide +kernel
theorem dX8_readNeeds_33 : decode cX8_readNeeds 33 = .ok (.getfield 90, 3) := by decide +kernel
theorem dX8_readNeeds_36 : decode cX8_readNeeds 36 = .ok (.invokevirtual 82, 3) := by decide +kernel
theorem dX8_readNeeds_39 : decode cX8_readNeeds 39 = .ok (.aload_n 0, 1) := by decide +kernel
theorem dX8_readNeeds_40 : decode cX8_readNeeds 40 = .ok (.invokevirtual 65, 3) := by decide +kernel
theorem dX8_readNeeds_43 : decode cX8_readNeeds 43 = .ok (.ifCond .ne 4, 3) := by decide +kernel
theorem dX8_readNeeds_46 : decode cX8_readNeeds 46 = .ok (.return_, 1) := by decide +kernel
theorem dX8_readNeeds_47 : decode cX8_readNeeds 47 = .ok (.aload_n 0, 1) := by decide +kernel
theorem dX8_readNeeds_48 : decode cX8_readNeeds 48 = .ok (.getfield 20, 3) := by decide +kernel
theorem dX8_readNeeds_51 : decode cX8_readNeeds 51 = .ok (.iload_n 1, 1) := by decide +kernel
theorem dX8_readNeeds_52 : decode cX8_readNeeds 52 = .ok (.dup2, 1) := by decide +kernel
theorem dX8_readNeeds_53 : decode cX8_readNeeds 53 = .ok (.iaload, 1) := by decide +kernel
theorem dX8_readNeeds_54 : decode cX8_readNeeds 54 = .ok (.iconst 1, 1) := by decide +kernel
theorem dX8_readNeeds_55 : decode cX8_readNeeds 55 = .ok (.iload_n 2, 1) := by decide +kernel
theorem dX8_readNeeds_56 : decode cX8_readNeeds 56 = .ok (.ishl, 1) := by decide +kernel
theorem dX8_readNeeds_57 : decode cX8_readNeeds 57 = .ok (.ior, 1) := by decide +kernel
theorem dX8_readNeeds_58 : decode cX8_readNeeds 58 = .ok (.iastore, 1) := by decide +kernel
theorem dX8_readNeeds_59 : decode cX8_readNeeds 59 = .ok (.aload_n 0, 1) := by decide +kernel
theorem dX8_readNeeds_60 : decode cX8_readNeeds 60 = .ok (.invokevirtual 69, 3) := by decide +kernel
theorem dX8_readNeeds_63 : decode cX8_readNeeds 63 = .ok (.invokestatic 86, 3) := by decide +kernel
theorem dX8_readNeeds_66 : decode cX8_readNeeds 66 = .ok (.ifCond .ne (-66), 3) := by decide +kernel
theorem dX8_readNeeds_69 : decode cX8_readNeeds 69 = .ok (.return_, 1) := by decide +kernel
theorem dX8_statement_0 : decode cX8_statement 0 = .ok (.aload_n 0, 1) := by decide +kernel
theorem dX8_statement_1 : decode cX8_statement 1 = .ok (.invokevirtual 69, 3) := by decide +kernel
theorem dX8_statement_4 : decode cX8_statement 4 = .ok (.pop, 1) := by decide +kernel
theorem dX8_statement_5 : decode cX8_statement 5 = .ok (.aload_n 0, 1) := by decide +kernel
theorem dX8_statement_6 : decode cX8_statement 6 = .ok (.getfield 48, 3) := by decide +kernel
theorem dX8_statement_9 : decode cX8_statement 9 = .ok (.istore_n 1, 1) := by decide +kernel
theorem dX8_statement_10 : decode cX8_statement 10 = .ok (.aload_n 0, 1) := by decide +kernel
theorem dX8_statement_11 : decode cX8_statement 11 = .ok (.ldc 143, 2) := by decide +kernel
theorem dX8_statement_13 : decode cX8_statement 13 = .ok (.invokevirtual 110, 3) := by decide +kernel
theorem dX8_statement_16 : decode cX8_statement 16 = .ok (.ifCond .eq 36, 3) := by decide +kernel
theorem dX8_statement_19 : decode cX8_statement 19 = .ok (.aload_n 0, 1) := by decide +kernel
theorem dX8_statement_20 : decode cX8_statement 20 = .ok (.iconst 0, 1) := by decide +kernel
theorem dX8_statement_21 : decode cX8_statement 21 = .ok (.iload_n 1, 1) := by decide +kernel
theorem dX8_statement_22 : decode cX8_statement 22 = .ok (.invokevirtual 145, 3) := by decide +kernel
theorem dX8_statement_25 : decode cX8_statement 25 = .ok (.aload_n 0, 1) := by decide +kernel
theorem dX8_statement_26 : decode cX8_statement 26 = .ok (.getfield 20, 3) := by decide +kernel
theorem dX8_statement_29 : decode cX8_statement 29 = .ok (.iconst 0, 1) := by decide +kernel
theorem dX8_statement_30 : decode cX8_statement 30 = .ok (.aload_n 0, 1) := by decide +kernel
theorem dX8_statement_31 : decode cX8_statement 31 = .ok (.iconst 1, 1) := by decide +kernel
theorem dX8_statement_32 : decode cX8_statement 32 = .ok (.iconst 4, 1) := by decide +kernel
theorem dX8_statement_33 : decode cX8_statement 33 = .ok (.invokevirtual 120, 3) := by decide +kernel
theorem dX8_statement_36 : decode cX8_statement 36 = .ok (.iastore, 1) := by decide +kernel
theorem dX8_statement_37 : decode cX8_statement 37 = .ok (.aload_n 0, 1) := by decide +kernel
theorem dX8_statement_38 : decode cX8_statement 38 = .ok (.getfield 20, 3) := by decide +kernel
theorem dX8_statement_41 : decode cX8_statement 41 = .ok (.iconst 1, 1) := by decide +kernel
theorem dX8_statement_42 : decode cX8_statement 42 = .ok (.aload_n 0, 1) := by decide +kernel
theorem dX8_statement_43 : decode cX8_statement 43 = .ok (.iconst 1, 1) := by decide +kernel
theorem dX8_statement_44 : decode cX8_statement 44 = .ok (.iconst 4, 1) := by decide +kernel
theorem dX8_statement_45 : decode cX8_statement 45 = .ok (.invokevirtual 120, 3) := by decide +kernel
theorem dX8_statement_48 : decode cX8_statement 48 = .ok (.iastore, 1) := by decide +kernel
theorem dX8_statement_49 : decode cX8_statement 49 = .ok (.goto 138, 3) := by decide +kernel
theorem dX8_statement_52 : decode cX8_statement 52 = .ok (.aload_n 0, 1) := by decide +kernel
theorem dX8_statement_53 : decode cX8_statement 53 = .ok (.ldc 148, 2) := by decide +kernel
theorem dX8_statement_55 : decode cX8_statement 55 = .ok (.invokevirtual 110, 3) := by decide +kernel
theorem dX8_statement_58 : decode cX8_statement 58 = .ok (.ifCond .eq 11, 3) := by decide +kernel
theorem dX8_statement_61 : decode cX8_statement 61 = .ok (.aload_n 0, 1) := by decide +kernel
theorem dX8_statement_62 : decode cX8_statement 62 = .ok (.iload_n 1, 1) := by decide +kernel
theorem dX8_statement_63 : decode cX8_statement 63 = .ok (.invokevirtual 149, 3) := by decide +kernel
theorem dX8_statement_66 : decode cX8_statement 66 = .ok (.goto 121, 3) := by decide +kernel
theorem dX8_statement_69 : decode cX8_statement 69 = .ok (.aload_n 0, 1) := by decide +kernel
theorem dX8_statement_70 : decode cX8_statement 70 = .ok (.ldc 152, 2) := by decide +kernel
theorem dX8_statement_72 : decode cX8_statement 72 = .ok (.invokevirtual 110, 3) := by decide +kernel
theorem dX8_statement_75 : decode cX8_statement 75 = .ok (.ifCond .eq 42, 3) := by decide +kernel
theorem dX8_statement_78 : decode cX8_statement 78 = .ok (.aload_n 0, 1) := by decide +kernel
theorem dX8_statement_79 : decode cX8_statement 79 = .ok (.iconst 1, 1) := by decide +kernel
theorem dX8_statement_80 : decode cX8_statement 80 = .ok (.iload_n 1, 1) := by decide +kernel
theorem dX8_statement_81 : decode cX8_statement 81 = .ok (.invokevirtual 145, 3) := by decide +kernel
theorem dX8_statement_84 : decode cX8_statement 84 = .ok (.aload_n 0, 1) := by decide +kernel
theorem dX8_statement_85 : decode cX8_statement 85 = .ok (.getfield 20, 3) := by decide +kernel
theorem dX8_statement_88 : decode cX8_statement 88 = .ok (.bipush 6, 2) := by decide +kernel
theorem dX8_statement_90 : decode cX8_statement 90 = .ok (.aload_n 0, 1) := by decide +kernel
theorem dX8_statement_91 : decode cX8_statement 91 = .ok (.iconst 0, 1) := by decide +kernel
theorem dX8_statement_92 : decode cX8_statement 92 = .ok (.sipush 999, 3) := by decide +kernel
theorem dX8_statement_95 : decode cX8_statement 95 = .ok (.invokevirtual 120, 3) := by decide +kernel
theorem dX8_statement_98 : decode cX8_statement 98 = .ok (.iastore, 1) := by decide +kernel
theorem dX8_statement_99 : decode cX8_statement 99 = .ok (.aload_n 0, 1) := by decide +kernel
theorem dX8_statement_100 : decode cX8_statement 100 = .ok (.getfield 20, 3) := by decide +kernel
theorem dX8_statement_103 : decode cX8_statement 103 = .ok (.bipush 7, 2) := by decide +kernel
theorem dX8_statement_105 : decode cX8_statement 105 = .ok (.aload_n 0, 1) := by decide +kernel
theorem dX8_statement_106 : decode cX8_statement 106 = .ok (.iconst 0, 1) := by decide +kernel
theorem dX8_statement_107 : decode cX8_statement 107 = .ok (.sipush 999, 3) := by decide +kernel
theorem dX8_statement_110 : decode cX8_statement 110 = .ok (.invokevirtual 120, 3) := by decide +kernel
theorem dX8_statement_113 : decode cX8_statement 113 = .ok (.iastore, 1) := by decide +kernel
theorem dX8_statement_114 : decode cX8_statement 114 = .ok (.goto 73, 3) := by decide +kernel
theorem dX8_statement_117 : decode cX8_statement 117 = .ok (.aload_n 0, 1) := by decide +kernel
theorem dX8_statement_118 : decode cX8_statement 118 = .ok (.ldc 154, 2) := by decide +kernel
theorem dX8_statement_120 : decode cX8_statement 120 = .ok (.invokevirtual 110, 3) := by decide +kernel
theorem dX8_statement_123 : decode cX8_statement 123 = .ok (.ifCond .eq 24, 3) := by decide +kernel
theorem dX8_statement_126 : decode cX8_statement 126 = .ok (.aload_n 0, 1) := by decide +kernel
theorem dX8_statement_127 : decode cX8_statement 127 = .ok (.iconst 2, 1) := by decide +kernel
theorem dX8_statement_128 : decode cX8_statement 128 = .ok (.iload_n 1, 1) := by decide +kernel
theorem dX8_statement_129 : decode cX8_statement 129 = .ok (.invokevirtual 145, 3) := by decide +kernel
theorem dX8_statement_132 : decode cX8_statement 132 = .ok (.aload_n 0, 1) := by decide +kernel
theorem dX8_statement_133 : decode cX8_statement 133 = .ok (.getfield 20, 3) := by decide +kernel
theorem dX8_statement_136 : decode cX8_statement 136 = .ok (.bipush 9, 2) := by decide +kernel
theorem dX8_statement_138 : decode cX8_statement 138 = .ok (.iconst 1, 1) := by decide +kernel
theorem dX8_statement_139 : decode cX8_statement 139 = .ok (.iastore, 1) := by decide +kernel
theorem dX8_statement_140 : decode cX8_statement 140 = .ok (.aload_n 0, 1) := by decide +kernel
theorem dX8_statement_141 : decode cX8_statement 141 = .ok (.invokevirtual 101, 3) := by decide +kernel
theorem dX8_statement_144 : decode cX8_statement 144 = .ok (.goto 43, 3) := by decide +kernel
theorem dX8_statement_147 : decode cX8_statement 147 = .ok (.aload_n 0, 1) := by decide +kernel
theorem dX8_statement_148 : decode cX8_statement 148 = .ok (.ldc 156, 2) := by decide +kernel
theorem dX8_statement_150 : decode cX8_statement 150 = .ok (.invokevirtual 110, 3) := by decide +kernel
theorem dX8_statement_153 : decode cX8_statement 153 = .ok (.ifCond .eq 27, 3) := by decide +kernel
theorem dX8_statement_156 : decode cX8_statement 156 = .ok (.aload_n 0, 1) := by decide +kernel
theorem dX8_statement_157 : decode cX8_statement 157 = .ok (.iconst 3, 1) := by decide +kernel
theorem dX8_statement_158 : decode cX8_statement 158 = .ok (.iload_n 1, 1) := by decide +kernel
theorem dX8_statement_159 : decode cX8_statement 159 = .ok (.invokevirtual 145, 3) := by decide +kernel
theorem dX8_statement_162 : decode cX8_statement 162 = .ok (.aload_n 0, 1) := by decide +kernel
theorem dX8_statement_163 : decode cX8_statement 163 = .ok (.getfield 20, 3) := by decide +kernel
theorem dX8_statement_166 : decode cX8_statement 166 = .ok (.bipush 8, 2) := by decide +kernel
theorem dX8_statement_168 : decode cX8_statement 168 = .ok (.aload_n 0, 1) := by decide +kernel
theorem dX8_statement_169 : decode cX8_statement 169 = .ok (.iconst 0, 1) := by decide +kernel
theorem dX8_statement_170 : decode cX8_statement 170 = .ok (.sipush 9999, 3) := by decide +kernel
theorem dX8_statement_173 : decode cX8_statement 173 = .ok (.invokevirtual 120, 3) := by decide +kernel
theorem dX8_statement_176 : decode cX8_statement 176 = .ok (.iastore, 1) := by decide +kernel
theorem dX8_statement_177 : decode cX8_statement 177 = .ok (.goto 10, 3) := by decide +kernel
theorem dX8_statement_180 : decode cX8_statement 180 = .ok (.aload_n 0, 1) := by decide +kernel
theorem dX8_statement_181 : decode cX8_statement 181 = .ok (.bipush (-2), 2) := by decide +kernel
theorem dX8_statement_183 : decode cX8_statement 183 = .ok (.iload_n 1, 1) := by decide +kernel
theorem dX8_statement_184 : decode cX8_statement 184 = .ok (.invokevirtual 82, 3) := by decide +kernel
theorem dX8_statement_187 : decode cX8_statement 187 = .ok (.aload_n 0, 1) := by decide +kernel
theorem dX8_statement_188 : decode cX8_statement 188 = .ok (.bipush 59, 2) := by decide +kernel
theorem dX8_statement_190 : decode cX8_statement 190 = .ok (.invokevirtual 104, 3) := by decide +kernel
theorem dX8_statement_193 : decode cX8_statement 193 = .ok (.return_, 1) := by decide +kernel
theorem dX8_load_0 : decode cX8_load 0 = .ok (.aload_n 0, 1) := by decide +kernel
theorem dX8_load_1 : decode cX8_load 1 = .ok (.iconst 0, 1) := by decide +kernel
theorem dX8_load_2 : decode cX8_load 2 = .ok (.putfield 39, 3) := by decide +kernel
theorem dX8_load_5 : decode cX8_load 5 = .ok (.aload_n 0, 1) := by decide +kernel
theorem dX8_load_6 : decode cX8_load 6 = .ok (.iload_n 1, 1) := by decide +kernel
theorem dX8_load_7 : decode cX8_load 7 = .ok (.iconst 0, 1) := by decide +kernel
theorem dX8_load_8 : decode cX8_load 8 = .ok (.aload_n 0, 1) := by decide +kernel
theorem dX8_load_9 : decode cX8_load 9 = .ok (.getfield 42, 3) := by decide +kernel
theorem dX8_load_12 : decode cX8_load 12 = .ok (.invokestatic 61, 3) := by decide +kernel
theorem dX8_load_15 : decode cX8_load 15 = .ok (.ifCond .ne 7, 3) := by decide +kernel
theorem dX8_load_18 : decode cX8_load 18 = .ok (.iconst 1, 1) := by decide +kernel
theorem dX8_load_19 : decode cX8_load 19 = .ok (.goto 4, 3) := by decide +kernel
theorem dX8_load_22 : decode cX8_load 22 = .ok (.iconst 0, 1) := by decide +kernel
theorem dX8_load_23 : decode cX8_load 23 = .ok (.iconst 1, 1) := by decide +kernel
theorem dX8_load_24 : decode cX8_load 24 = .ok (.invokevirtual 158, 3) := by decide +kernel
theorem dX8_load_27 : decode cX8_load 27 = .ok (.ifCond .eq 5, 3) := by decide +kernel
theorem dX8_load_30 : decode cX8_load 30 = .ok (.iconst 0, 1) := by decide +kernel
theorem dX8_load_31 : decode cX8_load 31 = .ok (.ireturn, 1) := by decide +kernel
theorem dX8_load_32 : decode cX8_load 32 = .ok (.aload_n 0, 1) := by decide +kernel
theorem dX8_load_33 : decode cX8_load 33 = .ok (.iconst 0, 1) := by decide +kernel
theorem dX8_load_34 : decode cX8_load 34 = .ok (.putfield 42, 3) := by decide +kernel
theorem dX8_load_37 : decode cX8_load 37 = .ok (.aload_n 0, 1) := by decide +kernel
theorem dX8_load_38 : decode cX8_load 38 = .ok (.iload_n 1, 1) := by decide +kernel
theorem dX8_load_39 : decode cX8_load 39 = .ok (.putfield 45, 3) := by decide +kernel
theorem dX8_load_42 : decode cX8_load 42 = .ok (.aload_n 0, 1) := by decide +kernel
theorem dX8_load_43 : decode cX8_load 43 = .ok (.iconst 0, 1) := by decide +kernel
theorem dX8_load_44 : decode cX8_load 44 = .ok (.putfield 48, 3) := by decide +kernel
theorem dX8_load_47 : decode cX8_load 47 = .ok (.aload_n 0, 1) := by decide +kernel
theorem dX8_load_48 : decode cX8_load 48 = .ok (.iconst 0, 1) := by decide +kernel
theorem dX8_load_49 : decode cX8_load 49 = .ok (.putfield 55, 3) := by decide +kernel
theorem dX8_load_52 : decode cX8_load 52 = .ok (.aload_n 0, 1) := by decide +kernel
theorem dX8_load_53 : decode cX8_load 53 = .ok (.iconst (-1), 1) := by decide +kernel
theorem dX8_load_54 : decode cX8_load 54 = .ok (.putfield 58, 3) := by decide +kernel
theorem dX8_load_57 : decode cX8_load 57 = .ok (.aload_n 0, 1) := by decide +kernel
theorem dX8_load_58 : decode cX8_load 58 = .ok (.iconst 0, 1) := by decide +kernel
theorem dX8_load_59 : decode cX8_load 59 = .ok (.putfield 98, 3) := by decide +kernel
theorem dX8_load_62 : decode cX8_load 62 = .ok (.aload_n 0, 1) := by decide +kernel
theorem dX8_load_63 : decode cX8_load 63 = .ok (.iconst 0, 1) := by decide +kernel
theorem dX8_load_64 : decode cX8_load 64 = .ok (.putfield 132, 3) := by decide +kernel
theorem dX8_load_67 : decode cX8_load 67 = .ok (.aload_n 0, 1) := by decide +kernel
theorem dX8_load_68 : decode cX8_load 68 = .ok (.getfield 20, 3) := by decide +kernel
theorem dX8_load_71 : decode cX8_load 71 = .ok (.invokestatic 35, 3) := by decide +kernel
theorem dX8_load_74 : decode cX8_load 74 = .ok (.aload_n 0, 1) := by decide +kernel
theorem dX8_load_75 : decode cX8_load 75 = .ok (.invokevirtual 65, 3) := by decide +kernel
theorem dX8_load_78 : decode cX8_load 78 = .ok (.ifCond .eq 18, 3) := by decide +kernel
theorem dX8_load_81 : decode cX8_load 81 = .ok (.aload_n 0, 1) := by decide +kernel
theorem dX8_load_82 : decode cX8_load 82 = .ok (.invokevirtual 69, 3) := by decide +kernel
theorem dX8_load_85 : decode cX8_load 85 = .ok (.iconst (-1), 1) := by decide +kernel
theorem dX8_load_86 : decode cX8_load 86 = .ok (.if_icmp .eq 10, 3) := by decide +kernel
theorem dX8_load_89 : decode cX8_load 89 = .ok (.aload_n 0, 1) := by decide +kernel
theorem dX8_load_90 : decode cX8_load 90 = .ok (.invokevirtual 162, 3) := by decide +kernel
theorem dX8_load_93 : decode cX8_load 93 = .ok (.goto (-19), 3) := by decide +kernel
theorem dX8_load_96 : decode cX8_load 96 = .ok (.aload_n 0, 1) := by decide +kernel
theorem dX8_load_97 : decode cX8_load 97 = .ok (.aload_n 0, 1) := by decide +kernel
theorem dX8_load_98 : decode cX8_load 98 = .ok (.getfield 58, 3) := by decide +kernel
theorem dX8_load_101 : decode cX8_load 101 = .ok (.putfield 13, 3) := by decide +kernel
theorem dX8_load_104 : decode cX8_load 104 = .ok (.aload_n 0, 1) := by decide +kernel
theorem dX8_load_105 : decode cX8_load 105 = .ok (.invokevirtual 65, 3) := by decide +kernel
theorem dX8_load_108 : decode cX8_load 108 = .ok (.ifCond .ne 8, 3) := by decide +kernel
theorem dX8_load_111 : decode cX8_load 111 = .ok (.aload_n 0, 1) := by decide +kernel
theorem dX8_load_112 : decode cX8_load 112 = .ok (.getfield 55, 3) := by decide +kernel
theorem dX8_load_115 : decode cX8_load 115 = .ok (.ireturn, 1) := by decide +kernel
theorem dX8_load_116 : decode cX8_load 116 = .ok (.aload_n 0, 1) := by decide +kernel
theorem dX8_load_117 : decode cX8_load 117 = .ok (.invokevirtual 165, 3) := by decide +kernel
theorem dX8_load_120 : decode cX8_load 120 = .ok (.aload_n 0, 1) := by decide +kernel
theorem dX8_load_121 : decode cX8_load 121 = .ok (.getfield 20, 3) := by decide +kernel
theorem dX8_load_124 : decode cX8_load 124 = .ok (.aload_n 0, 1) := by decide +kernel
theorem dX8_load_125 : decode cX8_load 125 = .ok (.getfield 17, 3) := by decide +kernel
theorem dX8_load_128 : decode cX8_load 128 = .ok (.invokestatic 168, 3) := by decide +kernel
theorem dX8_load_131 : decode cX8_load 131 = .ok (.aload_n 0, 1) := by decide +kernel
theorem dX8_load_132 : decode cX8_load 132 = .ok (.getfield 17, 3) := by decide +kernel
theorem dX8_load_135 : decode cX8_load 135 = .ok (.iconst 2, 1) := by decide +kernel
theorem dX8_load_136 : decode cX8_load 136 = .ok (.iaload, 1) := by decide +kernel
theorem dX8_load_137 : decode cX8_load 137 = .ok (.ireturn, 1) := by decide +kernel
theorem dX8_errorOffset_0 : decode cX8_errorOffset 0 = .ok (.aload_n 0, 1) := by decide +kernel
theorem dX8_errorOffset_1 : decode cX8_errorOffset 1 = .ok (.iconst 0, 1) := by decide +kernel
theorem dX8_errorOffset_2 : decode cX8_errorOffset 2 = .ok (.putfield 39, 3) := by decide +kernel
theorem dX8_errorOffset_5 : decode cX8_errorOffset 5 = .ok (.aload_n 0, 1) := by decide +kernel
theorem dX8_errorOffset_6 : decode cX8_errorOffset 6 = .ok (.getfield 13, 3) := by decide +kernel
theorem dX8_errorOffset_9 : decode cX8_errorOffset 9 = .ok (.ireturn, 1) := by decide +kernel
theorem dX8_limited_0 : decode cX8_limited 0 = .ok (.lload_n 0, 1) := by decide +kernel
theorem dX8_limited_1 : decode cX8_limited 1 = .ok (.ldc2_w 172, 3) := by decide +kernel
theorem dX8_limited_4 : decode cX8_limited 4 = .ok (.lcmp, 1) := by decide +kernel
theorem dX8_limited_5 : decode cX8_limited 5 = .ok (.ifCond .le 9, 3) := by decide +kernel
theorem dX8_limited_8 : decode cX8_limited 8 = .ok (.ldc2_w 172, 3) := by decide +kernel
theorem dX8_limited_11 : decode cX8_limited 11 = .ok (.goto 18, 3) := by decide +kernel
theorem dX8_limited_14 : decode cX8_limited 14 = .ok (.lload_n 0, 1) := by decide +kernel
theorem dX8_limited_15 : decode cX8_limited 15 = .ok (.ldc2_w 174, 3) := by decide +kernel
theorem dX8_limited_18 : decode cX8_limited 18 = .ok (.lcmp, 1) := by decide +kernel
theorem dX8_limited_19 : decode cX8_limited 19 = .ok (.ifCond .ge 9, 3) := by decide +kernel
theorem dX8_limited_22 : decode cX8_limited 22 = .ok (.ldc2_w 174, 3) := by decide +kernel
theorem dX8_limited_25 : decode cX8_limited 25 = .ok (.goto 4, 3) := by decide +kernel
theorem dX8_limited_28 : decode cX8_limited 28 = .ok (.lload_n 0, 1) := by decide +kernel
theorem dX8_limited_29 : decode cX8_limited 29 = .ok (.lreturn, 1) := by decide +kernel
theorem dX8_operate_0 : decode cX8_operate 0 = .ok (.iload_n 0, 1) := by decide +kernel
theorem dX8_operate_1 : decode cX8_operate 1 = .ok (.iconst 5, 1) := by decide +kernel
theorem dX8_operate_2 : decode cX8_operate 2 = .ok (.if_icmp .ne 17, 3) := by decide +kernel
theorem dX8_operate_5 : decode cX8_operate 5 = .ok (.lload_n 3, 1) := by decide +kernel
theorem dX8_operate_6 : decode cX8_operate 6 = .ok (.lconst 0, 1) := by decide +kernel
theorem dX8_operate_7 : decode cX8_operate 7 = .ok (.lcmp, 1) := by decide +kernel
theorem dX8_operate_8 : decode cX8_operate 8 = .ok (.ifCond .ne 7, 3) := by decide +kernel
theorem dX8_operate_11 : decode cX8_operate 11 = .ok (.lconst 0, 1) := by decide +kernel
theorem dX8_operate_12 : decode cX8_operate 12 = .ok (.goto 6, 3) := by decide +kernel
theorem dX8_operate_15 : decode cX8_operate 15 = .ok (.lload_n 1, 1) := by decide +kernel
theorem dX8_operate_16 : decode cX8_operate 16 = .ok (.lload_n 3, 1) := by decide +kernel
theorem dX8_operate_17 : decode cX8_operate 17 = .ok (.ldiv, 1) := by decide +kernel
theorem dX8_operate_18 : decode cX8_operate 18 = .ok (.lreturn, 1) := by decide +kernel
theorem dX8_operate_19 : decode cX8_operate 19 = .ok (.iload_n 0, 1) := by decide +kernel
theorem dX8_operate_20 : decode cX8_operate 20 = .ok (.iconst 2, 1) := by decide +kernel
theorem dX8_operate_21 : decode cX8_operate 21 = .ok (.if_icmp .ne 9, 3) := by decide +kernel
theorem dX8_operate_24 : decode cX8_operate 24 = .ok (.lload_n 1, 1) := by decide +kernel
theorem dX8_operate_25 : decode cX8_operate 25 = .ok (.lload_n 3, 1) := by decide +kernel
theorem dX8_operate_26 : decode cX8_operate 26 = .ok (.ladd, 1) := by decide +kernel
theorem dX8_operate_27 : decode cX8_operate 27 = .ok (.goto 17, 3) := by decide +kernel
theorem dX8_operate_30 : decode cX8_operate 30 = .ok (.iload_n 0, 1) := by decide +kernel
theorem dX8_operate_31 : decode cX8_operate 31 = .ok (.iconst 3, 1) := by decide +kernel
theorem dX8_operate_32 : decode cX8_operate 32 = .ok (.if_icmp .ne 9, 3) := by decide +kernel
theorem dX8_operate_35 : decode cX8_operate 35 = .ok (.lload_n 1, 1) := by decide +kernel
theorem dX8_operate_36 : decode cX8_operate 36 = .ok (.lload_n 3, 1) := by decide +kernel
theorem dX8_operate_37 : decode cX8_operate 37 = .ok (.lsub, 1) := by decide +kernel
theorem dX8_operate_38 : decode cX8_operate 38 = .ok (.goto 6, 3) := by decide +kernel
theorem dX8_operate_41 : decode cX8_operate 41 = .ok (.lload_n 1, 1) := by decide +kernel
theorem dX8_operate_42 : decode cX8_operate 42 = .ok (.lload_n 3, 1) := by decide +kernel
theorem dX8_operate_43 : decode cX8_operate 43 = .ok (.lmul, 1) := by decide +kernel
theorem dX8_operate_44 : decode cX8_operate 44 = .ok (.invokestatic 176, 3) := by decide +kernel
theorem dX8_operate_47 : decode cX8_operate 47 = .ok (.lreturn, 1) := by decide +kernel
theorem dX8_members_0 : decode cX8_members 0 = .ok (.iconst 0, 1) := by decide +kernel
theorem dX8_members_1 : decode cX8_members 1 = .ok (.istore_n 1, 1) := by decide +kernel
theorem dX8_members_2 : decode cX8_members 2 = .ok (.iload_n 0, 1) := by decide +kernel
theorem dX8_members_3 : decode cX8_members 3 = .ok (.istore_n 2, 1) := by decide +kernel
theorem dX8_members_4 : decode cX8_members 4 = .ok (.iload_n 2, 1) := by decide +kernel
theorem dX8_members_5 : decode cX8_members 5 = .ok (.ifCond .le 16, 3) := by decide +kernel
theorem dX8_members_8 : decode cX8_members 8 = .ok (.iload_n 1, 1) := by decide +kernel
theorem dX8_members_9 : decode cX8_members 9 = .ok (.iload_n 2, 1) := by decide +kernel
theorem dX8_members_10 : decode cX8_members 10 = .ok (.iconst 2, 1) := by decide +kernel
theorem dX8_members_11 : decode cX8_members 11 = .ok (.irem, 1) := by decide +kernel
theorem dX8_members_12 : decode cX8_members 12 = .ok (.iadd, 1) := by decide +kernel
theorem dX8_members_13 : decode cX8_members 13 = .ok (.istore_n 1, 1) := by decide +kernel
theorem dX8_members_14 : decode cX8_members 14 = .ok (.iload_n 2, 1) := by decide +kernel
theorem dX8_members_15 : decode cX8_members 15 = .ok (.iconst 2, 1) := by decide +kernel
theorem dX8_members_16 : decode cX8_members 16 = .ok (.idiv, 1) := by decide +kernel
theorem dX8_members_17 : decode cX8_members 17 = .ok (.istore_n 2, 1) := by decide +kernel
theorem dX8_members_18 : decode cX8_members 18 = .ok (.goto (-14), 3) := by decide +kernel
theorem dX8_members_21 : decode cX8_members 21 = .ok (.iload_n 1, 1) := by decide +kernel
theorem dX8_members_22 : decode cX8_members 22 = .ok (.ireturn, 1) := by decide +kernel
theorem dX8_needsOf_0 : decode cX8_needsOf 0 = .ok (.aload_n 0, 1) := by decide +kernel
theorem dX8_needsOf_1 : decode cX8_needsOf 1 = .ok (.aload_n 0, 1) := by decide +kernel
theorem dX8_needsOf_2 : decode cX8_needsOf 2 = .ok (.iload_n 1, 1) := by decide +kernel
theorem dX8_needsOf_3 : decode cX8_needsOf 3 = .ok (.invokestatic 180, 3) := by decide +kernel
theorem dX8_needsOf_6 : decode cX8_needsOf 6 = .ok (.iconst 1, 1) := by decide +kernel
theorem dX8_needsOf_7 : decode cX8_needsOf 7 = .ok (.iadd, 1) := by decide +kernel
theorem dX8_needsOf_8 : decode cX8_needsOf 8 = .ok (.iaload, 1) := by decide +kernel
theorem dX8_needsOf_9 : decode cX8_needsOf 9 = .ok (.invokestatic 135, 3) := by decide +kernel
theorem dX8_needsOf_12 : decode cX8_needsOf 12 = .ok (.iconst 5, 1) := by decide +kernel
theorem dX8_needsOf_13 : decode cX8_needsOf 13 = .ok (.iadd, 1) := by decide +kernel
theorem dX8_needsOf_14 : decode cX8_needsOf 14 = .ok (.iaload, 1) := by decide +kernel
theorem dX8_needsOf_15 : decode cX8_needsOf 15 = .ok (.ireturn, 1) := by decide +kernel
theorem dX8_scoreOf_0 : decode cX8_scoreOf 0 = .ok (.aload_n 1, 1) := by decide +kernel
theorem dX8_scoreOf_1 : decode cX8_scoreOf 1 = .ok (.bipush 9, 2) := by decide +kernel
theorem dX8_scoreOf_3 : decode cX8_scoreOf 3 = .ok (.iaload, 1) := by decide +kernel
theorem dX8_scoreOf_4 : decode cX8_scoreOf 4 = .ok (.ifCond .ne 8, 3) := by decide +kernel
theorem dX8_scoreOf_7 : decode cX8_scoreOf 7 = .ok (.iload_n 3, 1) := by decide +kernel
theorem dX8_scoreOf_8 : decode cX8_scoreOf 8 = .ok (.invokestatic 183, 3) := by decide +kernel
theorem dX8_scoreOf_11 : decode cX8_scoreOf 11 = .ok (.ireturn, 1) := by decide +kernel
theorem dX8_scoreOf_12 : decode cX8_scoreOf 12 = .ok (.iload_n 2, 1) := by decide +kernel
theorem dX8_scoreOf_13 : decode cX8_scoreOf 13 = .ok (.invokestatic 180, 3) := by decide +kernel
theorem dX8_scoreOf_16 : decode cX8_scoreOf 16 = .ok (.istore 4, 2) := by decide +kernel
theorem dX8_scoreOf_18 : decode cX8_scoreOf 18 = .ok (.iconst 0, 1) := by decide +kernel
theorem dX8_scoreOf_19 : decode cX8_scoreOf 19 = .ok (.istore 5, 2) := by decide +kernel
theorem dX8_scoreOf_21 : decode cX8_scoreOf 21 = .ok (.iconst 0, 1) := by decide +kernel
theorem dX8_scoreOf_22 : decode cX8_scoreOf 22 = .ok (.istore 6, 2) := by decide +kernel
theorem dX8_scoreOf_24 : decode cX8_scoreOf 24 = .ok (.iload 6, 2) := by decide +kernel
theorem dX8_scoreOf_26 : decode cX8_scoreOf 26 = .ok (.aload_n 1, 1) := by decide +kernel
theorem dX8_scoreOf_27 : decode cX8_scoreOf 27 = .ok (.bipush 10, 2) := by decide +kernel
theorem dX8_scoreOf_29 : decode cX8_scoreOf 29 = .ok (.iaload, 1) := by decide +kernel
theorem dX8_scoreOf_30 : decode cX8_scoreOf 30 = .ok (.if_icmp .ge 163, 3) := by decide +kernel
theorem dX8_scoreOf_33 : decode cX8_scoreOf 33 = .ok (.aload_n 1, 1) := by decide +kernel
theorem dX8_scoreOf_34 : decode cX8_scoreOf 34 = .ok (.sipush 324, 3) := by decide +kernel
theorem dX8_scoreOf_37 : decode cX8_scoreOf 37 = .ok (.iload 6, 2) := by decide +kernel
theorem dX8_scoreOf_39 : decode cX8_scoreOf 39 = .ok (.iadd, 1) := by decide +kernel
theorem dX8_scoreOf_40 : decode cX8_scoreOf 40 = .ok (.iaload, 1) := by decide +kernel
theorem dX8_scoreOf_41 : decode cX8_scoreOf 41 = .ok (.istore 7, 2) := by decide +kernel
theorem dX8_scoreOf_43 : decode cX8_scoreOf 43 = .ok (.iload 7, 2) := by decide +kernel
theorem dX8_scoreOf_45 : decode cX8_scoreOf 45 = .ok (.iconst 1, 1) := by decide +kernel
theorem dX8_scoreOf_46 : decode cX8_scoreOf 46 = .ok (.if_icmp .gt 108, 3) := by decide +kernel
theorem dX8_scoreOf_49 : decode cX8_scoreOf 49 = .ok (.iinc 6 1, 3) := by decide +kernel
theorem dX8_scoreOf_52 : decode cX8_scoreOf 52 = .ok (.aload_n 1, 1) := by decide +kernel
theorem dX8_scoreOf_53 : decode cX8_scoreOf 53 = .ok (.sipush 324, 3) := by decide +kernel
theorem dX8_scoreOf_56 : decode cX8_scoreOf 56 = .ok (.iload 6, 2) := by decide +kernel
theorem dX8_scoreOf_58 : decode cX8_scoreOf 58 = .ok (.iadd, 1) := by decide +kernel
theorem dX8_scoreOf_59 : decode cX8_scoreOf 59 = .ok (.iaload, 1) := by decide +kernel
theorem dX8_scoreOf_60 : decode cX8_scoreOf 60 = .ok (.istore 8, 2) := by decide +kernel
theorem dX8_scoreOf_62 : decode cX8_scoreOf 62 = .ok (.aload_n 0, 1) := by decide +kernel
theorem dX8_scoreOf_63 : decode cX8_scoreOf 63 = .ok (.getfield 31, 3) := by decide +kernel
theorem dX8_scoreOf_66 : decode cX8_scoreOf 66 = .ok (.iload 5, 2) := by decide +kernel
theorem dX8_scoreOf_68 : decode cX8_scoreOf 68 = .ok (.iload 7, 2) := by decide +kernel
theorem dX8_scoreOf_70 : decode cX8_scoreOf 70 = .ok (.ifCond .ne 9, 3) := by decide +kernel
theorem dX8_scoreOf_73 : decode cX8_scoreOf 73 = .ok (.iload 8, 2) := by decide +kernel
theorem dX8_scoreOf_75 : decode cX8_scoreOf 75 = .ok (.i2l, 1) := by decide +kernel
theorem dX8_scoreOf_76 : decode cX8_scoreOf 76 = .ok (.goto 71, 3) := by decide +kernel
theorem dX8_scoreOf_79 : decode cX8_scoreOf 79 = .ok (.iload 8, 2) := by decide +kernel
theorem dX8_scoreOf_81 : decode cX8_scoreOf 81 = .ok (.ifCond .ne 11, 3) := by decide +kernel
theorem dX8_scoreOf_84 : decode cX8_scoreOf 84 = .ok (.iload_n 3, 1) := by decide +kernel
theorem dX8_scoreOf_85 : decode cX8_scoreOf 85 = .ok (.invokestatic 183, 3) := by decide +kernel
theorem dX8_scoreOf_88 : decode cX8_scoreOf 88 = .ok (.i2l, 1) := by decide +kernel
theorem dX8_scoreOf_89 : decode cX8_scoreOf 89 = .ok (.goto 58, 3) := by decide +kernel
theorem dX8_scoreOf_92 : decode cX8_scoreOf 92 = .ok (.iload 8, 2) := by decide +kernel
theorem dX8_scoreOf_94 : decode cX8_scoreOf 94 = .ok (.iconst 1, 1) := by decide +kernel
theorem dX8_scoreOf_95 : decode cX8_scoreOf 95 = .ok (.if_icmp .ne 17, 3) := by decide +kernel
theorem dX8_scoreOf_98 : decode cX8_scoreOf 98 = .ok (.iload_n 3, 1) := by decide +kernel
theorem dX8_scoreOf_99 : decode cX8_scoreOf 99 = .ok (.aload_n 1, 1) := by decide +kernel
theorem dX8_scoreOf_100 : decode cX8_scoreOf 100 = .ok (.iload_n 2, 1) := by decide +kernel
theorem dX8_scoreOf_101 : decode cX8_scoreOf 101 = .ok (.invokestatic 186, 3) := by decide +kernel
theorem dX8_scoreOf_104 : decode cX8_scoreOf 104 = .ok (.iand, 1) := by decide +kernel
theorem dX8_scoreOf_105 : decode cX8_scoreOf 105 = .ok (.invokestatic 183, 3) := by decide +kernel
theorem dX8_scoreOf_108 : decode cX8_scoreOf 108 = .ok (.i2l, 1) := by decide +kernel
theorem dX8_scoreOf_109 : decode cX8_scoreOf 109 = .ok (.goto 38, 3) := by decide +kernel
theorem dX8_scoreOf_112 : decode cX8_scoreOf 112 = .ok (.iload 8, 2) := by decide +kernel
theorem dX8_scoreOf_114 : decode cX8_scoreOf 114 = .ok (.iconst 2, 1) := by decide +kernel
theorem dX8_scoreOf_115 : decode cX8_scoreOf 115 = .ok (.if_icmp .ne 13, 3) := by decide +kernel
theorem dX8_scoreOf_118 : decode cX8_scoreOf 118 = .ok (.aload_n 1, 1) := by decide +kernel
theorem dX8_scoreOf_119 : decode cX8_scoreOf 119 = .ok (.iload 4, 2) := by decide +kernel
theorem dX8_scoreOf_121 : decode cX8_scoreOf 121 = .ok (.iconst 2, 1) := by decide +kernel
theorem dX8_scoreOf_122 : decode cX8_scoreOf 122 = .ok (.iadd, 1) := by decide +kernel
theorem dX8_scoreOf_123 : decode cX8_scoreOf 123 = .ok (.iaload, 1) := by decide +kernel
theorem dX8_scoreOf_124 : decode cX8_scoreOf 124 = .ok (.i2l, 1) := by decide +kernel
theorem dX8_scoreOf_125 : decode cX8_scoreOf 125 = .ok (.goto 22, 3) := by decide +kernel
theorem dX8_scoreOf_128 : decode cX8_scoreOf 128 = .ok (.aload_n 1, 1) := by decide +kernel
theorem dX8_scoreOf_129 : decode cX8_scoreOf 129 = .ok (.iload 4, 2) := by decide +kernel
theorem dX8_scoreOf_131 : decode cX8_scoreOf 131 = .ok (.iconst 3, 1) := by decide +kernel
theorem dX8_scoreOf_132 : decode cX8_scoreOf 132 = .ok (.iadd, 1) := by decide +kernel
theorem dX8_scoreOf_133 : decode cX8_scoreOf 133 = .ok (.iaload, 1) := by decide +kernel
theorem dX8_scoreOf_134 : decode cX8_scoreOf 134 = .ok (.aload_n 1, 1) := by decide +kernel
theorem dX8_scoreOf_135 : decode cX8_scoreOf 135 = .ok (.aload_n 1, 1) := by decide +kernel
theorem dX8_scoreOf_136 : decode cX8_scoreOf 136 = .ok (.iload 4, 2) := by decide +kernel
theorem dX8_scoreOf_138 : decode cX8_scoreOf 138 = .ok (.iaload, 1) := by decide +kernel
theorem dX8_scoreOf_139 : decode cX8_scoreOf 139 = .ok (.invokestatic 190, 3) := by decide +kernel
theorem dX8_scoreOf_142 : decode cX8_scoreOf 142 = .ok (.iconst 3, 1) := by decide +kernel
theorem dX8_scoreOf_143 : decode cX8_scoreOf 143 = .ok (.iadd, 1) := by decide +kernel
theorem dX8_scoreOf_144 : decode cX8_scoreOf 144 = .ok (.iaload, 1) := by decide +kernel
theorem dX8_scoreOf_145 : decode cX8_scoreOf 145 = .ok (.isub, 1) := by decide +kernel
theorem dX8_scoreOf_146 : decode cX8_scoreOf 146 = .ok (.i2l, 1) := by decide +kernel
theorem dX8_scoreOf_147 : decode cX8_scoreOf 147 = .ok (.lastore, 1) := by decide +kernel
theorem dX8_scoreOf_148 : decode cX8_scoreOf 148 = .ok (.iinc 5 1, 3) := by decide +kernel
theorem dX8_scoreOf_151 : decode cX8_scoreOf 151 = .ok (.goto 36, 3) := by decide +kernel
theorem dX8_scoreOf_154 : decode cX8_scoreOf 154 = .ok (.iinc 5 (-1), 3) := by decide +kernel
theorem dX8_scoreOf_157 : decode cX8_scoreOf 157 = .ok (.aload_n 0, 1) := by decide +kernel
theorem dX8_scoreOf_158 : decode cX8_scoreOf 158 = .ok (.getfield 31, 3) := by decide +kernel
theorem dX8_scoreOf_161 : decode cX8_scoreOf 161 = .ok (.iload 5, 2) := by decide +kernel
theorem dX8_scoreOf_163 : decode cX8_scoreOf 163 = .ok (.iconst 1, 1) := by decide +kernel
theorem dX8_scoreOf_164 : decode cX8_scoreOf 164 = .ok (.isub, 1) := by decide +kernel
theorem dX8_scoreOf_165 : decode cX8_scoreOf 165 = .ok (.iload 7, 2) := by decide +kernel
theorem dX8_scoreOf_167 : decode cX8_scoreOf 167 = .ok (.aload_n 0, 1) := by decide +kernel
theorem dX8_scoreOf_168 : decode cX8_scoreOf 168 = .ok (.getfield 31, 3) := by decide +kernel
theorem dX8_scoreOf_171 : decode cX8_scoreOf 171 = .ok (.iload 5, 2) := by decide +kernel
theorem dX8_scoreOf_173 : decode cX8_scoreOf 173 = .ok (.iconst 1, 1) := by decide +kernel
theorem dX8_scoreOf_174 : decode cX8_scoreOf 174 = .ok (.isub, 1) := by decide +kernel
theorem dX8_scoreOf_175 : decode cX8_scoreOf 175 = .ok (.laload, 1) := by decide +kernel
theorem dX8_scoreOf_176 : decode cX8_scoreOf 176 = .ok (.aload_n 0, 1) := by decide +kernel
theorem dX8_scoreOf_177 : decode cX8_scoreOf 177 = .ok (.getfield 31, 3) := by decide +kernel
theorem dX8_scoreOf_180 : decode cX8_scoreOf 180 = .ok (.iload 5, 2) := by decide +kernel
theorem dX8_scoreOf_182 : decode cX8_scoreOf 182 = .ok (.laload, 1) := by decide +kernel
theorem dX8_scoreOf_183 : decode cX8_scoreOf 183 = .ok (.invokestatic 193, 3) := by decide +kernel
theorem dX8_scoreOf_186 : decode cX8_scoreOf 186 = .ok (.lastore, 1) := by decide +kernel
theorem dX8_scoreOf_187 : decode cX8_scoreOf 187 = .ok (.iinc 6 1, 3) := by decide +kernel
theorem dX8_scoreOf_190 : decode cX8_scoreOf 190 = .ok (.goto (-166), 3) := by decide +kernel
theorem dX8_scoreOf_193 : decode cX8_scoreOf 193 = .ok (.aload_n 0, 1) := by decide +kernel
theorem dX8_scoreOf_194 : decode cX8_scoreOf 194 = .ok (.getfield 31, 3) := by decide +kernel
theorem dX8_scoreOf_197 : decode cX8_scoreOf 197 = .ok (.iconst 0, 1) := by decide +kernel
theorem dX8_scoreOf_198 : decode cX8_scoreOf 198 = .ok (.laload, 1) := by decide +kernel
theorem dX8_scoreOf_199 : decode cX8_scoreOf 199 = .ok (.l2i, 1) := by decide +kernel
theorem dX8_scoreOf_200 : decode cX8_scoreOf 200 = .ok (.ireturn, 1) := by decide +kernel
theorem dX8_wins_0 : decode cX8_wins 0 = .ok (.aload_n 0, 1) := by decide +kernel
theorem dX8_wins_1 : decode cX8_wins 1 = .ok (.aload_n 1, 1) := by decide +kernel
theorem dX8_wins_2 : decode cX8_wins 2 = .ok (.iload_n 2, 1) := by decide +kernel
theorem dX8_wins_3 : decode cX8_wins 3 = .ok (.iload_n 3, 1) := by decide +kernel
theorem dX8_wins_4 : decode cX8_wins 4 = .ok (.invokevirtual 197, 3) := by decide +kernel
theorem dX8_wins_7 : decode cX8_wins 7 = .ok (.aload_n 1, 1) := by decide +kernel
theorem dX8_wins_8 : decode cX8_wins 8 = .ok (.aload_n 1, 1) := by decide +kernel
theorem dX8_wins_9 : decode cX8_wins 9 = .ok (.iload_n 2, 1) := by decide +kernel
theorem dX8_wins_10 : decode cX8_wins 10 = .ok (.invokestatic 180, 3) := by decide +kernel
theorem dX8_wins_13 : decode cX8_wins 13 = .ok (.iconst 1, 1) := by decide +kernel
theorem dX8_wins_14 : decode cX8_wins 14 = .ok (.iadd, 1) := by decide +kernel
theorem dX8_wins_15 : decode cX8_wins 15 = .ok (.iaload, 1) := by decide +kernel
theorem dX8_wins_16 : decode cX8_wins 16 = .ok (.invokestatic 135, 3) := by decide +kernel
theorem dX8_wins_19 : decode cX8_wins 19 = .ok (.iconst 4, 1) := by decide +kernel
theorem dX8_wins_20 : decode cX8_wins 20 = .ok (.iadd, 1) := by decide +kernel
theorem dX8_wins_21 : decode cX8_wins 21 = .ok (.iaload, 1) := by decide +kernel
theorem dX8_wins_22 : decode cX8_wins 22 = .ok (.if_icmp .lt 19, 3) := by decide +kernel
theorem dX8_wins_25 : decode cX8_wins 25 = .ok (.aload_n 1, 1) := by decide +kernel
theorem dX8_wins_26 : decode cX8_wins 26 = .ok (.iload_n 2, 1) := by decide +kernel
theorem dX8_wins_27 : decode cX8_wins 27 = .ok (.invokestatic 186, 3) := by decide +kernel
theorem dX8_wins_30 : decode cX8_wins 30 = .ok (.iload_n 3, 1) := by decide +kernel
theorem dX8_wins_31 : decode cX8_wins 31 = .ok (.iconst (-1), 1) := by decide +kernel
theorem dX8_wins_32 : decode cX8_wins 32 = .ok (.ixor, 1) := by decide +kernel
theorem dX8_wins_33 : decode cX8_wins 33 = .ok (.iand, 1) := by decide +kernel
theorem dX8_wins_34 : decode cX8_wins 34 = .ok (.ifCond .ne 7, 3) := by decide +kernel
theorem dX8_wins_37 : decode cX8_wins 37 = .ok (.iconst 1, 1) := by decide +kernel
theorem dX8_wins_38 : decode cX8_wins 38 = .ok (.goto 4, 3) := by decide +kernel
theorem dX8_wins_41 : decode cX8_wins 41 = .ok (.iconst 0, 1) := by decide +kernel
theorem dX8_wins_42 : decode cX8_wins 42 = .ok (.ireturn, 1) := by decide +kernel
theorem dX8_pay_0 : decode cX8_pay 0 = .ok (.aload_n 0, 1) := by decide +kernel
theorem dX8_pay_1 : decode cX8_pay 1 = .ok (.iload_n 1, 1) := by decide +kernel
theorem dX8_pay_2 : decode cX8_pay 2 = .ok (.dup2, 1) := by decide +kernel
theorem dX8_pay_3 : decode cX8_pay 3 = .ok (.iaload, 1) := by decide +kernel
theorem dX8_pay_4 : decode cX8_pay 4 = .ok (.iload_n 3, 1) := by decide +kernel
theorem dX8_pay_5 : decode cX8_pay 5 = .ok (.isub, 1) := by decide +kernel
theorem dX8_pay_6 : decode cX8_pay 6 = .ok (.iastore, 1) := by decide +kernel
theorem dX8_pay_7 : decode cX8_pay 7 = .ok (.aload_n 0, 1) := by decide +kernel
theorem dX8_pay_8 : decode cX8_pay 8 = .ok (.iload_n 2, 1) := by decide +kernel
theorem dX8_pay_9 : decode cX8_pay 9 = .ok (.dup2, 1) := by decide +kernel
theorem dX8_pay_10 : decode cX8_pay 10 = .ok (.iaload, 1) := by decide +kernel
theorem dX8_pay_11 : decode cX8_pay 11 = .ok (.iload_n 3, 1) := by decide +kernel
theorem dX8_pay_12 : decode cX8_pay 12 = .ok (.iadd, 1) := by decide +kernel
theorem dX8_pay_13 : decode cX8_pay 13 = .ok (.iastore, 1) := by decide +kernel
theorem dX8_pay_14 : decode cX8_pay 14 = .ok (.return_, 1) := by decide +kernel
theorem dX8_issuerOf_0 : decode cX8_issuerOf 0 = .ok (.bipush 12, 2) := by decide +kernel
theorem dX8_issuerOf_2 : decode cX8_issuerOf 2 = .ok (.aload_n 0, 1) := by decide +kernel
theorem dX8_issuerOf_3 : decode cX8_issuerOf 3 = .ok (.aload_n 0, 1) := by decide +kernel
theorem dX8_issuerOf_4 : decode cX8_issuerOf 4 = .ok (.iload_n 1, 1) := by decide +kernel
theorem dX8_issuerOf_5 : decode cX8_issuerOf 5 = .ok (.invokestatic 180, 3) := by decide +kernel
theorem dX8_issuerOf_8 : decode cX8_issuerOf 8 = .ok (.iaload, 1) := by decide +kernel
theorem dX8_issuerOf_9 : decode cX8_issuerOf 9 = .ok (.invokestatic 190, 3) := by decide +kernel
theorem dX8_issuerOf_12 : decode cX8_issuerOf 12 = .ok (.iaload, 1) := by decide +kernel
theorem dX8_issuerOf_13 : decode cX8_issuerOf 13 = .ok (.iadd, 1) := by decide +kernel
theorem dX8_issuerOf_14 : decode cX8_issuerOf 14 = .ok (.ireturn, 1) := by decide +kernel
theorem dX8_merchantOf_0 : decode cX8_merchantOf 0 = .ok (.bipush 16, 2) := by decide +kernel
theorem dX8_merchantOf_2 : decode cX8_merchantOf 2 = .ok (.aload_n 0, 1) := by decide +kernel
theorem dX8_merchantOf_3 : decode cX8_merchantOf 3 = .ok (.aload_n 0, 1) := by decide +kernel
theorem dX8_merchantOf_4 : decode cX8_merchantOf 4 = .ok (.iload_n 1, 1) := by decide +kernel
theorem dX8_merchantOf_5 : decode cX8_merchantOf 5 = .ok (.invokestatic 180, 3) := by decide +kernel
theorem dX8_merchantOf_8 : decode cX8_merchantOf 8 = .ok (.iaload, 1) := by decide +kernel
theorem dX8_merchantOf_9 : decode cX8_merchantOf 9 = .ok (.invokestatic 190, 3) := by decide +kernel
theorem dX8_merchantOf_12 : decode cX8_merchantOf 12 = .ok (.iconst 1, 1) := by decide +kernel
theorem dX8_merchantOf_13 : decode cX8_merchantOf 13 = .ok (.iadd, 1) := by decide +kernel
theorem dX8_merchantOf_14 : decode cX8_merchantOf 14 = .ok (.iaload, 1) := by decide +kernel
theorem dX8_merchantOf_15 : decode cX8_merchantOf 15 = .ok (.iadd, 1) := by decide +kernel
theorem dX8_merchantOf_16 : decode cX8_merchantOf 16 = .ok (.ireturn, 1) := by decide +kernel
theorem dX8_give_0 : decode cX8_give 0 = .ok (.iload_n 1, 1) := by decide +kernel
theorem dX8_give_1 : decode cX8_give 1 = .ok (.invokestatic 180, 3) := by decide +kernel
theorem dX8_give_4 : decode cX8_give 4 = .ok (.istore_n 3, 1) := by decide +kernel
theorem dX8_give_5 : decode cX8_give 5 = .ok (.aload_n 0, 1) := by decide +kernel
theorem dX8_give_6 : decode cX8_give 6 = .ok (.iload_n 1, 1) := by decide +kernel
theorem dX8_give_7 : decode cX8_give 7 = .ok (.invokestatic 201, 3) := by decide +kernel
theorem dX8_give_10 : decode cX8_give 10 = .ok (.istore 4, 2) := by decide +kernel
theorem dX8_give_12 : decode cX8_give 12 = .ok (.aload_n 0, 1) := by decide +kernel
theorem dX8_give_13 : decode cX8_give 13 = .ok (.iload_n 1, 1) := by decide +kernel
theorem dX8_give_14 : decode cX8_give 14 = .ok (.invokestatic 204, 3) := by decide +kernel
theorem dX8_give_17 : decode cX8_give 17 = .ok (.istore 5, 2) := by decide +kernel
theorem dX8_give_19 : decode cX8_give 19 = .ok (.aload_n 0, 1) := by decide +kernel
theorem dX8_give_20 : decode cX8_give 20 = .ok (.iload_n 3, 1) := by decide +kernel
theorem dX8_give_21 : decode cX8_give 21 = .ok (.bipush 7, 2) := by decide +kernel
theorem dX8_give_23 : decode cX8_give 23 = .ok (.iadd, 1) := by decide +kernel
theorem dX8_give_24 : decode cX8_give 24 = .ok (.iaload, 1) := by decide +kernel
theorem dX8_give_25 : decode cX8_give 25 = .ok (.iconst 1, 1) := by decide +kernel
theorem dX8_give_26 : decode cX8_give 26 = .ok (.if_icmp .ne 7, 3) := by decide +kernel
theorem dX8_give_29 : decode cX8_give 29 = .ok (.iconst 1, 1) := by decide +kernel
theorem dX8_give_30 : decode cX8_give 30 = .ok (.goto 4, 3) := by decide +kernel
theorem dX8_give_33 : decode cX8_give 33 = .ok (.iconst 0, 1) := by decide +kernel
theorem dX8_give_34 : decode cX8_give 34 = .ok (.iload_n 2, 1) := by decide +kernel
theorem dX8_give_35 : decode cX8_give 35 = .ok (.if_icmp .ne 4, 3) := by decide +kernel
theorem dX8_give_38 : decode cX8_give 38 = .ok (.return_, 1) := by decide +kernel
theorem dX8_give_39 : decode cX8_give 39 = .ok (.aload_n 0, 1) := by decide +kernel
theorem dX8_give_40 : decode cX8_give 40 = .ok (.iload_n 2, 1) := by decide +kernel
theorem dX8_give_41 : decode cX8_give 41 = .ok (.ifCond .eq 8, 3) := by decide +kernel
theorem dX8_give_44 : decode cX8_give 44 = .ok (.iload 5, 2) := by decide +kernel
theorem dX8_give_46 : decode cX8_give 46 = .ok (.goto 5, 3) := by decide +kernel
theorem dX8_give_49 : decode cX8_give 49 = .ok (.iload 4, 2) := by decide +kernel
theorem dX8_give_51 : decode cX8_give 51 = .ok (.iload_n 2, 1) := by decide +kernel
theorem dX8_give_52 : decode cX8_give 52 = .ok (.ifCond .eq 8, 3) := by decide +kernel
theorem dX8_give_55 : decode cX8_give 55 = .ok (.iload 4, 2) := by decide +kernel
theorem dX8_give_57 : decode cX8_give 57 = .ok (.goto 5, 3) := by decide +kernel
theorem dX8_give_60 : decode cX8_give 60 = .ok (.iload 5, 2) := by decide +kernel
theorem dX8_give_62 : decode cX8_give 62 = .ok (.aload_n 0, 1) := by decide +kernel
theorem dX8_give_63 : decode cX8_give 63 = .ok (.iload_n 3, 1) := by decide +kernel
theorem dX8_give_64 : decode cX8_give 64 = .ok (.iconst 2, 1) := by decide +kernel
theorem dX8_give_65 : decode cX8_give 65 = .ok (.iadd, 1) := by decide +kernel
theorem dX8_give_66 : decode cX8_give 66 = .ok (.iaload, 1) := by decide +kernel
theorem dX8_give_67 : decode cX8_give 67 = .ok (.invokestatic 207, 3) := by decide +kernel
theorem dX8_give_70 : decode cX8_give 70 = .ok (.aload_n 0, 1) := by decide +kernel
theorem dX8_give_71 : decode cX8_give 71 = .ok (.iload_n 3, 1) := by decide +kernel
theorem dX8_give_72 : decode cX8_give 72 = .ok (.bipush 7, 2) := by decide +kernel
theorem dX8_give_74 : decode cX8_give 74 = .ok (.iadd, 1) := by decide +kernel
theorem dX8_give_75 : decode cX8_give 75 = .ok (.iload_n 2, 1) := by decide +kernel
theorem dX8_give_76 : decode cX8_give 76 = .ok (.ifCond .eq 7, 3) := by decide +kernel
theorem dX8_give_79 : decode cX8_give 79 = .ok (.iconst 1, 1) := by decide +kernel
theorem dX8_give_80 : decode cX8_give 80 = .ok (.goto 4, 3) := by decide +kernel
theorem dX8_give_83 : decode cX8_give 83 = .ok (.iconst 0, 1) := by decide +kernel
theorem dX8_give_84 : decode cX8_give 84 = .ok (.iastore, 1) := by decide +kernel
theorem dX8_give_85 : decode cX8_give 85 = .ok (.return_, 1) := by decide +kernel
theorem dX8_end_0 : decode cX8_end 0 = .ok (.iload_n 1, 1) := by decide +kernel
theorem dX8_end_1 : decode cX8_end 1 = .ok (.invokestatic 180, 3) := by decide +kernel
theorem dX8_end_4 : decode cX8_end 4 = .ok (.istore 4, 2) := by decide +kernel
theorem dX8_end_6 : decode cX8_end 6 = .ok (.aload_n 0, 1) := by decide +kernel
theorem dX8_end_7 : decode cX8_end 7 = .ok (.iload_n 1, 1) := by decide +kernel
theorem dX8_end_8 : decode cX8_end 8 = .ok (.iload_n 2, 1) := by decide +kernel
theorem dX8_end_9 : decode cX8_end 9 = .ok (.invokestatic 211, 3) := by decide +kernel
theorem dX8_end_12 : decode cX8_end 12 = .ok (.iload_n 2, 1) := by decide +kernel
theorem dX8_end_13 : decode cX8_end 13 = .ok (.ifCond .eq 21, 3) := by decide +kernel
theorem dX8_end_16 : decode cX8_end 16 = .ok (.aload_n 0, 1) := by decide +kernel
theorem dX8_end_17 : decode cX8_end 17 = .ok (.aload_n 0, 1) := by decide +kernel
theorem dX8_end_18 : decode cX8_end 18 = .ok (.iload_n 1, 1) := by decide +kernel
theorem dX8_end_19 : decode cX8_end 19 = .ok (.invokestatic 204, 3) := by decide +kernel
theorem dX8_end_22 : decode cX8_end 22 = .ok (.aload_n 0, 1) := by decide +kernel
theorem dX8_end_23 : decode cX8_end 23 = .ok (.iload_n 1, 1) := by decide +kernel
theorem dX8_end_24 : decode cX8_end 24 = .ok (.invokestatic 201, 3) := by decide +kernel
theorem dX8_end_27 : decode cX8_end 27 = .ok (.aload_n 0, 1) := by decide +kernel
theorem dX8_end_28 : decode cX8_end 28 = .ok (.bipush 6, 2) := by decide +kernel
theorem dX8_end_30 : decode cX8_end 30 = .ok (.iaload, 1) := by decide +kernel
theorem dX8_end_31 : decode cX8_end 31 = .ok (.invokestatic 207, 3) := by decide +kernel
theorem dX8_end_34 : decode cX8_end 34 = .ok (.iload_n 3, 1) := by decide +kernel
theorem dX8_end_35 : decode cX8_end 35 = .ok (.ifCond .eq 30, 3) := by decide +kernel
theorem dX8_end_38 : decode cX8_end 38 = .ok (.aload_n 0, 1) := by decide +kernel
theorem dX8_end_39 : decode cX8_end 39 = .ok (.iload_n 2, 1) := by decide +kernel
theorem dX8_end_40 : decode cX8_end 40 = .ok (.ifCond .eq 11, 3) := by decide +kernel
theorem dX8_end_43 : decode cX8_end 43 = .ok (.aload_n 0, 1) := by decide +kernel
theorem dX8_end_44 : decode cX8_end 44 = .ok (.iload_n 1, 1) := by decide +kernel
theorem dX8_end_45 : decode cX8_end 45 = .ok (.invokestatic 204, 3) := by decide +kernel
theorem dX8_end_48 : decode cX8_end 48 = .ok (.goto 8, 3) := by decide +kernel
theorem dX8_end_51 : decode cX8_end 51 = .ok (.aload_n 0, 1) := by decide +kernel
theorem dX8_end_52 : decode cX8_end 52 = .ok (.iload_n 1, 1) := by decide +kernel
theorem dX8_end_53 : decode cX8_end 53 = .ok (.invokestatic 201, 3) := by decide +kernel
theorem dX8_end_56 : decode cX8_end 56 = .ok (.bipush 11, 2) := by decide +kernel
theorem dX8_end_58 : decode cX8_end 58 = .ok (.aload_n 0, 1) := by decide +kernel
theorem dX8_end_59 : decode cX8_end 59 = .ok (.bipush 7, 2) := by decide +kernel
theorem dX8_end_61 : decode cX8_end 61 = .ok (.iaload, 1) := by decide +kernel
theorem dX8_end_62 : decode cX8_end 62 = .ok (.invokestatic 207, 3) := by decide +kernel
theorem dX8_end_65 : decode cX8_end 65 = .ok (.aload_n 0, 1) := by decide +kernel
theorem dX8_end_66 : decode cX8_end 66 = .ok (.iload 4, 2) := by decide +kernel
theorem dX8_end_68 : decode cX8_end 68 = .ok (.iconst 5, 1) := by decide +kernel
theorem dX8_end_69 : decode cX8_end 69 = .ok (.iadd, 1) := by decide +kernel
theorem dX8_end_70 : decode cX8_end 70 = .ok (.iload_n 2, 1) := by decide +kernel
theorem dX8_end_71 : decode cX8_end 71 = .ok (.ifCond .eq 7, 3) := by decide +kernel
theorem dX8_end_74 : decode cX8_end 74 = .ok (.iconst 5, 1) := by decide +kernel
theorem dX8_end_75 : decode cX8_end 75 = .ok (.goto 4, 3) := by decide +kernel
theorem dX8_end_78 : decode cX8_end 78 = .ok (.iconst 4, 1) := by decide +kernel
theorem dX8_end_79 : decode cX8_end 79 = .ok (.iastore, 1) := by decide +kernel
theorem dX8_end_80 : decode cX8_end 80 = .ok (.aload_n 0, 1) := by decide +kernel
theorem dX8_end_81 : decode cX8_end 81 = .ok (.iload 4, 2) := by decide +kernel
theorem dX8_end_83 : decode cX8_end 83 = .ok (.bipush 6, 2) := by decide +kernel
theorem dX8_end_85 : decode cX8_end 85 = .ok (.iadd, 1) := by decide +kernel
theorem dX8_end_86 : decode cX8_end 86 = .ok (.iconst (-1), 1) := by decide +kernel
theorem dX8_end_87 : decode cX8_end 87 = .ok (.iastore, 1) := by decide +kernel
theorem dX8_end_88 : decode cX8_end 88 = .ok (.return_, 1) := by decide +kernel
theorem dX8_isFinal_0 : decode cX8_isFinal 0 = .ok (.aload_n 0, 1) := by decide +kernel
theorem dX8_isFinal_1 : decode cX8_isFinal 1 = .ok (.iload_n 1, 1) := by decide +kernel
theorem dX8_isFinal_2 : decode cX8_isFinal 2 = .ok (.invokestatic 180, 3) := by decide +kernel
theorem dX8_isFinal_5 : decode cX8_isFinal 5 = .ok (.iconst 5, 1) := by decide +kernel
theorem dX8_isFinal_6 : decode cX8_isFinal 6 = .ok (.iadd, 1) := by decide +kernel
theorem dX8_isFinal_7 : decode cX8_isFinal 7 = .ok (.iaload, 1) := by decide +kernel
theorem dX8_isFinal_8 : decode cX8_isFinal 8 = .ok (.iconst 4, 1) := by decide +kernel
theorem dX8_isFinal_9 : decode cX8_isFinal 9 = .ok (.if_icmp .lt 7, 3) := by decide +kernel
theorem dX8_isFinal_12 : decode cX8_isFinal 12 = .ok (.iconst 1, 1) := by decide +kernel
theorem dX8_isFinal_13 : decode cX8_isFinal 13 = .ok (.goto 4, 3) := by decide +kernel
theorem dX8_isFinal_16 : decode cX8_isFinal 16 = .ok (.iconst 0, 1) := by decide +kernel
theorem dX8_isFinal_17 : decode cX8_isFinal 17 = .ok (.ireturn, 1) := by decide +kernel
theorem dX8_passDay_0 : decode cX8_passDay 0 = .ok (.iconst 0, 1) := by decide +kernel
theorem dX8_passDay_1 : decode cX8_passDay 1 = .ok (.istore_n 2, 1) := by decide +kernel
theorem dX8_passDay_2 : decode cX8_passDay 2 = .ok (.aload_n 1, 1) := by decide +kernel
theorem dX8_passDay_3 : decode cX8_passDay 3 = .ok (.iconst 5, 1) := by decide +kernel
theorem dX8_passDay_4 : decode cX8_passDay 4 = .ok (.dup2, 1) := by decide +kernel
theorem dX8_passDay_5 : decode cX8_passDay 5 = .ok (.iaload, 1) := by decide +kernel
theorem dX8_passDay_6 : decode cX8_passDay 6 = .ok (.iconst 1, 1) := by decide +kernel
theorem dX8_passDay_7 : decode cX8_passDay 7 = .ok (.iadd, 1) := by decide +kernel
theorem dX8_passDay_8 : decode cX8_passDay 8 = .ok (.iastore, 1) := by decide +kernel
theorem dX8_passDay_9 : decode cX8_passDay 9 = .ok (.iconst 0, 1) := by decide +kernel
theorem dX8_passDay_10 : decode cX8_passDay 10 = .ok (.istore_n 3, 1) := by decide +kernel
theorem dX8_passDay_11 : decode cX8_passDay 11 = .ok (.iload_n 3, 1) := by decide +kernel
theorem dX8_passDay_12 : decode cX8_passDay 12 = .ok (.aload_n 1, 1) := by decide +kernel
theorem dX8_passDay_13 : decode cX8_passDay 13 = .ok (.iconst 4, 1) := by decide +kernel
theorem dX8_passDay_14 : decode cX8_passDay 14 = .ok (.iaload, 1) := by decide +kernel
theorem dX8_passDay_15 : decode cX8_passDay 15 = .ok (.if_icmp .ge 98, 3) := by decide +kernel
theorem dX8_passDay_18 : decode cX8_passDay 18 = .ok (.iload_n 3, 1) := by decide +kernel
theorem dX8_passDay_19 : decode cX8_passDay 19 = .ok (.invokestatic 180, 3) := by decide +kernel
theorem dX8_passDay_22 : decode cX8_passDay 22 = .ok (.istore 4, 2) := by decide +kernel
theorem dX8_passDay_24 : decode cX8_passDay 24 = .ok (.aload_n 1, 1) := by decide +kernel
theorem dX8_passDay_25 : decode cX8_passDay 25 = .ok (.iload 4, 2) := by decide +kernel
theorem dX8_passDay_27 : decode cX8_passDay 27 = .ok (.iconst 5, 1) := by decide +kernel
theorem dX8_passDay_28 : decode cX8_passDay 28 = .ok (.iadd, 1) := by decide +kernel
theorem dX8_passDay_29 : decode cX8_passDay 29 = .ok (.iaload, 1) := by decide +kernel
theorem dX8_passDay_30 : decode cX8_passDay 30 = .ok (.istore 5, 2) := by decide +kernel
theorem dX8_passDay_32 : decode cX8_passDay 32 = .ok (.aload_n 1, 1) := by decide +kernel
theorem dX8_passDay_33 : decode cX8_passDay 33 = .ok (.iload_n 3, 1) := by decide +kernel
theorem dX8_passDay_34 : decode cX8_passDay 34 = .ok (.invokestatic 215, 3) := by decide +kernel
theorem dX8_passDay_37 : decode cX8_passDay 37 = .ok (.ifCond .ne 70, 3) := by decide +kernel
theorem dX8_passDay_40 : decode cX8_passDay 40 = .ok (.aload_n 1, 1) := by decide +kernel
theorem dX8_passDay_41 : decode cX8_passDay 41 = .ok (.iload 4, 2) := by decide +kernel
theorem dX8_passDay_43 : decode cX8_passDay 43 = .ok (.bipush 6, 2) := by decide +kernel
theorem dX8_passDay_45 : decode cX8_passDay 45 = .ok (.iadd, 1) := by decide +kernel
theorem dX8_passDay_46 : decode cX8_passDay 46 = .ok (.iaload, 1) := by decide +kernel
theorem dX8_passDay_47 : decode cX8_passDay 47 = .ok (.aload_n 1, 1) := by decide +kernel
theorem dX8_passDay_48 : decode cX8_passDay 48 = .ok (.iconst 5, 1) := by decide +kernel
theorem dX8_passDay_49 : decode cX8_passDay 49 = .ok (.iaload, 1) := by decide +kernel
theorem dX8_passDay_50 : decode cX8_passDay 50 = .ok (.if_icmp .lt 6, 3) := by decide +kernel
theorem dX8_passDay_53 : decode cX8_passDay 53 = .ok (.goto 54, 3) := by decide +kernel
theorem dX8_passDay_56 : decode cX8_passDay 56 = .ok (.aload_n 1, 1) := by decide +kernel
theorem dX8_passDay_57 : decode cX8_passDay 57 = .ok (.iload_n 3, 1) := by decide +kernel
theorem dX8_passDay_58 : decode cX8_passDay 58 = .ok (.iload 5, 2) := by decide +kernel
theorem dX8_passDay_60 : decode cX8_passDay 60 = .ok (.iconst 1, 1) := by decide +kernel
theorem dX8_passDay_61 : decode cX8_passDay 61 = .ok (.if_icmp .eq 24, 3) := by decide +kernel
theorem dX8_passDay_64 : decode cX8_passDay 64 = .ok (.iload 5, 2) := by decide +kernel
theorem dX8_passDay_66 : decode cX8_passDay 66 = .ok (.iconst 3, 1) := by decide +kernel
theorem dX8_passDay_67 : decode cX8_passDay 67 = .ok (.if_icmp .ne 22, 3) := by decide +kernel
theorem dX8_passDay_70 : decode cX8_passDay 70 = .ok (.aload_n 0, 1) := by decide +kernel
theorem dX8_passDay_71 : decode cX8_passDay 71 = .ok (.aload_n 1, 1) := by decide +kernel
theorem dX8_passDay_72 : decode cX8_passDay 72 = .ok (.iload_n 3, 1) := by decide +kernel
theorem dX8_passDay_73 : decode cX8_passDay 73 = .ok (.aload_n 1, 1) := by decide +kernel
theorem dX8_passDay_74 : decode cX8_passDay 74 = .ok (.iload 4, 2) := by decide +kernel
theorem dX8_passDay_76 : decode cX8_passDay 76 = .ok (.iconst 4, 1) := by decide +kernel
theorem dX8_passDay_77 : decode cX8_passDay 77 = .ok (.iadd, 1) := by decide +kernel
theorem dX8_passDay_78 : decode cX8_passDay 78 = .ok (.iaload, 1) := by decide +kernel
theorem dX8_passDay_79 : decode cX8_passDay 79 = .ok (.invokevirtual 219, 3) := by decide +kernel
theorem dX8_passDay_82 : decode cX8_passDay 82 = .ok (.ifCond .eq 7, 3) := by decide +kernel
theorem dX8_passDay_85 : decode cX8_passDay 85 = .ok (.iconst 1, 1) := by decide +kernel
theorem dX8_passDay_86 : decode cX8_passDay 86 = .ok (.goto 4, 3) := by decide +kernel
theorem dX8_passDay_89 : decode cX8_passDay 89 = .ok (.iconst 0, 1) := by decide +kernel
theorem dX8_passDay_90 : decode cX8_passDay 90 = .ok (.iload 5, 2) := by decide +kernel
theorem dX8_passDay_92 : decode cX8_passDay 92 = .ok (.iconst 3, 1) := by decide +kernel
theorem dX8_passDay_93 : decode cX8_passDay 93 = .ok (.if_icmp .ne 7, 3) := by decide +kernel
theorem dX8_passDay_96 : decode cX8_passDay 96 = .ok (.iconst 1, 1) := by decide +kernel
theorem dX8_passDay_97 : decode cX8_passDay 97 = .ok (.goto 4, 3) := by decide +kernel
theorem dX8_passDay_100 : decode cX8_passDay 100 = .ok (.iconst 0, 1) := by decide +kernel
theorem dX8_passDay_101 : decode cX8_passDay 101 = .ok (.invokestatic 223, 3) := by decide +kernel
theorem dX8_passDay_104 : decode cX8_passDay 104 = .ok (.iinc 2 1, 3) := by decide +kernel
theorem dX8_passDay_107 : decode cX8_passDay 107 = .ok (.iinc 3 1, 3) := by decide +kernel
theorem dX8_passDay_110 : decode cX8_passDay 110 = .ok (.goto (-99), 3) := by decide +kernel
theorem dX8_passDay_113 : decode cX8_passDay 113 = .ok (.iload_n 2, 1) := by decide +kernel
theorem dX8_passDay_114 : decode cX8_passDay 114 = .ok (.ireturn, 1) := by decide +kernel
theorem dX8_noIssuer_0 : decode cX8_noIssuer 0 = .ok (.aload_n 0, 1) := by decide +kernel
theorem dX8_noIssuer_1 : decode cX8_noIssuer 1 = .ok (.iload_n 1, 1) := by decide +kernel
theorem dX8_noIssuer_2 : decode cX8_noIssuer 2 = .ok (.iconst 0, 1) := by decide +kernel
theorem dX8_noIssuer_3 : decode cX8_noIssuer 3 = .ok (.aload_n 0, 1) := by decide +kernel
theorem dX8_noIssuer_4 : decode cX8_noIssuer 4 = .ok (.getfield 17, 3) := by decide +kernel
theorem dX8_noIssuer_7 : decode cX8_noIssuer 7 = .ok (.iconst 0, 1) := by decide +kernel
theorem dX8_noIssuer_8 : decode cX8_noIssuer 8 = .ok (.iaload, 1) := by decide +kernel
theorem dX8_noIssuer_9 : decode cX8_noIssuer 9 = .ok (.iconst 1, 1) := by decide +kernel
theorem dX8_noIssuer_10 : decode cX8_noIssuer 10 = .ok (.isub, 1) := by decide +kernel
theorem dX8_noIssuer_11 : decode cX8_noIssuer 11 = .ok (.invokestatic 61, 3) := by decide +kernel
theorem dX8_noIssuer_14 : decode cX8_noIssuer 14 = .ok (.ifCond .ne 7, 3) := by decide +kernel
theorem dX8_noIssuer_17 : decode cX8_noIssuer 17 = .ok (.iconst 1, 1) := by decide +kernel
theorem dX8_noIssuer_18 : decode cX8_noIssuer 18 = .ok (.goto 4, 3) := by decide +kernel
theorem dX8_noIssuer_21 : decode cX8_noIssuer 21 = .ok (.iconst 0, 1) := by decide +kernel
theorem dX8_noIssuer_22 : decode cX8_noIssuer 22 = .ok (.iconst 1, 1) := by decide +kernel
theorem dX8_noIssuer_23 : decode cX8_noIssuer 23 = .ok (.invokevirtual 158, 3) := by decide +kernel
theorem dX8_noIssuer_26 : decode cX8_noIssuer 26 = .ok (.ireturn, 1) := by decide +kernel
theorem dX8_noMerchant_0 : decode cX8_noMerchant 0 = .ok (.aload_n 0, 1) := by decide +kernel
theorem dX8_noMerchant_1 : decode cX8_noMerchant 1 = .ok (.iload_n 1, 1) := by decide +kernel
theorem dX8_noMerchant_2 : decode cX8_noMerchant 2 = .ok (.iconst 0, 1) := by decide +kernel
theorem dX8_noMerchant_3 : decode cX8_noMerchant 3 = .ok (.aload_n 0, 1) := by decide +kernel
theorem dX8_noMerchant_4 : decode cX8_noMerchant 4 = .ok (.getfield 17, 3) := by decide +kernel
theorem dX8_noMerchant_7 : decode cX8_noMerchant 7 = .ok (.iconst 1, 1) := by decide +kernel
theorem dX8_noMerchant_8 : decode cX8_noMerchant 8 = .ok (.iaload, 1) := by decide +kernel
theorem dX8_noMerchant_9 : decode cX8_noMerchant 9 = .ok (.iconst 1, 1) := by decide +kernel
theorem dX8_noMerchant_10 : decode cX8_noMerchant 10 = .ok (.isub, 1) := by decide +kernel
theorem dX8_noMerchant_11 : decode cX8_noMerchant 11 = .ok (.invokestatic 61, 3) := by decide +kernel
theorem dX8_noMerchant_14 : decode cX8_noMerchant 14 = .ok (.ifCond .ne 7, 3) := by decide +kernel
theorem dX8_noMerchant_17 : decode cX8_noMerchant 17 = .ok (.iconst 1, 1) := by decide +kernel
theorem dX8_noMerchant_18 : decode cX8_noMerchant 18 = .ok (.goto 4, 3) := by decide +kernel
theorem dX8_noMerchant_21 : decode cX8_noMerchant 21 = .ok (.iconst 0, 1) := by decide +kernel
theorem dX8_noMerchant_22 : decode cX8_noMerchant 22 = .ok (.iconst 1, 1) := by decide +kernel
theorem dX8_noMerchant_23 : decode cX8_noMerchant 23 = .ok (.invokevirtual 158, 3) := by decide +kernel
theorem dX8_noMerchant_26 : decode cX8_noMerchant 26 = .ok (.ireturn, 1) := by decide +kernel
theorem dX8_noPurchase_0 : decode cX8_noPurchase 0 = .ok (.aload_n 0, 1) := by decide +kernel
theorem dX8_noPurchase_1 : decode cX8_noPurchase 1 = .ok (.iload_n 1, 1) := by decide +kernel
theorem dX8_noPurchase_2 : decode cX8_noPurchase 2 = .ok (.iconst 0, 1) := by decide +kernel
theorem dX8_noPurchase_3 : decode cX8_noPurchase 3 = .ok (.aload_n 0, 1) := by decide +kernel
theorem dX8_noPurchase_4 : decode cX8_noPurchase 4 = .ok (.getfield 17, 3) := by decide +kernel
theorem dX8_noPurchase_7 : decode cX8_noPurchase 7 = .ok (.iconst 3, 1) := by decide +kernel
theorem dX8_noPurchase_8 : decode cX8_noPurchase 8 = .ok (.iaload, 1) := by decide +kernel
theorem dX8_noPurchase_9 : decode cX8_noPurchase 9 = .ok (.iconst 1, 1) := by decide +kernel
theorem dX8_noPurchase_10 : decode cX8_noPurchase 10 = .ok (.isub, 1) := by decide +kernel
theorem dX8_noPurchase_11 : decode cX8_noPurchase 11 = .ok (.invokestatic 61, 3) := by decide +kernel
theorem dX8_noPurchase_14 : decode cX8_noPurchase 14 = .ok (.ifCond .ne 7, 3) := by decide +kernel
theorem dX8_noPurchase_17 : decode cX8_noPurchase 17 = .ok (.iconst 1, 1) := by decide +kernel
theorem dX8_noPurchase_18 : decode cX8_noPurchase 18 = .ok (.goto 4, 3) := by decide +kernel
theorem dX8_noPurchase_21 : decode cX8_noPurchase 21 = .ok (.iconst 0, 1) := by decide +kernel
theorem dX8_noPurchase_22 : decode cX8_noPurchase 22 = .ok (.iconst 1, 1) := by decide +kernel
theorem dX8_noPurchase_23 : decode cX8_noPurchase 23 = .ok (.invokevirtual 158, 3) := by decide +kernel
theorem dX8_noPurchase_26 : decode cX8_noPurchase 26 = .ok (.ireturn, 1) := by decide +kernel
theorem dX8_noDispute_0 : decode cX8_noDispute 0 = .ok (.aload_n 0, 1) := by decide +kernel
theorem dX8_noDispute_1 : decode cX8_noDispute 1 = .ok (.iload_n 1, 1) := by decide +kernel
theorem dX8_noDispute_2 : decode cX8_noDispute 2 = .ok (.iconst 0, 1) := by decide +kernel
theorem dX8_noDispute_3 : decode cX8_noDispute 3 = .ok (.aload_n 0, 1) := by decide +kernel
theorem dX8_noDispute_4 : decode cX8_noDispute 4 = .ok (.getfield 17, 3) := by decide +kernel
theorem dX8_noDispute_7 : decode cX8_noDispute 7 = .ok (.iconst 4, 1) := by decide +kernel
theorem dX8_noDispute_8 : decode cX8_noDispute 8 = .ok (.iaload, 1) := by decide +kernel
theorem dX8_noDispute_9 : decode cX8_noDispute 9 = .ok (.iconst 1, 1) := by decide +kernel
theorem dX8_noDispute_10 : decode cX8_noDispute 10 = .ok (.isub, 1) := by decide +kernel
theorem dX8_noDispute_11 : decode cX8_noDispute 11 = .ok (.invokestatic 61, 3) := by decide +kernel
theorem dX8_noDispute_14 : decode cX8_noDispute 14 = .ok (.ifCond .ne 7, 3) := by decide +kernel
theorem dX8_noDispute_17 : decode cX8_noDispute 17 = .ok (.iconst 1, 1) := by decide +kernel
theorem dX8_noDispute_18 : decode cX8_noDispute 18 = .ok (.goto 4, 3) := by decide +kernel
theorem dX8_noDispute_21 : decode cX8_noDispute 21 = .ok (.iconst 0, 1) := by decide +kernel
theorem dX8_noDispute_22 : decode cX8_noDispute 22 = .ok (.iconst 1, 1) := by decide +kernel
theorem dX8_noDispute_23 : decode cX8_noDispute 23 = .ok (.invokevirtual 158, 3) := by decide +kernel
theorem dX8_noDispute_26 : decode cX8_noDispute 26 = .ok (.ireturn, 1) := by decide +kernel
theorem dX8_issuerCount_0 : decode cX8_issuerCount 0 = .ok (.aload_n 0, 1) := by decide +kernel
theorem dX8_issuerCount_1 : decode cX8_issuerCount 1 = .ok (.iconst 0, 1) := by decide +kernel
theorem dX8_issuerCount_2 : decode cX8_issuerCount 2 = .ok (.putfield 39, 3) := by decide +kernel
theorem dX8_issuerCount_5 : decode cX8_issuerCount 5 = .ok (.aload_n 0, 1) := by decide +kernel
theorem dX8_issuerCount_6 : decode cX8_issuerCount 6 = .ok (.getfield 17, 3) := by decide +kernel
theorem dX8_issuerCount_9 : decode cX8_issuerCount 9 = .ok (.iconst 0, 1) := by decide +kernel
theorem dX8_issuerCount_10 : decode cX8_issuerCount 10 = .ok (.iaload, 1) := by decide +kernel
theorem dX8_issuerCount_11 : decode cX8_issuerCount 11 = .ok (.ireturn, 1) := by decide +kernel
theorem dX8_merchantCount_0 : decode cX8_merchantCount 0 = .ok (.aload_n 0, 1) := by decide +kernel
theorem dX8_merchantCount_1 : decode cX8_merchantCount 1 = .ok (.iconst 0, 1) := by decide +kernel
theorem dX8_merchantCount_2 : decode cX8_merchantCount 2 = .ok (.putfield 39, 3) := by decide +kernel
theorem dX8_merchantCount_5 : decode cX8_merchantCount 5 = .ok (.aload_n 0, 1) := by decide +kernel
theorem dX8_merchantCount_6 : decode cX8_merchantCount 6 = .ok (.getfield 17, 3) := by decide +kernel
theorem dX8_merchantCount_9 : decode cX8_merchantCount 9 = .ok (.iconst 1, 1) := by decide +kernel
theorem dX8_merchantCount_10 : decode cX8_merchantCount 10 = .ok (.iaload, 1) := by decide +kernel
theorem dX8_merchantCount_11 : decode cX8_merchantCount 11 = .ok (.ireturn, 1) := by decide +kernel
theorem dX8_reasonCount_0 : decode cX8_reasonCount 0 = .ok (.aload_n 0, 1) := by decide +kernel
theorem dX8_reasonCount_1 : decode cX8_reasonCount 1 = .ok (.iconst 0, 1) := by decide +kernel
theorem dX8_reasonCount_2 : decode cX8_reasonCount 2 = .ok (.putfield 39, 3) := by decide +kernel
theorem dX8_reasonCount_5 : decode cX8_reasonCount 5 = .ok (.aload_n 0, 1) := by decide +kernel
theorem dX8_reasonCount_6 : decode cX8_reasonCount 6 = .ok (.getfield 17, 3) := by decide +kernel
theorem dX8_reasonCount_9 : decode cX8_reasonCount 9 = .ok (.iconst 2, 1) := by decide +kernel
theorem dX8_reasonCount_10 : decode cX8_reasonCount 10 = .ok (.iaload, 1) := by decide +kernel
theorem dX8_reasonCount_11 : decode cX8_reasonCount 11 = .ok (.ireturn, 1) := by decide +kernel
theorem dX8_purchaseCount_0 : decode cX8_purchaseCount 0 = .ok (.aload_n 0, 1) := by decide +kernel
theorem dX8_purchaseCount_1 : decode cX8_purchaseCount 1 = .ok (.iconst 0, 1) := by decide +kernel
theorem dX8_purchaseCount_2 : decode cX8_purchaseCount 2 = .ok (.putfield 39, 3) := by decide +kernel
theorem dX8_purchaseCount_5 : decode cX8_purchaseCount 5 = .ok (.aload_n 0, 1) := by decide +kernel
theorem dX8_purchaseCount_6 : decode cX8_purchaseCount 6 = .ok (.getfield 17, 3) := by decide +kernel
theorem dX8_purchaseCount_9 : decode cX8_purchaseCount 9 = .ok (.iconst 3, 1) := by decide +kernel
theorem dX8_purchaseCount_10 : decode cX8_purchaseCount 10 = .ok (.iaload, 1) := by decide +kernel
theorem dX8_purchaseCount_11 : decode cX8_purchaseCount 11 = .ok (.ireturn, 1) := by decide +kernel
theorem dX8_disputeCount_0 : decode cX8_disputeCount 0 = .ok (.aload_n 0, 1) := by decide +kernel
theorem dX8_disputeCount_1 : decode cX8_disputeCount 1 = .ok (.iconst 0, 1) := by decide +kernel
theorem dX8_disputeCount_2 : decode cX8_disputeCount 2 = .ok (.putfield 39, 3) := by decide +kernel
theorem dX8_disputeCount_5 : decode cX8_disputeCount 5 = .ok (.aload_n 0, 1) := by decide +kernel
theorem dX8_disputeCount_6 : decode cX8_disputeCount 6 = .ok (.getfield 17, 3) := by decide +kernel
theorem dX8_disputeCount_9 : decode cX8_disputeCount 9 = .ok (.iconst 4, 1) := by decide +kernel
theorem dX8_disputeCount_10 : decode cX8_disputeCount 10 = .ok (.iaload, 1) := by decide +kernel
theorem dX8_disputeCount_11 : decode cX8_disputeCount 11 = .ok (.ireturn, 1) := by decide +kernel
theorem dX8_today_0 : decode cX8_today 0 = .ok (.aload_n 0, 1) := by decide +kernel
theorem dX8_today_1 : decode cX8_today 1 = .ok (.iconst 0, 1) := by decide +kernel
theorem dX8_today_2 : decode cX8_today 2 = .ok (.putfield 39, 3) := by decide +kernel
theorem dX8_today_5 : decode cX8_today 5 = .ok (.aload_n 0, 1) := by decide +kernel
theorem dX8_today_6 : decode cX8_today 6 = .ok (.getfield 17, 3) := by decide +kernel
theorem dX8_today_9 : decode cX8_today 9 = .ok (.iconst 5, 1) := by decide +kernel
theorem dX8_today_10 : decode cX8_today 10 = .ok (.iaload, 1) := by decide +kernel
theorem dX8_today_11 : decode cX8_today 11 = .ok (.ireturn, 1) := by decide +kernel
theorem dX8_reasonOf_0 : decode cX8_reasonOf 0 = .ok (.aload_n 0, 1) := by decide +kernel
theorem dX8_reasonOf_1 : decode cX8_reasonOf 1 = .ok (.iconst 0, 1) := by decide +kernel
theorem dX8_reasonOf_2 : decode cX8_reasonOf 2 = .ok (.putfield 39, 3) := by decide +kernel
theorem dX8_reasonOf_5 : decode cX8_reasonOf 5 = .ok (.iconst 0, 1) := by decide +kernel
theorem dX8_reasonOf_6 : decode cX8_reasonOf 6 = .ok (.istore_n 2, 1) := by decide +kernel
theorem dX8_reasonOf_7 : decode cX8_reasonOf 7 = .ok (.iload_n 2, 1) := by decide +kernel
theorem dX8_reasonOf_8 : decode cX8_reasonOf 8 = .ok (.aload_n 0, 1) := by decide +kernel
theorem dX8_reasonOf_9 : decode cX8_reasonOf 9 = .ok (.getfield 17, 3) := by decide +kernel
theorem dX8_reasonOf_12 : decode cX8_reasonOf 12 = .ok (.iconst 2, 1) := by decide +kernel
theorem dX8_reasonOf_13 : decode cX8_reasonOf 13 = .ok (.iaload, 1) := by decide +kernel
theorem dX8_reasonOf_14 : decode cX8_reasonOf 14 = .ok (.if_icmp .ge 24, 3) := by decide +kernel
theorem dX8_reasonOf_17 : decode cX8_reasonOf 17 = .ok (.aload_n 0, 1) := by decide +kernel
theorem dX8_reasonOf_18 : decode cX8_reasonOf 18 = .ok (.getfield 17, 3) := by decide +kernel
theorem dX8_reasonOf_21 : decode cX8_reasonOf 21 = .ok (.iload_n 2, 1) := by decide +kernel
theorem dX8_reasonOf_22 : decode cX8_reasonOf 22 = .ok (.invokestatic 135, 3) := by decide +kernel
theorem dX8_reasonOf_25 : decode cX8_reasonOf 25 = .ok (.iaload, 1) := by decide +kernel
theorem dX8_reasonOf_26 : decode cX8_reasonOf 26 = .ok (.iload_n 1, 1) := by decide +kernel
theorem dX8_reasonOf_27 : decode cX8_reasonOf 27 = .ok (.if_icmp .ne 5, 3) := by decide +kernel
theorem dX8_reasonOf_30 : decode cX8_reasonOf 30 = .ok (.iload_n 2, 1) := by decide +kernel
theorem dX8_reasonOf_31 : decode cX8_reasonOf 31 = .ok (.ireturn, 1) := by decide +kernel
theorem dX8_reasonOf_32 : decode cX8_reasonOf 32 = .ok (.iinc 2 1, 3) := by decide +kernel
theorem dX8_reasonOf_35 : decode cX8_reasonOf 35 = .ok (.goto (-28), 3) := by decide +kernel
theorem dX8_reasonOf_38 : decode cX8_reasonOf 38 = .ok (.iconst (-1), 1) := by decide +kernel
theorem dX8_reasonOf_39 : decode cX8_reasonOf 39 = .ok (.ireturn, 1) := by decide +kernel
theorem dX8_issuerAccount_0 : decode cX8_issuerAccount 0 = .ok (.aload_n 0, 1) := by decide +kernel
theorem dX8_issuerAccount_1 : decode cX8_issuerAccount 1 = .ok (.iconst 0, 1) := by decide +kernel
theorem dX8_issuerAccount_2 : decode cX8_issuerAccount 2 = .ok (.putfield 39, 3) := by decide +kernel
theorem dX8_issuerAccount_5 : decode cX8_issuerAccount 5 = .ok (.aload_n 0, 1) := by decide +kernel
theorem dX8_issuerAccount_6 : decode cX8_issuerAccount 6 = .ok (.iload_n 1, 1) := by decide +kernel
theorem dX8_issuerAccount_7 : decode cX8_issuerAccount 7 = .ok (.invokevirtual 227, 3) := by decide +kernel
theorem dX8_issuerAccount_10 : decode cX8_issuerAccount 10 = .ok (.ifCond .eq 7, 3) := by decide +kernel
theorem dX8_issuerAccount_13 : decode cX8_issuerAccount 13 = .ok (.iconst 0, 1) := by decide +kernel
theorem dX8_issuerAccount_14 : decode cX8_issuerAccount 14 = .ok (.goto 12, 3) := by decide +kernel
theorem dX8_issuerAccount_17 : decode cX8_issuerAccount 17 = .ok (.aload_n 0, 1) := by decide +kernel
theorem dX8_issuerAccount_18 : decode cX8_issuerAccount 18 = .ok (.getfield 17, 3) := by decide +kernel
theorem dX8_issuerAccount_21 : decode cX8_issuerAccount 21 = .ok (.bipush 12, 2) := by decide +kernel
theorem dX8_issuerAccount_23 : decode cX8_issuerAccount 23 = .ok (.iload_n 1, 1) := by decide +kernel
theorem dX8_issuerAccount_24 : decode cX8_issuerAccount 24 = .ok (.iadd, 1) := by decide +kernel
theorem dX8_issuerAccount_25 : decode cX8_issuerAccount 25 = .ok (.iaload, 1) := by decide +kernel
theorem dX8_issuerAccount_26 : decode cX8_issuerAccount 26 = .ok (.ireturn, 1) := by decide +kernel
theorem dX8_merchantAccount_0 : decode cX8_merchantAccount 0 = .ok (.aload_n 0, 1) := by decide +kernel
theorem dX8_merchantAccount_1 : decode cX8_merchantAccount 1 = .ok (.iconst 0, 1) := by decide +kernel
theorem dX8_merchantAccount_2 : decode cX8_merchantAccount 2 = .ok (.putfield 39, 3) := by decide +kernel
theorem dX8_merchantAccount_5 : decode cX8_merchantAccount 5 = .ok (.aload_n 0, 1) := by decide +kernel
theorem dX8_merchantAccount_6 : decode cX8_merchantAccount 6 = .ok (.iload_n 1, 1) := by decide +kernel
theorem dX8_merchantAccount_7 : decode cX8_merchantAccount 7 = .ok (.invokevirtual 230, 3) := by decide +kernel
theorem dX8_merchantAccount_10 : decode cX8_merchantAccount 10 = .ok (.ifCond .eq 7, 3) := by decide +kernel
theorem dX8_merchantAccount_13 : decode cX8_merchantAccount 13 = .ok (.iconst 0, 1) := by decide +kernel
theorem dX8_merchantAccount_14 : decode cX8_merchantAccount 14 = .ok (.goto 12, 3) := by decide +kernel
theorem dX8_merchantAccount_17 : decode cX8_merchantAccount 17 = .ok (.aload_n 0, 1) := by decide +kernel
theorem dX8_merchantAccount_18 : decode cX8_merchantAccount 18 = .ok (.getfield 17, 3) := by decide +kernel
theorem dX8_merchantAccount_21 : decode cX8_merchantAccount 21 = .ok (.bipush 16, 2) := by decide +kernel
theorem dX8_merchantAccount_23 : decode cX8_merchantAccount 23 = .ok (.iload_n 1, 1) := by decide +kernel
theorem dX8_merchantAccount_24 : decode cX8_merchantAccount 24 = .ok (.iadd, 1) := by decide +kernel
theorem dX8_merchantAccount_25 : decode cX8_merchantAccount 25 = .ok (.iaload, 1) := by decide +kernel
theorem dX8_merchantAccount_26 : decode cX8_merchantAccount 26 = .ok (.ireturn, 1) := by decide +kernel
theorem dX8_networkAccount_0 : decode cX8_networkAccount 0 = .ok (.aload_n 0, 1) := by decide +kernel
theorem dX8_networkAccount_1 : decode cX8_networkAccount 1 = .ok (.iconst 0, 1) := by decide +kernel
theorem dX8_networkAccount_2 : decode cX8_networkAccount 2 = .ok (.putfield 39, 3) := by decide +kernel
theorem dX8_networkAccount_5 : decode cX8_networkAccount 5 = .ok (.aload_n 0, 1) := by decide +kernel
theorem dX8_networkAccount_6 : decode cX8_networkAccount 6 = .ok (.getfield 17, 3) := by decide +kernel
theorem dX8_networkAccount_9 : decode cX8_networkAccount 9 = .ok (.bipush 11, 2) := by decide +kernel
theorem dX8_networkAccount_11 : decode cX8_networkAccount 11 = .ok (.iaload, 1) := by decide +kernel
theorem dX8_networkAccount_12 : decode cX8_networkAccount 12 = .ok (.ireturn, 1) := by decide +kernel
theorem dX8_disputedOf_0 : decode cX8_disputedOf 0 = .ok (.iconst 0, 1) := by decide +kernel
theorem dX8_disputedOf_1 : decode cX8_disputedOf 1 = .ok (.istore_n 2, 1) := by decide +kernel
theorem dX8_disputedOf_2 : decode cX8_disputedOf 2 = .ok (.iconst 0, 1) := by decide +kernel
theorem dX8_disputedOf_3 : decode cX8_disputedOf 3 = .ok (.istore_n 3, 1) := by decide +kernel
theorem dX8_disputedOf_4 : decode cX8_disputedOf 4 = .ok (.iload_n 3, 1) := by decide +kernel
theorem dX8_disputedOf_5 : decode cX8_disputedOf 5 = .ok (.aload_n 0, 1) := by decide +kernel
theorem dX8_disputedOf_6 : decode cX8_disputedOf 6 = .ok (.getfield 17, 3) := by decide +kernel
theorem dX8_disputedOf_9 : decode cX8_disputedOf 9 = .ok (.iconst 4, 1) := by decide +kernel
theorem dX8_disputedOf_10 : decode cX8_disputedOf 10 = .ok (.iaload, 1) := by decide +kernel
theorem dX8_disputedOf_11 : decode cX8_disputedOf 11 = .ok (.if_icmp .ge 55, 3) := by decide +kernel
theorem dX8_disputedOf_14 : decode cX8_disputedOf 14 = .ok (.iload_n 2, 1) := by decide +kernel
theorem dX8_disputedOf_15 : decode cX8_disputedOf 15 = .ok (.aload_n 0, 1) := by decide +kernel
theorem dX8_disputedOf_16 : decode cX8_disputedOf 16 = .ok (.getfield 17, 3) := by decide +kernel
theorem dX8_disputedOf_19 : decode cX8_disputedOf 19 = .ok (.iload_n 3, 1) := by decide +kernel
theorem dX8_disputedOf_20 : decode cX8_disputedOf 20 = .ok (.invokestatic 180, 3) := by decide +kernel
theorem dX8_disputedOf_23 : decode cX8_disputedOf 23 = .ok (.iaload, 1) := by decide +kernel
theorem dX8_disputedOf_24 : decode cX8_disputedOf 24 = .ok (.iload_n 1, 1) := by decide +kernel
theorem dX8_disputedOf_25 : decode cX8_disputedOf 25 = .ok (.if_icmp .ne 32, 3) := by decide +kernel
theorem dX8_disputedOf_28 : decode cX8_disputedOf 28 = .ok (.aload_n 0, 1) := by decide +kernel
theorem dX8_disputedOf_29 : decode cX8_disputedOf 29 = .ok (.getfield 17, 3) := by decide +kernel
theorem dX8_disputedOf_32 : decode cX8_disputedOf 32 = .ok (.iload_n 3, 1) := by decide +kernel
theorem dX8_disputedOf_33 : decode cX8_disputedOf 33 = .ok (.invokestatic 180, 3) := by decide +kernel
theorem dX8_disputedOf_36 : decode cX8_disputedOf 36 = .ok (.iconst 5, 1) := by decide +kernel
theorem dX8_disputedOf_37 : decode cX8_disputedOf 37 = .ok (.iadd, 1) := by decide +kernel
theorem dX8_disputedOf_38 : decode cX8_disputedOf 38 = .ok (.iaload, 1) := by decide +kernel
theorem dX8_disputedOf_39 : decode cX8_disputedOf 39 = .ok (.iconst 5, 1) := by decide +kernel
theorem dX8_disputedOf_40 : decode cX8_disputedOf 40 = .ok (.if_icmp .eq 17, 3) := by decide +kernel
theorem dX8_disputedOf_43 : decode cX8_disputedOf 43 = .ok (.aload_n 0, 1) := by decide +kernel
theorem dX8_disputedOf_44 : decode cX8_disputedOf 44 = .ok (.getfield 17, 3) := by decide +kernel
theorem dX8_disputedOf_47 : decode cX8_disputedOf 47 = .ok (.iload_n 3, 1) := by decide +kernel
theorem dX8_disputedOf_48 : decode cX8_disputedOf 48 = .ok (.invokestatic 180, 3) := by decide +kernel
theorem dX8_disputedOf_51 : decode cX8_disputedOf 51 = .ok (.iconst 2, 1) := by decide +kernel
theorem dX8_disputedOf_52 : decode cX8_disputedOf 52 = .ok (.iadd, 1) := by decide +kernel
theorem dX8_disputedOf_53 : decode cX8_disputedOf 53 = .ok (.iaload, 1) := by decide +kernel
theorem dX8_disputedOf_54 : decode cX8_disputedOf 54 = .ok (.goto 4, 3) := by decide +kernel
theorem dX8_disputedOf_57 : decode cX8_disputedOf 57 = .ok (.iconst 0, 1) := by decide +kernel
theorem dX8_disputedOf_58 : decode cX8_disputedOf 58 = .ok (.iadd, 1) := by decide +kernel
theorem dX8_disputedOf_59 : decode cX8_disputedOf 59 = .ok (.istore_n 2, 1) := by decide +kernel
theorem dX8_disputedOf_60 : decode cX8_disputedOf 60 = .ok (.iinc 3 1, 3) := by decide +kernel
theorem dX8_disputedOf_63 : decode cX8_disputedOf 63 = .ok (.goto (-59), 3) := by decide +kernel
theorem dX8_disputedOf_66 : decode cX8_disputedOf 66 = .ok (.iload_n 2, 1) := by decide +kernel
theorem dX8_disputedOf_67 : decode cX8_disputedOf 67 = .ok (.ireturn, 1) := by decide +kernel
theorem dX8_disputed_0 : decode cX8_disputed 0 = .ok (.aload_n 0, 1) := by decide +kernel
theorem dX8_disputed_1 : decode cX8_disputed 1 = .ok (.iconst 0, 1) := by decide +kernel
theorem dX8_disputed_2 : decode cX8_disputed 2 = .ok (.putfield 39, 3) := by decide +kernel
theorem dX8_disputed_5 : decode cX8_disputed 5 = .ok (.aload_n 0, 1) := by decide +kernel
theorem dX8_disputed_6 : decode cX8_disputed 6 = .ok (.iload_n 1, 1) := by decide +kernel
theorem dX8_disputed_7 : decode cX8_disputed 7 = .ok (.invokevirtual 233, 3) := by decide +kernel
theorem dX8_disputed_10 : decode cX8_disputed 10 = .ok (.ifCond .eq 7, 3) := by decide +kernel
theorem dX8_disputed_13 : decode cX8_disputed 13 = .ok (.iconst 0, 1) := by decide +kernel
theorem dX8_disputed_14 : decode cX8_disputed 14 = .ok (.goto 8, 3) := by decide +kernel
theorem dX8_disputed_17 : decode cX8_disputed 17 = .ok (.aload_n 0, 1) := by decide +kernel
theorem dX8_disputed_18 : decode cX8_disputed 18 = .ok (.iload_n 1, 1) := by decide +kernel
theorem dX8_disputed_19 : decode cX8_disputed 19 = .ok (.invokevirtual 236, 3) := by decide +kernel
theorem dX8_disputed_22 : decode cX8_disputed 22 = .ok (.ireturn, 1) := by decide +kernel
theorem dX8_state_0 : decode cX8_state 0 = .ok (.aload_n 0, 1) := by decide +kernel
theorem dX8_state_1 : decode cX8_state 1 = .ok (.iconst 0, 1) := by decide +kernel
theorem dX8_state_2 : decode cX8_state 2 = .ok (.putfield 39, 3) := by decide +kernel
theorem dX8_state_5 : decode cX8_state 5 = .ok (.aload_n 0, 1) := by decide +kernel
theorem dX8_state_6 : decode cX8_state 6 = .ok (.iload_n 1, 1) := by decide +kernel
theorem dX8_state_7 : decode cX8_state 7 = .ok (.invokevirtual 239, 3) := by decide +kernel
theorem dX8_state_10 : decode cX8_state 10 = .ok (.ifCond .eq 7, 3) := by decide +kernel
theorem dX8_state_13 : decode cX8_state 13 = .ok (.iconst 0, 1) := by decide +kernel
theorem dX8_state_14 : decode cX8_state 14 = .ok (.goto 14, 3) := by decide +kernel
theorem dX8_state_17 : decode cX8_state 17 = .ok (.aload_n 0, 1) := by decide +kernel
theorem dX8_state_18 : decode cX8_state 18 = .ok (.getfield 17, 3) := by decide +kernel
theorem dX8_state_21 : decode cX8_state 21 = .ok (.iload_n 1, 1) := by decide +kernel
theorem dX8_state_22 : decode cX8_state 22 = .ok (.invokestatic 180, 3) := by decide +kernel
theorem dX8_state_25 : decode cX8_state 25 = .ok (.iconst 5, 1) := by decide +kernel
theorem dX8_state_26 : decode cX8_state 26 = .ok (.iadd, 1) := by decide +kernel
theorem dX8_state_27 : decode cX8_state 27 = .ok (.iaload, 1) := by decide +kernel
theorem dX8_state_28 : decode cX8_state 28 = .ok (.ireturn, 1) := by decide +kernel
theorem dX8_deadline_0 : decode cX8_deadline 0 = .ok (.aload_n 0, 1) := by decide +kernel
theorem dX8_deadline_1 : decode cX8_deadline 1 = .ok (.iconst 0, 1) := by decide +kernel
theorem dX8_deadline_2 : decode cX8_deadline 2 = .ok (.putfield 39, 3) := by decide +kernel
theorem dX8_deadline_5 : decode cX8_deadline 5 = .ok (.aload_n 0, 1) := by decide +kernel
theorem dX8_deadline_6 : decode cX8_deadline 6 = .ok (.iload_n 1, 1) := by decide +kernel
theorem dX8_deadline_7 : decode cX8_deadline 7 = .ok (.invokevirtual 239, 3) := by decide +kernel
theorem dX8_deadline_10 : decode cX8_deadline 10 = .ok (.ifCond .eq 7, 3) := by decide +kernel
theorem dX8_deadline_13 : decode cX8_deadline 13 = .ok (.iconst 0, 1) := by decide +kernel
theorem dX8_deadline_14 : decode cX8_deadline 14 = .ok (.goto 15, 3) := by decide +kernel
theorem dX8_deadline_17 : decode cX8_deadline 17 = .ok (.aload_n 0, 1) := by decide +kernel
theorem dX8_deadline_18 : decode cX8_deadline 18 = .ok (.getfield 17, 3) := by decide +kernel
theorem dX8_deadline_21 : decode cX8_deadline 21 = .ok (.iload_n 1, 1) := by decide +kernel
theorem dX8_deadline_22 : decode cX8_deadline 22 = .ok (.invokestatic 180, 3) := by decide +kernel
theorem dX8_deadline_25 : decode cX8_deadline 25 = .ok (.bipush 6, 2) := by decide +kernel
theorem dX8_deadline_27 : decode cX8_deadline 27 = .ok (.iadd, 1) := by decide +kernel
theorem dX8_deadline_28 : decode cX8_deadline 28 = .ok (.iaload, 1) := by decide +kernel
theorem dX8_deadline_29 : decode cX8_deadline 29 = .ok (.ireturn, 1) := by decide +kernel
theorem dX8_evidence_0 : decode cX8_evidence 0 = .ok (.aload_n 0, 1) := by decide +kernel
theorem dX8_evidence_1 : decode cX8_evidence 1 = .ok (.iconst 0, 1) := by decide +kernel
theorem dX8_evidence_2 : decode cX8_evidence 2 = .ok (.putfield 39, 3) := by decide +kernel
theorem dX8_evidence_5 : decode cX8_evidence 5 = .ok (.aload_n 0, 1) := by decide +kernel
theorem dX8_evidence_6 : decode cX8_evidence 6 = .ok (.iload_n 1, 1) := by decide +kernel
theorem dX8_evidence_7 : decode cX8_evidence 7 = .ok (.invokevirtual 239, 3) := by decide +kernel
theorem dX8_evidence_10 : decode cX8_evidence 10 = .ok (.ifCond .eq 7, 3) := by decide +kernel
theorem dX8_evidence_13 : decode cX8_evidence 13 = .ok (.iconst 0, 1) := by decide +kernel
theorem dX8_evidence_14 : decode cX8_evidence 14 = .ok (.goto 14, 3) := by decide +kernel
theorem dX8_evidence_17 : decode cX8_evidence 17 = .ok (.aload_n 0, 1) := by decide +kernel
theorem dX8_evidence_18 : decode cX8_evidence 18 = .ok (.getfield 17, 3) := by decide +kernel
theorem dX8_evidence_21 : decode cX8_evidence 21 = .ok (.iload_n 1, 1) := by decide +kernel
theorem dX8_evidence_22 : decode cX8_evidence 22 = .ok (.invokestatic 180, 3) := by decide +kernel
theorem dX8_evidence_25 : decode cX8_evidence 25 = .ok (.iconst 4, 1) := by decide +kernel
theorem dX8_evidence_26 : decode cX8_evidence 26 = .ok (.iadd, 1) := by decide +kernel
theorem dX8_evidence_27 : decode cX8_evidence 27 = .ok (.iaload, 1) := by decide +kernel
theorem dX8_evidence_28 : decode cX8_evidence 28 = .ok (.ireturn, 1) := by decide +kernel
theorem dX8_isWithMerchant_0 : decode cX8_isWithMerchant 0 = .ok (.aload_n 0, 1) := by decide +kernel
theorem dX8_isWithMerchant_1 : decode cX8_isWithMerchant 1 = .ok (.iconst 0, 1) := by decide +kernel
theorem dX8_isWithMerchant_2 : decode cX8_isWithMerchant 2 = .ok (.putfield 39, 3) := by decide +kernel
theorem dX8_isWithMerchant_5 : decode cX8_isWithMerchant 5 = .ok (.aload_n 0, 1) := by decide +kernel
theorem dX8_isWithMerchant_6 : decode cX8_isWithMerchant 6 = .ok (.iload_n 1, 1) := by decide +kernel
theorem dX8_isWithMerchant_7 : decode cX8_isWithMerchant 7 = .ok (.invokevirtual 239, 3) := by decide +kernel
theorem dX8_isWithMerchant_10 : decode cX8_isWithMerchant 10 = .ok (.ifCond .ne 23, 3) := by decide +kernel
theorem dX8_isWithMerchant_13 : decode cX8_isWithMerchant 13 = .ok (.aload_n 0, 1) := by decide +kernel
theorem dX8_isWithMerchant_14 : decode cX8_isWithMerchant 14 = .ok (.getfield 17, 3) := by decide +kernel
theorem dX8_isWithMerchant_17 : decode cX8_isWithMerchant 17 = .ok (.iload_n 1, 1) := by decide +kernel
theorem dX8_isWithMerchant_18 : decode cX8_isWithMerchant 18 = .ok (.invokestatic 180, 3) := by decide +kernel
theorem dX8_isWithMerchant_21 : decode cX8_isWithMerchant 21 = .ok (.bipush 7, 2) := by decide +kernel
theorem dX8_isWithMerchant_23 : decode cX8_isWithMerchant 23 = .ok (.iadd, 1) := by decide +kernel
theorem dX8_isWithMerchant_24 : decode cX8_isWithMerchant 24 = .ok (.iaload, 1) := by decide +kernel
theorem dX8_isWithMerchant_25 : decode cX8_isWithMerchant 25 = .ok (.iconst 1, 1) := by decide +kernel
theorem dX8_isWithMerchant_26 : decode cX8_isWithMerchant 26 = .ok (.if_icmp .ne 7, 3) := by decide +kernel
theorem dX8_isWithMerchant_29 : decode cX8_isWithMerchant 29 = .ok (.iconst 1, 1) := by decide +kernel
theorem dX8_isWithMerchant_30 : decode cX8_isWithMerchant 30 = .ok (.goto 4, 3) := by decide +kernel
theorem dX8_isWithMerchant_33 : decode cX8_isWithMerchant 33 = .ok (.iconst 0, 1) := by decide +kernel
theorem dX8_isWithMerchant_34 : decode cX8_isWithMerchant 34 = .ok (.ireturn, 1) := by decide +kernel
theorem dX8_score_0 : decode cX8_score 0 = .ok (.aload_n 0, 1) := by decide +kernel
theorem dX8_score_1 : decode cX8_score 1 = .ok (.iconst 0, 1) := by decide +kernel
theorem dX8_score_2 : decode cX8_score 2 = .ok (.putfield 39, 3) := by decide +kernel
theorem dX8_score_5 : decode cX8_score 5 = .ok (.aload_n 0, 1) := by decide +kernel
theorem dX8_score_6 : decode cX8_score 6 = .ok (.iload_n 1, 1) := by decide +kernel
theorem dX8_score_7 : decode cX8_score 7 = .ok (.invokevirtual 239, 3) := by decide +kernel
theorem dX8_score_10 : decode cX8_score 10 = .ok (.ifCond .eq 7, 3) := by decide +kernel
theorem dX8_score_13 : decode cX8_score 13 = .ok (.iconst 0, 1) := by decide +kernel
theorem dX8_score_14 : decode cX8_score 14 = .ok (.goto 23, 3) := by decide +kernel
theorem dX8_score_17 : decode cX8_score 17 = .ok (.aload_n 0, 1) := by decide +kernel
theorem dX8_score_18 : decode cX8_score 18 = .ok (.aload_n 0, 1) := by decide +kernel
theorem dX8_score_19 : decode cX8_score 19 = .ok (.getfield 17, 3) := by decide +kernel
theorem dX8_score_22 : decode cX8_score 22 = .ok (.iload_n 1, 1) := by decide +kernel
theorem dX8_score_23 : decode cX8_score 23 = .ok (.aload_n 0, 1) := by decide +kernel
theorem dX8_score_24 : decode cX8_score 24 = .ok (.getfield 17, 3) := by decide +kernel
theorem dX8_score_27 : decode cX8_score 27 = .ok (.iload_n 1, 1) := by decide +kernel
theorem dX8_score_28 : decode cX8_score 28 = .ok (.invokestatic 180, 3) := by decide +kernel
theorem dX8_score_31 : decode cX8_score 31 = .ok (.iconst 4, 1) := by decide +kernel
theorem dX8_score_32 : decode cX8_score 32 = .ok (.iadd, 1) := by decide +kernel
theorem dX8_score_33 : decode cX8_score 33 = .ok (.iaload, 1) := by decide +kernel
theorem dX8_score_34 : decode cX8_score 34 = .ok (.invokevirtual 197, 3) := by decide +kernel
theorem dX8_score_37 : decode cX8_score 37 = .ok (.ireturn, 1) := by decide +kernel
theorem dX8_wouldWin_0 : decode cX8_wouldWin 0 = .ok (.aload_n 0, 1) := by decide +kernel
theorem dX8_wouldWin_1 : decode cX8_wouldWin 1 = .ok (.iconst 0, 1) := by decide +kernel
theorem dX8_wouldWin_2 : decode cX8_wouldWin 2 = .ok (.putfield 39, 3) := by decide +kernel
theorem dX8_wouldWin_5 : decode cX8_wouldWin 5 = .ok (.aload_n 0, 1) := by decide +kernel
theorem dX8_wouldWin_6 : decode cX8_wouldWin 6 = .ok (.iload_n 1, 1) := by decide +kernel
theorem dX8_wouldWin_7 : decode cX8_wouldWin 7 = .ok (.invokevirtual 239, 3) := by decide +kernel
theorem dX8_wouldWin_10 : decode cX8_wouldWin 10 = .ok (.ifCond .ne 44, 3) := by decide +kernel
theorem dX8_wouldWin_13 : decode cX8_wouldWin 13 = .ok (.aload_n 0, 1) := by decide +kernel
theorem dX8_wouldWin_14 : decode cX8_wouldWin 14 = .ok (.iload_n 2, 1) := by decide +kernel
theorem dX8_wouldWin_15 : decode cX8_wouldWin 15 = .ok (.iconst 0, 1) := by decide +kernel
theorem dX8_wouldWin_16 : decode cX8_wouldWin 16 = .ok (.sipush 255, 3) := by decide +kernel
theorem dX8_wouldWin_19 : decode cX8_wouldWin 19 = .ok (.invokestatic 61, 3) := by decide +kernel
theorem dX8_wouldWin_22 : decode cX8_wouldWin 22 = .ok (.ifCond .ne 7, 3) := by decide +kernel
theorem dX8_wouldWin_25 : decode cX8_wouldWin 25 = .ok (.iconst 1, 1) := by decide +kernel
theorem dX8_wouldWin_26 : decode cX8_wouldWin 26 = .ok (.goto 4, 3) := by decide +kernel
theorem dX8_wouldWin_29 : decode cX8_wouldWin 29 = .ok (.iconst 0, 1) := by decide +kernel
theorem dX8_wouldWin_30 : decode cX8_wouldWin 30 = .ok (.iconst 2, 1) := by decide +kernel
theorem dX8_wouldWin_31 : decode cX8_wouldWin 31 = .ok (.invokevirtual 158, 3) := by decide +kernel
theorem dX8_wouldWin_34 : decode cX8_wouldWin 34 = .ok (.ifCond .ne 20, 3) := by decide +kernel
theorem dX8_wouldWin_37 : decode cX8_wouldWin 37 = .ok (.aload_n 0, 1) := by decide +kernel
theorem dX8_wouldWin_38 : decode cX8_wouldWin 38 = .ok (.aload_n 0, 1) := by decide +kernel
theorem dX8_wouldWin_39 : decode cX8_wouldWin 39 = .ok (.getfield 17, 3) := by decide +kernel
theorem dX8_wouldWin_42 : decode cX8_wouldWin 42 = .ok (.iload_n 1, 1) := by decide +kernel
theorem dX8_wouldWin_43 : decode cX8_wouldWin 43 = .ok (.iload_n 2, 1) := by decide +kernel
theorem dX8_wouldWin_44 : decode cX8_wouldWin 44 = .ok (.invokevirtual 219, 3) := by decide +kernel
theorem dX8_wouldWin_47 : decode cX8_wouldWin 47 = .ok (.ifCond .eq 7, 3) := by decide +kernel
theorem dX8_wouldWin_50 : decode cX8_wouldWin 50 = .ok (.iconst 1, 1) := by decide +kernel
theorem dX8_wouldWin_51 : decode cX8_wouldWin 51 = .ok (.goto 4, 3) := by decide +kernel
theorem dX8_wouldWin_54 : decode cX8_wouldWin 54 = .ok (.iconst 0, 1) := by decide +kernel
theorem dX8_wouldWin_55 : decode cX8_wouldWin 55 = .ok (.ireturn, 1) := by decide +kernel
theorem dX8_bestEvidence_0 : decode cX8_bestEvidence 0 = .ok (.aload_n 0, 1) := by decide +kernel
theorem dX8_bestEvidence_1 : decode cX8_bestEvidence 1 = .ok (.iconst 0, 1) := by decide +kernel
theorem dX8_bestEvidence_2 : decode cX8_bestEvidence 2 = .ok (.putfield 39, 3) := by decide +kernel
theorem dX8_bestEvidence_5 : decode cX8_bestEvidence 5 = .ok (.aload_n 0, 1) := by decide +kernel
theorem dX8_bestEvidence_6 : decode cX8_bestEvidence 6 = .ok (.iload_n 1, 1) := by decide +kernel
theorem dX8_bestEvidence_7 : decode cX8_bestEvidence 7 = .ok (.invokevirtual 239, 3) := by decide +kernel
theorem dX8_bestEvidence_10 : decode cX8_bestEvidence 10 = .ok (.ifCond .eq 5, 3) := by decide +kernel
theorem dX8_bestEvidence_13 : decode cX8_bestEvidence 13 = .ok (.iconst 0, 1) := by decide +kernel
theorem dX8_bestEvidence_14 : decode cX8_bestEvidence 14 = .ok (.ireturn, 1) := by decide +kernel
theorem dX8_bestEvidence_15 : decode cX8_bestEvidence 15 = .ok (.aload_n 0, 1) := by decide +kernel
theorem dX8_bestEvidence_16 : decode cX8_bestEvidence 16 = .ok (.getfield 17, 3) := by decide +kernel
theorem dX8_bestEvidence_19 : decode cX8_bestEvidence 19 = .ok (.iload_n 1, 1) := by decide +kernel
theorem dX8_bestEvidence_20 : decode cX8_bestEvidence 20 = .ok (.invokestatic 180, 3) := by decide +kernel
theorem dX8_bestEvidence_23 : decode cX8_bestEvidence 23 = .ok (.iconst 4, 1) := by decide +kernel
theorem dX8_bestEvidence_24 : decode cX8_bestEvidence 24 = .ok (.iadd, 1) := by decide +kernel
theorem dX8_bestEvidence_25 : decode cX8_bestEvidence 25 = .ok (.iaload, 1) := by decide +kernel
theorem dX8_bestEvidence_26 : decode cX8_bestEvidence 26 = .ok (.istore_n 2, 1) := by decide +kernel
theorem dX8_bestEvidence_27 : decode cX8_bestEvidence 27 = .ok (.iconst (-1), 1) := by decide +kernel
theorem dX8_bestEvidence_28 : decode cX8_bestEvidence 28 = .ok (.istore_n 3, 1) := by decide +kernel
theorem dX8_bestEvidence_29 : decode cX8_bestEvidence 29 = .ok (.iconst 0, 1) := by decide +kernel
theorem dX8_bestEvidence_30 : decode cX8_bestEvidence 30 = .ok (.istore 4, 2) := by decide +kernel
theorem dX8_bestEvidence_32 : decode cX8_bestEvidence 32 = .ok (.iload 4, 2) := by decide +kernel
theorem dX8_bestEvidence_34 : decode cX8_bestEvidence 34 = .ok (.sipush 256, 3) := by decide +kernel
theorem dX8_bestEvidence_37 : decode cX8_bestEvidence 37 = .ok (.if_icmp .ge 52, 3) := by decide +kernel
theorem dX8_bestEvidence_40 : decode cX8_bestEvidence 40 = .ok (.iload_n 2, 1) := by decide +kernel
theorem dX8_bestEvidence_41 : decode cX8_bestEvidence 41 = .ok (.iload 4, 2) := by decide +kernel
theorem dX8_bestEvidence_43 : decode cX8_bestEvidence 43 = .ok (.iconst (-1), 1) := by decide +kernel
theorem dX8_bestEvidence_44 : decode cX8_bestEvidence 44 = .ok (.ixor, 1) := by decide +kernel
theorem dX8_bestEvidence_45 : decode cX8_bestEvidence 45 = .ok (.iand, 1) := by decide +kernel
theorem dX8_bestEvidence_46 : decode cX8_bestEvidence 46 = .ok (.ifCond .ne 37, 3) := by decide +kernel
theorem dX8_bestEvidence_49 : decode cX8_bestEvidence 49 = .ok (.iload_n 3, 1) := by decide +kernel
theorem dX8_bestEvidence_50 : decode cX8_bestEvidence 50 = .ok (.iconst (-1), 1) := by decide +kernel
theorem dX8_bestEvidence_51 : decode cX8_bestEvidence 51 = .ok (.if_icmp .eq 15, 3) := by decide +kernel
theorem dX8_bestEvidence_54 : decode cX8_bestEvidence 54 = .ok (.iload 4, 2) := by decide +kernel
theorem dX8_bestEvidence_56 : decode cX8_bestEvidence 56 = .ok (.invokestatic 183, 3) := by decide +kernel
theorem dX8_bestEvidence_59 : decode cX8_bestEvidence 59 = .ok (.iload_n 3, 1) := by decide +kernel
theorem dX8_bestEvidence_60 : decode cX8_bestEvidence 60 = .ok (.invokestatic 183, 3) := by decide +kernel
theorem dX8_bestEvidence_63 : decode cX8_bestEvidence 63 = .ok (.if_icmp .ge 20, 3) := by decide +kernel
theorem dX8_bestEvidence_66 : decode cX8_bestEvidence 66 = .ok (.aload_n 0, 1) := by decide +kernel
theorem dX8_bestEvidence_67 : decode cX8_bestEvidence 67 = .ok (.aload_n 0, 1) := by decide +kernel
theorem dX8_bestEvidence_68 : decode cX8_bestEvidence 68 = .ok (.getfield 17, 3) := by decide +kernel
theorem dX8_bestEvidence_71 : decode cX8_bestEvidence 71 = .ok (.iload_n 1, 1) := by decide +kernel
theorem dX8_bestEvidence_72 : decode cX8_bestEvidence 72 = .ok (.iload 4, 2) := by decide +kernel
theorem dX8_bestEvidence_74 : decode cX8_bestEvidence 74 = .ok (.invokevirtual 219, 3) := by decide +kernel
theorem dX8_bestEvidence_77 : decode cX8_bestEvidence 77 = .ok (.ifCond .eq 6, 3) := by decide +kernel
theorem dX8_bestEvidence_80 : decode cX8_bestEvidence 80 = .ok (.iload 4, 2) := by decide +kernel
theorem dX8_bestEvidence_82 : decode cX8_bestEvidence 82 = .ok (.istore_n 3, 1) := by decide +kernel
theorem dX8_bestEvidence_83 : decode cX8_bestEvidence 83 = .ok (.iinc 4 1, 3) := by decide +kernel
theorem dX8_bestEvidence_86 : decode cX8_bestEvidence 86 = .ok (.goto (-54), 3) := by decide +kernel
theorem dX8_bestEvidence_89 : decode cX8_bestEvidence 89 = .ok (.iload_n 3, 1) := by decide +kernel
theorem dX8_bestEvidence_90 : decode cX8_bestEvidence 90 = .ok (.ireturn, 1) := by decide +kernel
theorem dX8_nextDeadline_0 : decode cX8_nextDeadline 0 = .ok (.aload_n 0, 1) := by decide +kernel
theorem dX8_nextDeadline_1 : decode cX8_nextDeadline 1 = .ok (.iconst 0, 1) := by decide +kernel
theorem dX8_nextDeadline_2 : decode cX8_nextDeadline 2 = .ok (.putfield 39, 3) := by decide +kernel
theorem dX8_nextDeadline_5 : decode cX8_nextDeadline 5 = .ok (.iconst (-1), 1) := by decide +kernel
theorem dX8_nextDeadline_6 : decode cX8_nextDeadline 6 = .ok (.istore_n 1, 1) := by decide +kernel
theorem dX8_nextDeadline_7 : decode cX8_nextDeadline 7 = .ok (.iconst 0, 1) := by decide +kernel
theorem dX8_nextDeadline_8 : decode cX8_nextDeadline 8 = .ok (.istore_n 2, 1) := by decide +kernel
theorem dX8_nextDeadline_9 : decode cX8_nextDeadline 9 = .ok (.iload_n 2, 1) := by decide +kernel
theorem dX8_nextDeadline_10 : decode cX8_nextDeadline 10 = .ok (.aload_n 0, 1) := by decide +kernel
theorem dX8_nextDeadline_11 : decode cX8_nextDeadline 11 = .ok (.getfield 17, 3) := by decide +kernel
theorem dX8_nextDeadline_14 : decode cX8_nextDeadline 14 = .ok (.iconst 4, 1) := by decide +kernel
theorem dX8_nextDeadline_15 : decode cX8_nextDeadline 15 = .ok (.iaload, 1) := by decide +kernel
theorem dX8_nextDeadline_16 : decode cX8_nextDeadline 16 = .ok (.if_icmp .ge 54, 3) := by decide +kernel
theorem dX8_nextDeadline_19 : decode cX8_nextDeadline 19 = .ok (.aload_n 0, 1) := by decide +kernel
theorem dX8_nextDeadline_20 : decode cX8_nextDeadline 20 = .ok (.getfield 17, 3) := by decide +kernel
theorem dX8_nextDeadline_23 : decode cX8_nextDeadline 23 = .ok (.iload_n 2, 1) := by decide +kernel
theorem dX8_nextDeadline_24 : decode cX8_nextDeadline 24 = .ok (.invokestatic 215, 3) := by decide +kernel
theorem dX8_nextDeadline_27 : decode cX8_nextDeadline 27 = .ok (.ifCond .ne 37, 3) := by decide +kernel
theorem dX8_nextDeadline_30 : decode cX8_nextDeadline 30 = .ok (.iload_n 1, 1) := by decide +kernel
theorem dX8_nextDeadline_31 : decode cX8_nextDeadline 31 = .ok (.iconst (-1), 1) := by decide +kernel
theorem dX8_nextDeadline_32 : decode cX8_nextDeadline 32 = .ok (.if_icmp .eq 19, 3) := by decide +kernel
theorem dX8_nextDeadline_35 : decode cX8_nextDeadline 35 = .ok (.aload_n 0, 1) := by decide +kernel
theorem dX8_nextDeadline_36 : decode cX8_nextDeadline 36 = .ok (.getfield 17, 3) := by decide +kernel
theorem dX8_nextDeadline_39 : decode cX8_nextDeadline 39 = .ok (.iload_n 2, 1) := by decide +kernel
theorem dX8_nextDeadline_40 : decode cX8_nextDeadline 40 = .ok (.invokestatic 180, 3) := by decide +kernel
theorem dX8_nextDeadline_43 : decode cX8_nextDeadline 43 = .ok (.bipush 6, 2) := by decide +kernel
theorem dX8_nextDeadline_45 : decode cX8_nextDeadline 45 = .ok (.iadd, 1) := by decide +kernel
theorem dX8_nextDeadline_46 : decode cX8_nextDeadline 46 = .ok (.iaload, 1) := by decide +kernel
theorem dX8_nextDeadline_47 : decode cX8_nextDeadline 47 = .ok (.iload_n 1, 1) := by decide +kernel
theorem dX8_nextDeadline_48 : decode cX8_nextDeadline 48 = .ok (.if_icmp .ge 16, 3) := by decide +kernel
theorem dX8_nextDeadline_51 : decode cX8_nextDeadline 51 = .ok (.aload_n 0, 1) := by decide +kernel
theorem dX8_nextDeadline_52 : decode cX8_nextDeadline 52 = .ok (.getfield 17, 3) := by decide +kernel
theorem dX8_nextDeadline_55 : decode cX8_nextDeadline 55 = .ok (.iload_n 2, 1) := by decide +kernel
theorem dX8_nextDeadline_56 : decode cX8_nextDeadline 56 = .ok (.invokestatic 180, 3) := by decide +kernel
theorem dX8_nextDeadline_59 : decode cX8_nextDeadline 59 = .ok (.bipush 6, 2) := by decide +kernel
theorem dX8_nextDeadline_61 : decode cX8_nextDeadline 61 = .ok (.iadd, 1) := by decide +kernel
theorem dX8_nextDeadline_62 : decode cX8_nextDeadline 62 = .ok (.iaload, 1) := by decide +kernel
theorem dX8_nextDeadline_63 : decode cX8_nextDeadline 63 = .ok (.istore_n 1, 1) := by decide +kernel
theorem dX8_nextDeadline_64 : decode cX8_nextDeadline 64 = .ok (.iinc 2 1, 3) := by decide +kernel
theorem dX8_nextDeadline_67 : decode cX8_nextDeadline 67 = .ok (.goto (-58), 3) := by decide +kernel
theorem dX8_nextDeadline_70 : decode cX8_nextDeadline 70 = .ok (.iload_n 1, 1) := by decide +kernel
theorem dX8_nextDeadline_71 : decode cX8_nextDeadline 71 = .ok (.ireturn, 1) := by decide +kernel
theorem dX8_isLate_0 : decode cX8_isLate 0 = .ok (.iload_n 1, 1) := by decide +kernel
theorem dX8_isLate_1 : decode cX8_isLate 1 = .ok (.aload_n 0, 1) := by decide +kernel
theorem dX8_isLate_2 : decode cX8_isLate 2 = .ok (.getfield 17, 3) := by decide +kernel
theorem dX8_isLate_5 : decode cX8_isLate 5 = .ok (.iconst 5, 1) := by decide +kernel
theorem dX8_isLate_6 : decode cX8_isLate 6 = .ok (.iaload, 1) := by decide +kernel
theorem dX8_isLate_7 : decode cX8_isLate 7 = .ok (.bipush 30, 2) := by decide +kernel
theorem dX8_isLate_9 : decode cX8_isLate 9 = .ok (.isub, 1) := by decide +kernel
theorem dX8_isLate_10 : decode cX8_isLate 10 = .ok (.if_icmp .le 7, 3) := by decide +kernel
theorem dX8_isLate_13 : decode cX8_isLate 13 = .ok (.iconst 1, 1) := by decide +kernel
theorem dX8_isLate_14 : decode cX8_isLate 14 = .ok (.goto 4, 3) := by decide +kernel
theorem dX8_isLate_17 : decode cX8_isLate 17 = .ok (.iconst 0, 1) := by decide +kernel
theorem dX8_isLate_18 : decode cX8_isLate 18 = .ok (.ireturn, 1) := by decide +kernel
theorem dX8_rateOf_0 : decode cX8_rateOf 0 = .ok (.iconst 0, 1) := by decide +kernel
theorem dX8_rateOf_1 : decode cX8_rateOf 1 = .ok (.istore_n 2, 1) := by decide +kernel
theorem dX8_rateOf_2 : decode cX8_rateOf 2 = .ok (.iconst 0, 1) := by decide +kernel
theorem dX8_rateOf_3 : decode cX8_rateOf 3 = .ok (.istore_n 3, 1) := by decide +kernel
theorem dX8_rateOf_4 : decode cX8_rateOf 4 = .ok (.iconst 0, 1) := by decide +kernel
theorem dX8_rateOf_5 : decode cX8_rateOf 5 = .ok (.istore 4, 2) := by decide +kernel
theorem dX8_rateOf_7 : decode cX8_rateOf 7 = .ok (.iload 4, 2) := by decide +kernel
theorem dX8_rateOf_9 : decode cX8_rateOf 9 = .ok (.aload_n 0, 1) := by decide +kernel
theorem dX8_rateOf_10 : decode cX8_rateOf 10 = .ok (.getfield 17, 3) := by decide +kernel
theorem dX8_rateOf_13 : decode cX8_rateOf 13 = .ok (.iconst 3, 1) := by decide +kernel
theorem dX8_rateOf_14 : decode cX8_rateOf 14 = .ok (.iaload, 1) := by decide +kernel
theorem dX8_rateOf_15 : decode cX8_rateOf 15 = .ok (.if_icmp .ge 52, 3) := by decide +kernel
theorem dX8_rateOf_18 : decode cX8_rateOf 18 = .ok (.iload_n 2, 1) := by decide +kernel
theorem dX8_rateOf_19 : decode cX8_rateOf 19 = .ok (.aload_n 0, 1) := by decide +kernel
theorem dX8_rateOf_20 : decode cX8_rateOf 20 = .ok (.getfield 17, 3) := by decide +kernel
theorem dX8_rateOf_23 : decode cX8_rateOf 23 = .ok (.iload 4, 2) := by decide +kernel
theorem dX8_rateOf_25 : decode cX8_rateOf 25 = .ok (.invokestatic 190, 3) := by decide +kernel
theorem dX8_rateOf_28 : decode cX8_rateOf 28 = .ok (.iconst 1, 1) := by decide +kernel
theorem dX8_rateOf_29 : decode cX8_rateOf 29 = .ok (.iadd, 1) := by decide +kernel
theorem dX8_rateOf_30 : decode cX8_rateOf 30 = .ok (.iaload, 1) := by decide +kernel
theorem dX8_rateOf_31 : decode cX8_rateOf 31 = .ok (.iload_n 1, 1) := by decide +kernel
theorem dX8_rateOf_32 : decode cX8_rateOf 32 = .ok (.if_icmp .ne 26, 3) := by decide +kernel
theorem dX8_rateOf_35 : decode cX8_rateOf 35 = .ok (.aload_n 0, 1) := by decide +kernel
theorem dX8_rateOf_36 : decode cX8_rateOf 36 = .ok (.aload_n 0, 1) := by decide +kernel
theorem dX8_rateOf_37 : decode cX8_rateOf 37 = .ok (.getfield 17, 3) := by decide +kernel
theorem dX8_rateOf_40 : decode cX8_rateOf 40 = .ok (.iload 4, 2) := by decide +kernel
theorem dX8_rateOf_42 : decode cX8_rateOf 42 = .ok (.invokestatic 190, 3) := by decide +kernel
theorem dX8_rateOf_45 : decode cX8_rateOf 45 = .ok (.iconst 3, 1) := by decide +kernel
theorem dX8_rateOf_46 : decode cX8_rateOf 46 = .ok (.iadd, 1) := by decide +kernel
theorem dX8_rateOf_47 : decode cX8_rateOf 47 = .ok (.iaload, 1) := by decide +kernel
theorem dX8_rateOf_48 : decode cX8_rateOf 48 = .ok (.invokevirtual 242, 3) := by decide +kernel
theorem dX8_rateOf_51 : decode cX8_rateOf 51 = .ok (.ifCond .eq 7, 3) := by decide +kernel
theorem dX8_rateOf_54 : decode cX8_rateOf 54 = .ok (.iconst 1, 1) := by decide +kernel
theorem dX8_rateOf_55 : decode cX8_rateOf 55 = .ok (.goto 4, 3) := by decide +kernel
theorem dX8_rateOf_58 : decode cX8_rateOf 58 = .ok (.iconst 0, 1) := by decide +kernel
theorem dX8_rateOf_59 : decode cX8_rateOf 59 = .ok (.iadd, 1) := by decide +kernel
theorem dX8_rateOf_60 : decode cX8_rateOf 60 = .ok (.istore_n 2, 1) := by decide +kernel
theorem dX8_rateOf_61 : decode cX8_rateOf 61 = .ok (.iinc 4 1, 3) := by decide +kernel
theorem dX8_rateOf_64 : decode cX8_rateOf 64 = .ok (.goto (-57), 3) := by decide +kernel
theorem dX8_rateOf_67 : decode cX8_rateOf 67 = .ok (.iconst 0, 1) := by decide +kernel
theorem dX8_rateOf_68 : decode cX8_rateOf 68 = .ok (.istore 4, 2) := by decide +kernel
theorem dX8_rateOf_70 : decode cX8_rateOf 70 = .ok (.iload 4, 2) := by decide +kernel
theorem dX8_rateOf_72 : decode cX8_rateOf 72 = .ok (.aload_n 0, 1) := by decide +kernel
theorem dX8_rateOf_73 : decode cX8_rateOf 73 = .ok (.getfield 17, 3) := by decide +kernel
theorem dX8_rateOf_76 : decode cX8_rateOf 76 = .ok (.iconst 4, 1) := by decide +kernel
theorem dX8_rateOf_77 : decode cX8_rateOf 77 = .ok (.iaload, 1) := by decide +kernel
theorem dX8_rateOf_78 : decode cX8_rateOf 78 = .ok (.if_icmp .ge 52, 3) := by decide +kernel
theorem dX8_rateOf_81 : decode cX8_rateOf 81 = .ok (.iload_n 3, 1) := by decide +kernel
theorem dX8_rateOf_82 : decode cX8_rateOf 82 = .ok (.aload_n 0, 1) := by decide +kernel
theorem dX8_rateOf_83 : decode cX8_rateOf 83 = .ok (.getfield 17, 3) := by decide +kernel
theorem dX8_rateOf_86 : decode cX8_rateOf 86 = .ok (.iload 4, 2) := by decide +kernel
theorem dX8_rateOf_88 : decode cX8_rateOf 88 = .ok (.invokestatic 201, 3) := by decide +kernel
theorem dX8_rateOf_91 : decode cX8_rateOf 91 = .ok (.bipush 16, 2) := by decide +kernel
theorem dX8_rateOf_93 : decode cX8_rateOf 93 = .ok (.iload_n 1, 1) := by decide +kernel
theorem dX8_rateOf_94 : decode cX8_rateOf 94 = .ok (.iadd, 1) := by decide +kernel
theorem dX8_rateOf_95 : decode cX8_rateOf 95 = .ok (.if_icmp .ne 26, 3) := by decide +kernel
theorem dX8_rateOf_98 : decode cX8_rateOf 98 = .ok (.aload_n 0, 1) := by decide +kernel
theorem dX8_rateOf_99 : decode cX8_rateOf 99 = .ok (.aload_n 0, 1) := by decide +kernel
theorem dX8_rateOf_100 : decode cX8_rateOf 100 = .ok (.getfield 17, 3) := by decide +kernel
theorem dX8_rateOf_103 : decode cX8_rateOf 103 = .ok (.iload 4, 2) := by decide +kernel
theorem dX8_rateOf_105 : decode cX8_rateOf 105 = .ok (.invokestatic 180, 3) := by decide +kernel
theorem dX8_rateOf_108 : decode cX8_rateOf 108 = .ok (.iconst 3, 1) := by decide +kernel
theorem dX8_rateOf_109 : decode cX8_rateOf 109 = .ok (.iadd, 1) := by decide +kernel
theorem dX8_rateOf_110 : decode cX8_rateOf 110 = .ok (.iaload, 1) := by decide +kernel
theorem dX8_rateOf_111 : decode cX8_rateOf 111 = .ok (.invokevirtual 242, 3) := by decide +kernel
theorem dX8_rateOf_114 : decode cX8_rateOf 114 = .ok (.ifCond .eq 7, 3) := by decide +kernel
theorem dX8_rateOf_117 : decode cX8_rateOf 117 = .ok (.iconst 1, 1) := by decide +kernel
theorem dX8_rateOf_118 : decode cX8_rateOf 118 = .ok (.goto 4, 3) := by decide +kernel
theorem dX8_rateOf_121 : decode cX8_rateOf 121 = .ok (.iconst 0, 1) := by decide +kernel
theorem dX8_rateOf_122 : decode cX8_rateOf 122 = .ok (.iadd, 1) := by decide +kernel
theorem dX8_rateOf_123 : decode cX8_rateOf 123 = .ok (.istore_n 3, 1) := by decide +kernel
theorem dX8_rateOf_124 : decode cX8_rateOf 124 = .ok (.iinc 4 1, 3) := by decide +kernel
theorem dX8_rateOf_127 : decode cX8_rateOf 127 = .ok (.goto (-57), 3) := by decide +kernel
theorem dX8_rateOf_130 : decode cX8_rateOf 130 = .ok (.iload_n 2, 1) := by decide +kernel
theorem dX8_rateOf_131 : decode cX8_rateOf 131 = .ok (.ifCond .ne 7, 3) := by decide +kernel
theorem dX8_rateOf_134 : decode cX8_rateOf 134 = .ok (.iconst 0, 1) := by decide +kernel
theorem dX8_rateOf_135 : decode cX8_rateOf 135 = .ok (.goto 10, 3) := by decide +kernel
theorem dX8_rateOf_138 : decode cX8_rateOf 138 = .ok (.iload_n 3, 1) := by decide +kernel
theorem dX8_rateOf_139 : decode cX8_rateOf 139 = .ok (.sipush 1000, 3) := by decide +kernel
theorem dX8_rateOf_142 : decode cX8_rateOf 142 = .ok (.imul, 1) := by decide +kernel
theorem dX8_rateOf_143 : decode cX8_rateOf 143 = .ok (.iload_n 2, 1) := by decide +kernel
theorem dX8_rateOf_144 : decode cX8_rateOf 144 = .ok (.idiv, 1) := by decide +kernel
theorem dX8_rateOf_145 : decode cX8_rateOf 145 = .ok (.ireturn, 1) := by decide +kernel
theorem dX8_rate_0 : decode cX8_rate 0 = .ok (.aload_n 0, 1) := by decide +kernel
theorem dX8_rate_1 : decode cX8_rate 1 = .ok (.iconst 0, 1) := by decide +kernel
theorem dX8_rate_2 : decode cX8_rate 2 = .ok (.putfield 39, 3) := by decide +kernel
theorem dX8_rate_5 : decode cX8_rate 5 = .ok (.aload_n 0, 1) := by decide +kernel
theorem dX8_rate_6 : decode cX8_rate 6 = .ok (.iload_n 1, 1) := by decide +kernel
theorem dX8_rate_7 : decode cX8_rate 7 = .ok (.invokevirtual 230, 3) := by decide +kernel
theorem dX8_rate_10 : decode cX8_rate 10 = .ok (.ifCond .eq 7, 3) := by decide +kernel
theorem dX8_rate_13 : decode cX8_rate 13 = .ok (.iconst 0, 1) := by decide +kernel
theorem dX8_rate_14 : decode cX8_rate 14 = .ok (.goto 8, 3) := by decide +kernel
theorem dX8_rate_17 : decode cX8_rate 17 = .ok (.aload_n 0, 1) := by decide +kernel
theorem dX8_rate_18 : decode cX8_rate 18 = .ok (.iload_n 1, 1) := by decide +kernel
theorem dX8_rate_19 : decode cX8_rate 19 = .ok (.invokevirtual 245, 3) := by decide +kernel
theorem dX8_rate_22 : decode cX8_rate 22 = .ok (.ireturn, 1) := by decide +kernel
theorem dX8_isWatched_0 : decode cX8_isWatched 0 = .ok (.aload_n 0, 1) := by decide +kernel
theorem dX8_isWatched_1 : decode cX8_isWatched 1 = .ok (.iconst 0, 1) := by decide +kernel
theorem dX8_isWatched_2 : decode cX8_isWatched 2 = .ok (.putfield 39, 3) := by decide +kernel
theorem dX8_isWatched_5 : decode cX8_isWatched 5 = .ok (.aload_n 0, 1) := by decide +kernel
theorem dX8_isWatched_6 : decode cX8_isWatched 6 = .ok (.iload_n 1, 1) := by decide +kernel
theorem dX8_isWatched_7 : decode cX8_isWatched 7 = .ok (.invokevirtual 230, 3) := by decide +kernel
theorem dX8_isWatched_10 : decode cX8_isWatched 10 = .ok (.ifCond .ne 22, 3) := by decide +kernel
theorem dX8_isWatched_13 : decode cX8_isWatched 13 = .ok (.aload_n 0, 1) := by decide +kernel
theorem dX8_isWatched_14 : decode cX8_isWatched 14 = .ok (.iload_n 1, 1) := by decide +kernel
theorem dX8_isWatched_15 : decode cX8_isWatched 15 = .ok (.invokevirtual 245, 3) := by decide +kernel
theorem dX8_isWatched_18 : decode cX8_isWatched 18 = .ok (.aload_n 0, 1) := by decide +kernel
theorem dX8_isWatched_19 : decode cX8_isWatched 19 = .ok (.getfield 17, 3) := by decide +kernel
theorem dX8_isWatched_22 : decode cX8_isWatched 22 = .ok (.bipush 8, 2) := by decide +kernel
theorem dX8_isWatched_24 : decode cX8_isWatched 24 = .ok (.iaload, 1) := by decide +kernel
theorem dX8_isWatched_25 : decode cX8_isWatched 25 = .ok (.if_icmp .le 7, 3) := by decide +kernel
theorem dX8_isWatched_28 : decode cX8_isWatched 28 = .ok (.iconst 1, 1) := by decide +kernel
theorem dX8_isWatched_29 : decode cX8_isWatched 29 = .ok (.goto 4, 3) := by decide +kernel
theorem dX8_isWatched_32 : decode cX8_isWatched 32 = .ok (.iconst 0, 1) := by decide +kernel
theorem dX8_isWatched_33 : decode cX8_isWatched 33 = .ok (.ireturn, 1) := by decide +kernel
theorem dX8_exposure_0 : decode cX8_exposure 0 = .ok (.aload_n 0, 1) := by decide +kernel
theorem dX8_exposure_1 : decode cX8_exposure 1 = .ok (.iconst 0, 1) := by decide +kernel
theorem dX8_exposure_2 : decode cX8_exposure 2 = .ok (.putfield 39, 3) := by decide +kernel
theorem dX8_exposure_5 : decode cX8_exposure 5 = .ok (.aload_n 0, 1) := by decide +kernel
theorem dX8_exposure_6 : decode cX8_exposure 6 = .ok (.iload_n 1, 1) := by decide +kernel
theorem dX8_exposure_7 : decode cX8_exposure 7 = .ok (.invokevirtual 230, 3) := by decide +kernel
theorem dX8_exposure_10 : decode cX8_exposure 10 = .ok (.ifCond .eq 5, 3) := by decide +kernel
theorem dX8_exposure_13 : decode cX8_exposure 13 = .ok (.iconst 0, 1) := by decide +kernel
theorem dX8_exposure_14 : decode cX8_exposure 14 = .ok (.ireturn, 1) := by decide +kernel
theorem dX8_exposure_15 : decode cX8_exposure 15 = .ok (.iconst 0, 1) := by decide +kernel
theorem dX8_exposure_16 : decode cX8_exposure 16 = .ok (.istore_n 2, 1) := by decide +kernel
theorem dX8_exposure_17 : decode cX8_exposure 17 = .ok (.iconst 0, 1) := by decide +kernel
theorem dX8_exposure_18 : decode cX8_exposure 18 = .ok (.istore_n 3, 1) := by decide +kernel
theorem dX8_exposure_19 : decode cX8_exposure 19 = .ok (.iload_n 3, 1) := by decide +kernel
theorem dX8_exposure_20 : decode cX8_exposure 20 = .ok (.aload_n 0, 1) := by decide +kernel
theorem dX8_exposure_21 : decode cX8_exposure 21 = .ok (.getfield 17, 3) := by decide +kernel
theorem dX8_exposure_24 : decode cX8_exposure 24 = .ok (.iconst 4, 1) := by decide +kernel
theorem dX8_exposure_25 : decode cX8_exposure 25 = .ok (.iaload, 1) := by decide +kernel
theorem dX8_exposure_26 : decode cX8_exposure 26 = .ok (.if_icmp .ge 53, 3) := by decide +kernel
theorem dX8_exposure_29 : decode cX8_exposure 29 = .ok (.iload_n 2, 1) := by decide +kernel
theorem dX8_exposure_30 : decode cX8_exposure 30 = .ok (.aload_n 0, 1) := by decide +kernel
theorem dX8_exposure_31 : decode cX8_exposure 31 = .ok (.getfield 17, 3) := by decide +kernel
theorem dX8_exposure_34 : decode cX8_exposure 34 = .ok (.iload_n 3, 1) := by decide +kernel
theorem dX8_exposure_35 : decode cX8_exposure 35 = .ok (.invokestatic 215, 3) := by decide +kernel
theorem dX8_exposure_38 : decode cX8_exposure 38 = .ok (.ifCond .ne 32, 3) := by decide +kernel
theorem dX8_exposure_41 : decode cX8_exposure 41 = .ok (.aload_n 0, 1) := by decide +kernel
theorem dX8_exposure_42 : decode cX8_exposure 42 = .ok (.getfield 17, 3) := by decide +kernel
theorem dX8_exposure_45 : decode cX8_exposure 45 = .ok (.iload_n 3, 1) := by decide +kernel
theorem dX8_exposure_46 : decode cX8_exposure 46 = .ok (.invokestatic 201, 3) := by decide +kernel
theorem dX8_exposure_49 : decode cX8_exposure 49 = .ok (.bipush 16, 2) := by decide +kernel
theorem dX8_exposure_51 : decode cX8_exposure 51 = .ok (.iload_n 1, 1) := by decide +kernel
theorem dX8_exposure_52 : decode cX8_exposure 52 = .ok (.iadd, 1) := by decide +kernel
theorem dX8_exposure_53 : decode cX8_exposure 53 = .ok (.if_icmp .ne 17, 3) := by decide +kernel
theorem dX8_exposure_56 : decode cX8_exposure 56 = .ok (.aload_n 0, 1) := by decide +kernel
theorem dX8_exposure_57 : decode cX8_exposure 57 = .ok (.getfield 17, 3) := by decide +kernel
theorem dX8_exposure_60 : decode cX8_exposure 60 = .ok (.iload_n 3, 1) := by decide +kernel
theorem dX8_exposure_61 : decode cX8_exposure 61 = .ok (.invokestatic 180, 3) := by decide +kernel
theorem dX8_exposure_64 : decode cX8_exposure 64 = .ok (.iconst 2, 1) := by decide +kernel
theorem dX8_exposure_65 : decode cX8_exposure 65 = .ok (.iadd, 1) := by decide +kernel
theorem dX8_exposure_66 : decode cX8_exposure 66 = .ok (.iaload, 1) := by decide +kernel
theorem dX8_exposure_67 : decode cX8_exposure 67 = .ok (.goto 4, 3) := by decide +kernel
theorem dX8_exposure_70 : decode cX8_exposure 70 = .ok (.iconst 0, 1) := by decide +kernel
theorem dX8_exposure_71 : decode cX8_exposure 71 = .ok (.iadd, 1) := by decide +kernel
theorem dX8_exposure_72 : decode cX8_exposure 72 = .ok (.istore_n 2, 1) := by decide +kernel
theorem dX8_exposure_73 : decode cX8_exposure 73 = .ok (.iinc 3 1, 3) := by decide +kernel
theorem dX8_exposure_76 : decode cX8_exposure 76 = .ok (.goto (-57), 3) := by decide +kernel
theorem dX8_exposure_79 : decode cX8_exposure 79 = .ok (.iload_n 2, 1) := by decide +kernel
theorem dX8_exposure_80 : decode cX8_exposure 80 = .ok (.ireturn, 1) := by decide +kernel
theorem dX8_isAnyOpen_0 : decode cX8_isAnyOpen 0 = .ok (.iconst 0, 1) := by decide +kernel
theorem dX8_isAnyOpen_1 : decode cX8_isAnyOpen 1 = .ok (.istore_n 2, 1) := by decide +kernel
theorem dX8_isAnyOpen_2 : decode cX8_isAnyOpen 2 = .ok (.iload_n 2, 1) := by decide +kernel
theorem dX8_isAnyOpen_3 : decode cX8_isAnyOpen 3 = .ok (.aload_n 1, 1) := by decide +kernel
theorem dX8_isAnyOpen_4 : decode cX8_isAnyOpen 4 = .ok (.iconst 4, 1) := by decide +kernel
theorem dX8_isAnyOpen_5 : decode cX8_isAnyOpen 5 = .ok (.iaload, 1) := by decide +kernel
theorem dX8_isAnyOpen_6 : decode cX8_isAnyOpen 6 = .ok (.if_icmp .ge 19, 3) := by decide +kernel
theorem dX8_isAnyOpen_9 : decode cX8_isAnyOpen 9 = .ok (.aload_n 1, 1) := by decide +kernel
theorem dX8_isAnyOpen_10 : decode cX8_isAnyOpen 10 = .ok (.iload_n 2, 1) := by decide +kernel
theorem dX8_isAnyOpen_11 : decode cX8_isAnyOpen 11 = .ok (.invokestatic 215, 3) := by decide +kernel
theorem dX8_isAnyOpen_14 : decode cX8_isAnyOpen 14 = .ok (.ifCond .ne 5, 3) := by decide +kernel
theorem dX8_isAnyOpen_17 : decode cX8_isAnyOpen 17 = .ok (.iconst 1, 1) := by decide +kernel
theorem dX8_isAnyOpen_18 : decode cX8_isAnyOpen 18 = .ok (.ireturn, 1) := by decide +kernel
theorem dX8_isAnyOpen_19 : decode cX8_isAnyOpen 19 = .ok (.iinc 2 1, 3) := by decide +kernel
theorem dX8_isAnyOpen_22 : decode cX8_isAnyOpen 22 = .ok (.goto (-20), 3) := by decide +kernel
theorem dX8_isAnyOpen_25 : decode cX8_isAnyOpen 25 = .ok (.iconst 0, 1) := by decide +kernel
theorem dX8_isAnyOpen_26 : decode cX8_isAnyOpen 26 = .ok (.ireturn, 1) := by decide +kernel
theorem dX8_settled_0 : decode cX8_settled 0 = .ok (.aload_n 0, 1) := by decide +kernel
theorem dX8_settled_1 : decode cX8_settled 1 = .ok (.iconst 0, 1) := by decide +kernel
theorem dX8_settled_2 : decode cX8_settled 2 = .ok (.putfield 39, 3) := by decide +kernel
theorem dX8_settled_5 : decode cX8_settled 5 = .ok (.aload_n 0, 1) := by decide +kernel
theorem dX8_settled_6 : decode cX8_settled 6 = .ok (.iload_n 1, 1) := by decide +kernel
theorem dX8_settled_7 : decode cX8_settled 7 = .ok (.invokevirtual 230, 3) := by decide +kernel
theorem dX8_settled_10 : decode cX8_settled 10 = .ok (.ifCond .eq 5, 3) := by decide +kernel
theorem dX8_settled_13 : decode cX8_settled 13 = .ok (.iconst 0, 1) := by decide +kernel
theorem dX8_settled_14 : decode cX8_settled 14 = .ok (.ireturn, 1) := by decide +kernel
theorem dX8_settled_15 : decode cX8_settled 15 = .ok (.aload_n 0, 1) := by decide +kernel
theorem dX8_settled_16 : decode cX8_settled 16 = .ok (.getfield 17, 3) := by decide +kernel
theorem dX8_settled_19 : decode cX8_settled 19 = .ok (.aload_n 0, 1) := by decide +kernel
theorem dX8_settled_20 : decode cX8_settled 20 = .ok (.getfield 23, 3) := by decide +kernel
theorem dX8_settled_23 : decode cX8_settled 23 = .ok (.invokestatic 168, 3) := by decide +kernel
theorem dX8_settled_26 : decode cX8_settled 26 = .ok (.aload_n 0, 1) := by decide +kernel
theorem dX8_settled_27 : decode cX8_settled 27 = .ok (.aload_n 0, 1) := by decide +kernel
theorem dX8_settled_28 : decode cX8_settled 28 = .ok (.getfield 23, 3) := by decide +kernel
theorem dX8_settled_31 : decode cX8_settled 31 = .ok (.invokevirtual 248, 3) := by decide +kernel
theorem dX8_settled_34 : decode cX8_settled 34 = .ok (.ifCond .eq 15, 3) := by decide +kernel
theorem dX8_settled_37 : decode cX8_settled 37 = .ok (.aload_n 0, 1) := by decide +kernel
theorem dX8_settled_38 : decode cX8_settled 38 = .ok (.aload_n 0, 1) := by decide +kernel
theorem dX8_settled_39 : decode cX8_settled 39 = .ok (.getfield 23, 3) := by decide +kernel
theorem dX8_settled_42 : decode cX8_settled 42 = .ok (.invokevirtual 252, 3) := by decide +kernel
theorem dX8_settled_45 : decode cX8_settled 45 = .ok (.pop, 1) := by decide +kernel
theorem dX8_settled_46 : decode cX8_settled 46 = .ok (.goto (-20), 3) := by decide +kernel
theorem dX8_settled_49 : decode cX8_settled 49 = .ok (.aload_n 0, 1) := by decide +kernel
theorem dX8_settled_50 : decode cX8_settled 50 = .ok (.getfield 23, 3) := by decide +kernel
theorem dX8_settled_53 : decode cX8_settled 53 = .ok (.bipush 16, 2) := by decide +kernel
theorem dX8_settled_55 : decode cX8_settled 55 = .ok (.iload_n 1, 1) := by decide +kernel
theorem dX8_settled_56 : decode cX8_settled 56 = .ok (.iadd, 1) := by decide +kernel
theorem dX8_settled_57 : decode cX8_settled 57 = .ok (.iaload, 1) := by decide +kernel
theorem dX8_settled_58 : decode cX8_settled 58 = .ok (.ireturn, 1) := by decide +kernel
theorem dX8_remember_0 : decode cX8_remember 0 = .ok (.aload_n 0, 1) := by decide +kernel
theorem dX8_remember_1 : decode cX8_remember 1 = .ok (.getfield 256, 3) := by decide +kernel
theorem dX8_remember_4 : decode cX8_remember 4 = .ok (.bipush 8, 2) := by decide +kernel
theorem dX8_remember_6 : decode cX8_remember 6 = .ok (.if_icmp .ne 44, 3) := by decide +kernel
theorem dX8_remember_9 : decode cX8_remember 9 = .ok (.iconst 1, 1) := by decide +kernel
theorem dX8_remember_10 : decode cX8_remember 10 = .ok (.istore_n 1, 1) := by decide +kernel
theorem dX8_remember_11 : decode cX8_remember 11 = .ok (.iload_n 1, 1) := by decide +kernel
theorem dX8_remember_12 : decode cX8_remember 12 = .ok (.bipush 8, 2) := by decide +kernel
theorem dX8_remember_14 : decode cX8_remember 14 = .ok (.if_icmp .ge 26, 3) := by decide +kernel
theorem dX8_remember_17 : decode cX8_remember 17 = .ok (.aload_n 0, 1) := by decide +kernel
theorem dX8_remember_18 : decode cX8_remember 18 = .ok (.getfield 28, 3) := by decide +kernel
theorem dX8_remember_21 : decode cX8_remember 21 = .ok (.iload_n 1, 1) := by decide +kernel
theorem dX8_remember_22 : decode cX8_remember 22 = .ok (.aaload, 1) := by decide +kernel
theorem dX8_remember_23 : decode cX8_remember 23 = .ok (.aload_n 0, 1) := by decide +kernel
theorem dX8_remember_24 : decode cX8_remember 24 = .ok (.getfield 28, 3) := by decide +kernel
theorem dX8_remember_27 : decode cX8_remember 27 = .ok (.iload_n 1, 1) := by decide +kernel
theorem dX8_remember_28 : decode cX8_remember 28 = .ok (.iconst 1, 1) := by decide +kernel
theorem dX8_remember_29 : decode cX8_remember 29 = .ok (.isub, 1) := by decide +kernel
theorem dX8_remember_30 : decode cX8_remember 30 = .ok (.aaload, 1) := by decide +kernel
theorem dX8_remember_31 : decode cX8_remember 31 = .ok (.invokestatic 168, 3) := by decide +kernel
theorem dX8_remember_34 : decode cX8_remember 34 = .ok (.iinc 1 1, 3) := by decide +kernel
theorem dX8_remember_37 : decode cX8_remember 37 = .ok (.goto (-26), 3) := by decide +kernel
theorem dX8_remember_40 : decode cX8_remember 40 = .ok (.aload_n 0, 1) := by decide +kernel
theorem dX8_remember_41 : decode cX8_remember 41 = .ok (.dup, 1) := by decide +kernel
theorem dX8_remember_42 : decode cX8_remember 42 = .ok (.getfield 256, 3) := by decide +kernel
theorem dX8_remember_45 : decode cX8_remember 45 = .ok (.iconst 1, 1) := by decide +kernel
theorem dX8_remember_46 : decode cX8_remember 46 = .ok (.isub, 1) := by decide +kernel
theorem dX8_remember_47 : decode cX8_remember 47 = .ok (.putfield 256, 3) := by decide +kernel
theorem dX8_remember_50 : decode cX8_remember 50 = .ok (.aload_n 0, 1) := by decide +kernel
theorem dX8_remember_51 : decode cX8_remember 51 = .ok (.getfield 17, 3) := by decide +kernel
theorem dX8_remember_54 : decode cX8_remember 54 = .ok (.aload_n 0, 1) := by decide +kernel
theorem dX8_remember_55 : decode cX8_remember 55 = .ok (.getfield 28, 3) := by decide +kernel
theorem dX8_remember_58 : decode cX8_remember 58 = .ok (.aload_n 0, 1) := by decide +kernel
theorem dX8_remember_59 : decode cX8_remember 59 = .ok (.getfield 256, 3) := by decide +kernel
theorem dX8_remember_62 : decode cX8_remember 62 = .ok (.aaload, 1) := by decide +kernel
theorem dX8_remember_63 : decode cX8_remember 63 = .ok (.invokestatic 168, 3) := by decide +kernel
theorem dX8_remember_66 : decode cX8_remember 66 = .ok (.aload_n 0, 1) := by decide +kernel
theorem dX8_remember_67 : decode cX8_remember 67 = .ok (.dup, 1) := by decide +kernel
theorem dX8_remember_68 : decode cX8_remember 68 = .ok (.getfield 256, 3) := by decide +kernel
theorem dX8_remember_71 : decode cX8_remember 71 = .ok (.iconst 1, 1) := by decide +kernel
theorem dX8_remember_72 : decode cX8_remember 72 = .ok (.iadd, 1) := by decide +kernel
theorem dX8_remember_73 : decode cX8_remember 73 = .ok (.putfield 256, 3) := by decide +kernel
theorem dX8_remember_76 : decode cX8_remember 76 = .ok (.return_, 1) := by decide +kernel
theorem dX8_purchase__0 : decode cX8_purchase_ 0 = .ok (.aload_n 0, 1) := by decide +kernel
theorem dX8_purchase__1 : decode cX8_purchase_ 1 = .ok (.iconst 0, 1) := by decide +kernel
theorem dX8_purchase__2 : decode cX8_purchase_ 2 = .ok (.putfield 39, 3) := by decide +kernel
theorem dX8_purchase__5 : decode cX8_purchase_ 5 = .ok (.aload_n 0, 1) := by decide +kernel
theorem dX8_purchase__6 : decode cX8_purchase_ 6 = .ok (.iload_n 1, 1) := by decide +kernel
theorem dX8_purchase__7 : decode cX8_purchase_ 7 = .ok (.invokevirtual 227, 3) := by decide +kernel
theorem dX8_purchase__10 : decode cX8_purchase_ 10 = .ok (.ifCond .ne 59, 3) := by decide +kernel
theorem dX8_purchase__13 : decode cX8_purchase_ 13 = .ok (.aload_n 0, 1) := by decide +kernel
theorem dX8_purchase__14 : decode cX8_purchase_ 14 = .ok (.iload_n 2, 1) := by decide +kernel
theorem dX8_purchase__15 : decode cX8_purchase_ 15 = .ok (.invokevirtual 230, 3) := by decide +kernel
theorem dX8_purchase__18 : decode cX8_purchase_ 18 = .ok (.ifCond .ne 51, 3) := by decide +kernel
theorem dX8_purchase__21 : decode cX8_purchase_ 21 = .ok (.aload_n 0, 1) := by decide +kernel
theorem dX8_purchase__22 : decode cX8_purchase_ 22 = .ok (.iload_n 3, 1) := by decide +kernel
theorem dX8_purchase__23 : decode cX8_purchase_ 23 = .ok (.iconst 1, 1) := by decide +kernel
theorem dX8_purchase__24 : decode cX8_purchase_ 24 = .ok (.ldc_w 259, 3) := by decide +kernel
theorem dX8_purchase__27 : decode cX8_purchase_ 27 = .ok (.invokestatic 61, 3) := by decide +kernel
theorem dX8_purchase__30 : decode cX8_purchase_ 30 = .ok (.ifCond .ne 7, 3) := by decide +kernel
theorem dX8_purchase__33 : decode cX8_purchase_ 33 = .ok (.iconst 1, 1) := by decide +kernel
theorem dX8_purchase__34 : decode cX8_purchase_ 34 = .ok (.goto 4, 3) := by decide +kernel
theorem dX8_purchase__37 : decode cX8_purchase_ 37 = .ok (.iconst 0, 1) := by decide +kernel
theorem dX8_purchase__38 : decode cX8_purchase_ 38 = .ok (.iconst 2, 1) := by decide +kernel
theorem dX8_purchase__39 : decode cX8_purchase_ 39 = .ok (.invokevirtual 158, 3) := by decide +kernel
theorem dX8_purchase__42 : decode cX8_purchase_ 42 = .ok (.ifCond .ne 27, 3) := by decide +kernel
theorem dX8_purchase__45 : decode cX8_purchase_ 45 = .ok (.aload_n 0, 1) := by decide +kernel
theorem dX8_purchase__46 : decode cX8_purchase_ 46 = .ok (.aload_n 0, 1) := by decide +kernel
theorem dX8_purchase__47 : decode cX8_purchase_ 47 = .ok (.getfield 17, 3) := by decide +kernel
theorem dX8_purchase__50 : decode cX8_purchase_ 50 = .ok (.iconst 3, 1) := by decide +kernel
theorem dX8_purchase__51 : decode cX8_purchase_ 51 = .ok (.iaload, 1) := by decide +kernel
theorem dX8_purchase__52 : decode cX8_purchase_ 52 = .ok (.bipush 24, 2) := by decide +kernel
theorem dX8_purchase__54 : decode cX8_purchase_ 54 = .ok (.if_icmp .ne 7, 3) := by decide +kernel
theorem dX8_purchase__57 : decode cX8_purchase_ 57 = .ok (.iconst 1, 1) := by decide +kernel
theorem dX8_purchase__58 : decode cX8_purchase_ 58 = .ok (.goto 4, 3) := by decide +kernel
theorem dX8_purchase__61 : decode cX8_purchase_ 61 = .ok (.iconst 0, 1) := by decide +kernel
theorem dX8_purchase__62 : decode cX8_purchase_ 62 = .ok (.iconst 3, 1) := by decide +kernel
theorem dX8_purchase__63 : decode cX8_purchase_ 63 = .ok (.invokevirtual 158, 3) := by decide +kernel
theorem dX8_purchase__66 : decode cX8_purchase_ 66 = .ok (.ifCond .eq 5, 3) := by decide +kernel
theorem dX8_purchase__69 : decode cX8_purchase_ 69 = .ok (.iconst 0, 1) := by decide +kernel
theorem dX8_purchase__70 : decode cX8_purchase_ 70 = .ok (.ireturn, 1) := by decide +kernel
theorem dX8_purchase__71 : decode cX8_purchase_ 71 = .ok (.aload_n 0, 1) := by decide +kernel
theorem dX8_purchase__72 : decode cX8_purchase_ 72 = .ok (.invokevirtual 165, 3) := by decide +kernel
theorem dX8_purchase__75 : decode cX8_purchase_ 75 = .ok (.aload_n 0, 1) := by decide +kernel
theorem dX8_purchase__76 : decode cX8_purchase_ 76 = .ok (.getfield 17, 3) := by decide +kernel
theorem dX8_purchase__79 : decode cX8_purchase_ 79 = .ok (.iconst 3, 1) := by decide +kernel
theorem dX8_purchase__80 : decode cX8_purchase_ 80 = .ok (.iaload, 1) := by decide +kernel
theorem dX8_purchase__81 : decode cX8_purchase_ 81 = .ok (.istore 4, 2) := by decide +kernel
theorem dX8_purchase__83 : decode cX8_purchase_ 83 = .ok (.iload 4, 2) := by decide +kernel
theorem dX8_purchase__85 : decode cX8_purchase_ 85 = .ok (.invokestatic 190, 3) := by decide +kernel
theorem dX8_purchase__88 : decode cX8_purchase_ 88 = .ok (.istore 5, 2) := by decide +kernel
theorem dX8_purchase__90 : decode cX8_purchase_ 90 = .ok (.aload_n 0, 1) := by decide +kernel
theorem dX8_purchase__91 : decode cX8_purchase_ 91 = .ok (.getfield 17, 3) := by decide +kernel
theorem dX8_purchase__94 : decode cX8_purchase_ 94 = .ok (.iconst 3, 1) := by decide +kernel
theorem dX8_purchase__95 : decode cX8_purchase_ 95 = .ok (.dup2, 1) := by decide +kernel
theorem dX8_purchase__96 : decode cX8_purchase_ 96 = .ok (.iaload, 1) := by decide +kernel
theorem dX8_purchase__97 : decode cX8_purchase_ 97 = .ok (.iconst 1, 1) := by decide +kernel
theorem dX8_purchase__98 : decode cX8_purchase_ 98 = .ok (.iadd, 1) := by decide +kernel
theorem dX8_purchase__99 : decode cX8_purchase_ 99 = .ok (.iastore, 1) := by decide +kernel
theorem dX8_purchase__100 : decode cX8_purchase_ 100 = .ok (.aload_n 0, 1) := by decide +kernel
theorem dX8_purchase__101 : decode cX8_purchase_ 101 = .ok (.getfield 17, 3) := by decide +kernel
theorem dX8_purchase__104 : decode cX8_purchase_ 104 = .ok (.iload 5, 2) := by decide +kernel
theorem dX8_purchase__106 : decode cX8_purchase_ 106 = .ok (.iload_n 1, 1) := by decide +kernel
theorem dX8_purchase__107 : decode cX8_purchase_ 107 = .ok (.iastore, 1) := by decide +kernel
theorem dX8_purchase__108 : decode cX8_purchase_ 108 = .ok (.aload_n 0, 1) := by decide +kernel
theorem dX8_purchase__109 : decode cX8_purchase_ 109 = .ok (.getfield 17, 3) := by decide +kernel
theorem dX8_purchase__112 : decode cX8_purchase_ 112 = .ok (.iload 5, 2) := by decide +kernel
theorem dX8_purchase__114 : decode cX8_purchase_ 114 = .ok (.iconst 1, 1) := by decide +kernel
theorem dX8_purchase__115 : decode cX8_purchase_ 115 = .ok (.iadd, 1) := by decide +kernel
theorem dX8_purchase__116 : decode cX8_purchase_ 116 = .ok (.iload_n 2, 1) := by decide +kernel
theorem dX8_purchase__117 : decode cX8_purchase_ 117 = .ok (.iastore, 1) := by decide +kernel
theorem dX8_purchase__118 : decode cX8_purchase_ 118 = .ok (.aload_n 0, 1) := by decide +kernel
theorem dX8_purchase__119 : decode cX8_purchase_ 119 = .ok (.getfield 17, 3) := by decide +kernel
theorem dX8_purchase__122 : decode cX8_purchase_ 122 = .ok (.iload 5, 2) := by decide +kernel
theorem dX8_purchase__124 : decode cX8_purchase_ 124 = .ok (.iconst 2, 1) := by decide +kernel
theorem dX8_purchase__125 : decode cX8_purchase_ 125 = .ok (.iadd, 1) := by decide +kernel
theorem dX8_purchase__126 : decode cX8_purchase_ 126 = .ok (.iload_n 3, 1) := by decide +kernel
theorem dX8_purchase__127 : decode cX8_purchase_ 127 = .ok (.iastore, 1) := by decide +kernel
theorem dX8_purchase__128 : decode cX8_purchase_ 128 = .ok (.aload_n 0, 1) := by decide +kernel
theorem dX8_purchase__129 : decode cX8_purchase_ 129 = .ok (.getfield 17, 3) := by decide +kernel
theorem dX8_purchase__132 : decode cX8_purchase_ 132 = .ok (.iload 5, 2) := by decide +kernel
theorem dX8_purchase__134 : decode cX8_purchase_ 134 = .ok (.iconst 3, 1) := by decide +kernel
theorem dX8_purchase__135 : decode cX8_purchase_ 135 = .ok (.iadd, 1) := by decide +kernel
theorem dX8_purchase__136 : decode cX8_purchase_ 136 = .ok (.aload_n 0, 1) := by decide +kernel
theorem dX8_purchase__137 : decode cX8_purchase_ 137 = .ok (.getfield 17, 3) := by decide +kernel
theorem dX8_purchase__140 : decode cX8_purchase_ 140 = .ok (.iconst 5, 1) := by decide +kernel
theorem dX8_purchase__141 : decode cX8_purchase_ 141 = .ok (.iaload, 1) := by decide +kernel
theorem dX8_purchase__142 : decode cX8_purchase_ 142 = .ok (.iastore, 1) := by decide +kernel
theorem dX8_purchase__143 : decode cX8_purchase_ 143 = .ok (.aload_n 0, 1) := by decide +kernel
theorem dX8_purchase__144 : decode cX8_purchase_ 144 = .ok (.getfield 17, 3) := by decide +kernel
theorem dX8_purchase__147 : decode cX8_purchase_ 147 = .ok (.bipush 12, 2) := by decide +kernel
theorem dX8_purchase__149 : decode cX8_purchase_ 149 = .ok (.iload_n 1, 1) := by decide +kernel
theorem dX8_purchase__150 : decode cX8_purchase_ 150 = .ok (.iadd, 1) := by decide +kernel
theorem dX8_purchase__151 : decode cX8_purchase_ 151 = .ok (.bipush 16, 2) := by decide +kernel
theorem dX8_purchase__153 : decode cX8_purchase_ 153 = .ok (.iload_n 2, 1) := by decide +kernel
theorem dX8_purchase__154 : decode cX8_purchase_ 154 = .ok (.iadd, 1) := by decide +kernel
theorem dX8_purchase__155 : decode cX8_purchase_ 155 = .ok (.iload_n 3, 1) := by decide +kernel
theorem dX8_purchase__156 : decode cX8_purchase_ 156 = .ok (.invokestatic 207, 3) := by decide +kernel
theorem dX8_purchase__159 : decode cX8_purchase_ 159 = .ok (.iload 4, 2) := by decide +kernel
theorem dX8_purchase__161 : decode cX8_purchase_ 161 = .ok (.ireturn, 1) := by decide +kernel
theorem dX8_file_0 : decode cX8_file 0 = .ok (.aload_n 0, 1) := by decide +kernel
theorem dX8_file_1 : decode cX8_file 1 = .ok (.iconst 0, 1) := by decide +kernel
theorem dX8_file_2 : decode cX8_file 2 = .ok (.putfield 39, 3) := by decide +kernel
theorem dX8_file_5 : decode cX8_file 5 = .ok (.aload_n 0, 1) := by decide +kernel
theorem dX8_file_6 : decode cX8_file 6 = .ok (.iload_n 1, 1) := by decide +kernel
theorem dX8_file_7 : decode cX8_file 7 = .ok (.invokevirtual 233, 3) := by decide +kernel
theorem dX8_file_10 : decode cX8_file 10 = .ok (.ifCond .ne 32, 3) := by decide +kernel
theorem dX8_file_13 : decode cX8_file 13 = .ok (.aload_n 0, 1) := by decide +kernel
theorem dX8_file_14 : decode cX8_file 14 = .ok (.iload_n 2, 1) := by decide +kernel
theorem dX8_file_15 : decode cX8_file 15 = .ok (.iconst 0, 1) := by decide +kernel
theorem dX8_file_16 : decode cX8_file 16 = .ok (.aload_n 0, 1) := by decide +kernel
theorem dX8_file_17 : decode cX8_file 17 = .ok (.getfield 17, 3) := by decide +kernel
theorem dX8_file_20 : decode cX8_file 20 = .ok (.iconst 2, 1) := by decide +kernel
theorem dX8_file_21 : decode cX8_file 21 = .ok (.iaload, 1) := by decide +kernel
theorem dX8_file_22 : decode cX8_file 22 = .ok (.iconst 1, 1) := by decide +kernel
theorem dX8_file_23 : decode cX8_file 23 = .ok (.isub, 1) := by decide +kernel
theorem dX8_file_24 : decode cX8_file 24 = .ok (.invokestatic 61, 3) := by decide +kernel
theorem dX8_file_27 : decode cX8_file 27 = .ok (.ifCond .ne 7, 3) := by decide +kernel
theorem dX8_file_30 : decode cX8_file 30 = .ok (.iconst 1, 1) := by decide +kernel
theorem dX8_file_31 : decode cX8_file 31 = .ok (.goto 4, 3) := by decide +kernel
theorem dX8_file_34 : decode cX8_file 34 = .ok (.iconst 0, 1) := by decide +kernel
theorem dX8_file_35 : decode cX8_file 35 = .ok (.iconst 1, 1) := by decide +kernel
theorem dX8_file_36 : decode cX8_file 36 = .ok (.invokevirtual 158, 3) := by decide +kernel
theorem dX8_file_39 : decode cX8_file 39 = .ok (.ifCond .eq 5, 3) := by decide +kernel
theorem dX8_file_42 : decode cX8_file 42 = .ok (.iconst 0, 1) := by decide +kernel
theorem dX8_file_43 : decode cX8_file 43 = .ok (.ireturn, 1) := by decide +kernel
theorem dX8_file_44 : decode cX8_file 44 = .ok (.iload_n 1, 1) := by decide +kernel
theorem dX8_file_45 : decode cX8_file 45 = .ok (.invokestatic 190, 3) := by decide +kernel
theorem dX8_file_48 : decode cX8_file 48 = .ok (.istore 4, 2) := by decide +kernel
theorem dX8_file_50 : decode cX8_file 50 = .ok (.iload_n 2, 1) := by decide +kernel
theorem dX8_file_51 : decode cX8_file 51 = .ok (.invokestatic 135, 3) := by decide +kernel
theorem dX8_file_54 : decode cX8_file 54 = .ok (.istore 5, 2) := by decide +kernel
theorem dX8_file_56 : decode cX8_file 56 = .ok (.aload_n 0, 1) := by decide +kernel
theorem dX8_file_57 : decode cX8_file 57 = .ok (.iload_n 3, 1) := by decide +kernel
theorem dX8_file_58 : decode cX8_file 58 = .ok (.iconst 1, 1) := by decide +kernel
theorem dX8_file_59 : decode cX8_file 59 = .ok (.ldc_w 259, 3) := by decide +kernel
theorem dX8_file_62 : decode cX8_file 62 = .ok (.invokestatic 61, 3) := by decide +kernel
theorem dX8_file_65 : decode cX8_file 65 = .ok (.ifCond .eq 22, 3) := by decide +kernel
theorem dX8_file_68 : decode cX8_file 68 = .ok (.iload_n 3, 1) := by decide +kernel
theorem dX8_file_69 : decode cX8_file 69 = .ok (.aload_n 0, 1) := by decide +kernel
theorem dX8_file_70 : decode cX8_file 70 = .ok (.getfield 17, 3) := by decide +kernel
theorem dX8_file_73 : decode cX8_file 73 = .ok (.iload 4, 2) := by decide +kernel
theorem dX8_file_75 : decode cX8_file 75 = .ok (.iconst 2, 1) := by decide +kernel
theorem dX8_file_76 : decode cX8_file 76 = .ok (.iadd, 1) := by decide +kernel
theorem dX8_file_77 : decode cX8_file 77 = .ok (.iaload, 1) := by decide +kernel
theorem dX8_file_78 : decode cX8_file 78 = .ok (.aload_n 0, 1) := by decide +kernel
theorem dX8_file_79 : decode cX8_file 79 = .ok (.iload_n 1, 1) := by decide +kernel
theorem dX8_file_80 : decode cX8_file 80 = .ok (.invokevirtual 236, 3) := by decide +kernel
theorem dX8_file_83 : decode cX8_file 83 = .ok (.isub, 1) := by decide +kernel
theorem dX8_file_84 : decode cX8_file 84 = .ok (.if_icmp .le 7, 3) := by decide +kernel
theorem dX8_file_87 : decode cX8_file 87 = .ok (.iconst 1, 1) := by decide +kernel
theorem dX8_file_88 : decode cX8_file 88 = .ok (.goto 4, 3) := by decide +kernel
theorem dX8_file_91 : decode cX8_file 91 = .ok (.iconst 0, 1) := by decide +kernel
theorem dX8_file_92 : decode cX8_file 92 = .ok (.iconst 2, 1) := by decide +kernel
theorem dX8_file_93 : decode cX8_file 93 = .ok (.invokevirtual 158, 3) := by decide +kernel
theorem dX8_file_96 : decode cX8_file 96 = .ok (.ifCond .ne 55, 3) := by decide +kernel
theorem dX8_file_99 : decode cX8_file 99 = .ok (.aload_n 0, 1) := by decide +kernel
theorem dX8_file_100 : decode cX8_file 100 = .ok (.aload_n 0, 1) := by decide +kernel
theorem dX8_file_101 : decode cX8_file 101 = .ok (.getfield 17, 3) := by decide +kernel
theorem dX8_file_104 : decode cX8_file 104 = .ok (.iconst 5, 1) := by decide +kernel
theorem dX8_file_105 : decode cX8_file 105 = .ok (.iaload, 1) := by decide +kernel
theorem dX8_file_106 : decode cX8_file 106 = .ok (.aload_n 0, 1) := by decide +kernel
theorem dX8_file_107 : decode cX8_file 107 = .ok (.getfield 17, 3) := by decide +kernel
theorem dX8_file_110 : decode cX8_file 110 = .ok (.iload 4, 2) := by decide +kernel
theorem dX8_file_112 : decode cX8_file 112 = .ok (.iconst 3, 1) := by decide +kernel
theorem dX8_file_113 : decode cX8_file 113 = .ok (.iadd, 1) := by decide +kernel
theorem dX8_file_114 : decode cX8_file 114 = .ok (.iaload, 1) := by decide +kernel
theorem dX8_file_115 : decode cX8_file 115 = .ok (.aload_n 0, 1) := by decide +kernel
theorem dX8_file_116 : decode cX8_file 116 = .ok (.getfield 17, 3) := by decide +kernel
theorem dX8_file_119 : decode cX8_file 119 = .ok (.iload 5, 2) := by decide +kernel
theorem dX8_file_121 : decode cX8_file 121 = .ok (.iconst 1, 1) := by decide +kernel
theorem dX8_file_122 : decode cX8_file 122 = .ok (.iadd, 1) := by decide +kernel
theorem dX8_file_123 : decode cX8_file 123 = .ok (.iaload, 1) := by decide +kernel
theorem dX8_file_124 : decode cX8_file 124 = .ok (.iadd, 1) := by decide +kernel
theorem dX8_file_125 : decode cX8_file 125 = .ok (.if_icmp .gt 14, 3) := by decide +kernel
theorem dX8_file_128 : decode cX8_file 128 = .ok (.aload_n 0, 1) := by decide +kernel
theorem dX8_file_129 : decode cX8_file 129 = .ok (.getfield 17, 3) := by decide +kernel
theorem dX8_file_132 : decode cX8_file 132 = .ok (.iconst 4, 1) := by decide +kernel
theorem dX8_file_133 : decode cX8_file 133 = .ok (.iaload, 1) := by decide +kernel
theorem dX8_file_134 : decode cX8_file 134 = .ok (.bipush 20, 2) := by decide +kernel
theorem dX8_file_136 : decode cX8_file 136 = .ok (.if_icmp .ne 7, 3) := by decide +kernel
theorem dX8_file_139 : decode cX8_file 139 = .ok (.iconst 1, 1) := by decide +kernel
theorem dX8_file_140 : decode cX8_file 140 = .ok (.goto 4, 3) := by decide +kernel
theorem dX8_file_143 : decode cX8_file 143 = .ok (.iconst 0, 1) := by decide +kernel
theorem dX8_file_144 : decode cX8_file 144 = .ok (.iconst 3, 1) := by decide +kernel
theorem dX8_file_145 : decode cX8_file 145 = .ok (.invokevirtual 158, 3) := by decide +kernel
theorem dX8_file_148 : decode cX8_file 148 = .ok (.ifCond .eq 5, 3) := by decide +kernel
theorem dX8_file_151 : decode cX8_file 151 = .ok (.iconst 0, 1) := by decide +kernel
theorem dX8_file_152 : decode cX8_file 152 = .ok (.ireturn, 1) := by decide +kernel
theorem dX8_file_153 : decode cX8_file 153 = .ok (.aload_n 0, 1) := by decide +kernel
theorem dX8_file_154 : decode cX8_file 154 = .ok (.invokevirtual 165, 3) := by decide +kernel
theorem dX8_file_157 : decode cX8_file 157 = .ok (.aload_n 0, 1) := by decide +kernel
theorem dX8_file_158 : decode cX8_file 158 = .ok (.getfield 17, 3) := by decide +kernel
theorem dX8_file_161 : decode cX8_file 161 = .ok (.iconst 4, 1) := by decide +kernel
theorem dX8_file_162 : decode cX8_file 162 = .ok (.iaload, 1) := by decide +kernel
theorem dX8_file_163 : decode cX8_file 163 = .ok (.istore 6, 2) := by decide +kernel
theorem dX8_file_165 : decode cX8_file 165 = .ok (.iload 6, 2) := by decide +kernel
theorem dX8_file_167 : decode cX8_file 167 = .ok (.invokestatic 180, 3) := by decide +kernel
theorem dX8_file_170 : decode cX8_file 170 = .ok (.istore 7, 2) := by decide +kernel
theorem dX8_file_172 : decode cX8_file 172 = .ok (.aload_n 0, 1) := by decide +kernel
theorem dX8_file_173 : decode cX8_file 173 = .ok (.getfield 17, 3) := by decide +kernel
theorem dX8_file_176 : decode cX8_file 176 = .ok (.iconst 4, 1) := by decide +kernel
theorem dX8_file_177 : decode cX8_file 177 = .ok (.dup2, 1) := by decide +kernel
theorem dX8_file_178 : decode cX8_file 178 = .ok (.iaload, 1) := by decide +kernel
theorem dX8_file_179 : decode cX8_file 179 = .ok (.iconst 1, 1) := by decide +kernel
theorem dX8_file_180 : decode cX8_file 180 = .ok (.iadd, 1) := by decide +kernel
theorem dX8_file_181 : decode cX8_file 181 = .ok (.iastore, 1) := by decide +kernel
theorem dX8_file_182 : decode cX8_file 182 = .ok (.aload_n 0, 1) := by decide +kernel
theorem dX8_file_183 : decode cX8_file 183 = .ok (.getfield 17, 3) := by decide +kernel
theorem dX8_file_186 : decode cX8_file 186 = .ok (.iload 7, 2) := by decide +kernel
theorem dX8_file_188 : decode cX8_file 188 = .ok (.iload_n 1, 1) := by decide +kernel
theorem dX8_file_189 : decode cX8_file 189 = .ok (.iastore, 1) := by decide +kernel
theorem dX8_file_190 : decode cX8_file 190 = .ok (.aload_n 0, 1) := by decide +kernel
theorem dX8_file_191 : decode cX8_file 191 = .ok (.getfield 17, 3) := by decide +kernel
theorem dX8_file_194 : decode cX8_file 194 = .ok (.iload 7, 2) := by decide +kernel
theorem dX8_file_196 : decode cX8_file 196 = .ok (.iconst 1, 1) := by decide +kernel
theorem dX8_file_197 : decode cX8_file 197 = .ok (.iadd, 1) := by decide +kernel
theorem dX8_file_198 : decode cX8_file 198 = .ok (.iload_n 2, 1) := by decide +kernel
theorem dX8_file_199 : decode cX8_file 199 = .ok (.iastore, 1) := by decide +kernel
theorem dX8_file_200 : decode cX8_file 200 = .ok (.aload_n 0, 1) := by decide +kernel
theorem dX8_file_201 : decode cX8_file 201 = .ok (.getfield 17, 3) := by decide +kernel
theorem dX8_file_204 : decode cX8_file 204 = .ok (.iload 7, 2) := by decide +kernel
theorem dX8_file_206 : decode cX8_file 206 = .ok (.iconst 2, 1) := by decide +kernel
theorem dX8_file_207 : decode cX8_file 207 = .ok (.iadd, 1) := by decide +kernel
theorem dX8_file_208 : decode cX8_file 208 = .ok (.iload_n 3, 1) := by decide +kernel
theorem dX8_file_209 : decode cX8_file 209 = .ok (.iastore, 1) := by decide +kernel
theorem dX8_file_210 : decode cX8_file 210 = .ok (.aload_n 0, 1) := by decide +kernel
theorem dX8_file_211 : decode cX8_file 211 = .ok (.getfield 17, 3) := by decide +kernel
theorem dX8_file_214 : decode cX8_file 214 = .ok (.iload 7, 2) := by decide +kernel
theorem dX8_file_216 : decode cX8_file 216 = .ok (.iconst 3, 1) := by decide +kernel
theorem dX8_file_217 : decode cX8_file 217 = .ok (.iadd, 1) := by decide +kernel
theorem dX8_file_218 : decode cX8_file 218 = .ok (.aload_n 0, 1) := by decide +kernel
theorem dX8_file_219 : decode cX8_file 219 = .ok (.getfield 17, 3) := by decide +kernel
theorem dX8_file_222 : decode cX8_file 222 = .ok (.iconst 5, 1) := by decide +kernel
theorem dX8_file_223 : decode cX8_file 223 = .ok (.iaload, 1) := by decide +kernel
theorem dX8_file_224 : decode cX8_file 224 = .ok (.iastore, 1) := by decide +kernel
theorem dX8_file_225 : decode cX8_file 225 = .ok (.aload_n 0, 1) := by decide +kernel
theorem dX8_file_226 : decode cX8_file 226 = .ok (.getfield 17, 3) := by decide +kernel
theorem dX8_file_229 : decode cX8_file 229 = .ok (.iload 7, 2) := by decide +kernel
theorem dX8_file_231 : decode cX8_file 231 = .ok (.iconst 4, 1) := by decide +kernel
theorem dX8_file_232 : decode cX8_file 232 = .ok (.iadd, 1) := by decide +kernel
theorem dX8_file_233 : decode cX8_file 233 = .ok (.iconst 0, 1) := by decide +kernel
theorem dX8_file_234 : decode cX8_file 234 = .ok (.iastore, 1) := by decide +kernel
theorem dX8_file_235 : decode cX8_file 235 = .ok (.aload_n 0, 1) := by decide +kernel
theorem dX8_file_236 : decode cX8_file 236 = .ok (.getfield 17, 3) := by decide +kernel
theorem dX8_file_239 : decode cX8_file 239 = .ok (.iload 7, 2) := by decide +kernel
theorem dX8_file_241 : decode cX8_file 241 = .ok (.iconst 5, 1) := by decide +kernel
theorem dX8_file_242 : decode cX8_file 242 = .ok (.iadd, 1) := by decide +kernel
theorem dX8_file_243 : decode cX8_file 243 = .ok (.iconst 0, 1) := by decide +kernel
theorem dX8_file_244 : decode cX8_file 244 = .ok (.iastore, 1) := by decide +kernel
theorem dX8_file_245 : decode cX8_file 245 = .ok (.aload_n 0, 1) := by decide +kernel
theorem dX8_file_246 : decode cX8_file 246 = .ok (.getfield 17, 3) := by decide +kernel
theorem dX8_file_249 : decode cX8_file 249 = .ok (.iload 7, 2) := by decide +kernel
theorem dX8_file_251 : decode cX8_file 251 = .ok (.bipush 6, 2) := by decide +kernel
theorem dX8_file_253 : decode cX8_file 253 = .ok (.iadd, 1) := by decide +kernel
theorem dX8_file_254 : decode cX8_file 254 = .ok (.aload_n 0, 1) := by decide +kernel
theorem dX8_file_255 : decode cX8_file 255 = .ok (.getfield 17, 3) := by decide +kernel
theorem dX8_file_258 : decode cX8_file 258 = .ok (.iconst 5, 1) := by decide +kernel
theorem dX8_file_259 : decode cX8_file 259 = .ok (.iaload, 1) := by decide +kernel
theorem dX8_file_260 : decode cX8_file 260 = .ok (.aload_n 0, 1) := by decide +kernel
theorem dX8_file_261 : decode cX8_file 261 = .ok (.getfield 17, 3) := by decide +kernel
theorem dX8_file_264 : decode cX8_file 264 = .ok (.iload 5, 2) := by decide +kernel
theorem dX8_file_266 : decode cX8_file 266 = .ok (.iconst 2, 1) := by decide +kernel
theorem dX8_file_267 : decode cX8_file 267 = .ok (.iadd, 1) := by decide +kernel
theorem dX8_file_268 : decode cX8_file 268 = .ok (.iaload, 1) := by decide +kernel
theorem dX8_file_269 : decode cX8_file 269 = .ok (.iadd, 1) := by decide +kernel
theorem dX8_file_270 : decode cX8_file 270 = .ok (.iastore, 1) := by decide +kernel
theorem dX8_file_271 : decode cX8_file 271 = .ok (.aload_n 0, 1) := by decide +kernel
theorem dX8_file_272 : decode cX8_file 272 = .ok (.getfield 17, 3) := by decide +kernel
theorem dX8_file_275 : decode cX8_file 275 = .ok (.iload 7, 2) := by decide +kernel
theorem dX8_file_277 : decode cX8_file 277 = .ok (.bipush 7, 2) := by decide +kernel
theorem dX8_file_279 : decode cX8_file 279 = .ok (.iadd, 1) := by decide +kernel
theorem dX8_file_280 : decode cX8_file 280 = .ok (.iconst 1, 1) := by decide +kernel
theorem dX8_file_281 : decode cX8_file 281 = .ok (.iastore, 1) := by decide +kernel
theorem dX8_file_282 : decode cX8_file 282 = .ok (.aload_n 0, 1) := by decide +kernel
theorem dX8_file_283 : decode cX8_file 283 = .ok (.getfield 17, 3) := by decide +kernel
theorem dX8_file_286 : decode cX8_file 286 = .ok (.iload 6, 2) := by decide +kernel
theorem dX8_file_288 : decode cX8_file 288 = .ok (.iconst 0, 1) := by decide +kernel
theorem dX8_file_289 : decode cX8_file 289 = .ok (.invokestatic 211, 3) := by decide +kernel
theorem dX8_file_292 : decode cX8_file 292 = .ok (.aload_n 0, 1) := by decide +kernel
theorem dX8_file_293 : decode cX8_file 293 = .ok (.getfield 17, 3) := by decide +kernel
theorem dX8_file_296 : decode cX8_file 296 = .ok (.aload_n 0, 1) := by decide +kernel
theorem dX8_file_297 : decode cX8_file 297 = .ok (.getfield 17, 3) := by decide +kernel
theorem dX8_file_300 : decode cX8_file 300 = .ok (.iload 6, 2) := by decide +kernel
theorem dX8_file_302 : decode cX8_file 302 = .ok (.invokestatic 201, 3) := by decide +kernel
theorem dX8_file_305 : decode cX8_file 305 = .ok (.bipush 11, 2) := by decide +kernel
theorem dX8_file_307 : decode cX8_file 307 = .ok (.aload_n 0, 1) := by decide +kernel
theorem dX8_file_308 : decode cX8_file 308 = .ok (.getfield 17, 3) := by decide +kernel
theorem dX8_file_311 : decode cX8_file 311 = .ok (.bipush 6, 2) := by decide +kernel
theorem dX8_file_313 : decode cX8_file 313 = .ok (.iaload, 1) := by decide +kernel
theorem dX8_file_314 : decode cX8_file 314 = .ok (.invokestatic 207, 3) := by decide +kernel
theorem dX8_file_317 : decode cX8_file 317 = .ok (.iload 6, 2) := by decide +kernel
theorem dX8_file_319 : decode cX8_file 319 = .ok (.ireturn, 1) := by decide +kernel
theorem dX8_goOn_0 : decode cX8_goOn 0 = .ok (.aload_n 0, 1) := by decide +kernel
theorem dX8_goOn_1 : decode cX8_goOn 1 = .ok (.getfield 17, 3) := by decide +kernel
theorem dX8_goOn_4 : decode cX8_goOn 4 = .ok (.iload_n 1, 1) := by decide +kernel
theorem dX8_goOn_5 : decode cX8_goOn 5 = .ok (.invokestatic 180, 3) := by decide +kernel
theorem dX8_goOn_8 : decode cX8_goOn 8 = .ok (.iconst 5, 1) := by decide +kernel
theorem dX8_goOn_9 : decode cX8_goOn 9 = .ok (.iadd, 1) := by decide +kernel
theorem dX8_goOn_10 : decode cX8_goOn 10 = .ok (.iload_n 2, 1) := by decide +kernel
theorem dX8_goOn_11 : decode cX8_goOn 11 = .ok (.iastore, 1) := by decide +kernel
theorem dX8_goOn_12 : decode cX8_goOn 12 = .ok (.aload_n 0, 1) := by decide +kernel
theorem dX8_goOn_13 : decode cX8_goOn 13 = .ok (.getfield 17, 3) := by decide +kernel
theorem dX8_goOn_16 : decode cX8_goOn 16 = .ok (.iload_n 1, 1) := by decide +kernel
theorem dX8_goOn_17 : decode cX8_goOn 17 = .ok (.invokestatic 180, 3) := by decide +kernel
theorem dX8_goOn_20 : decode cX8_goOn 20 = .ok (.bipush 6, 2) := by decide +kernel
theorem dX8_goOn_22 : decode cX8_goOn 22 = .ok (.iadd, 1) := by decide +kernel
theorem dX8_goOn_23 : decode cX8_goOn 23 = .ok (.aload_n 0, 1) := by decide +kernel
theorem dX8_goOn_24 : decode cX8_goOn 24 = .ok (.getfield 17, 3) := by decide +kernel
theorem dX8_goOn_27 : decode cX8_goOn 27 = .ok (.iconst 5, 1) := by decide +kernel
theorem dX8_goOn_28 : decode cX8_goOn 28 = .ok (.iaload, 1) := by decide +kernel
theorem dX8_goOn_29 : decode cX8_goOn 29 = .ok (.iload_n 3, 1) := by decide +kernel
theorem dX8_goOn_30 : decode cX8_goOn 30 = .ok (.iadd, 1) := by decide +kernel
theorem dX8_goOn_31 : decode cX8_goOn 31 = .ok (.iastore, 1) := by decide +kernel
theorem dX8_goOn_32 : decode cX8_goOn 32 = .ok (.return_, 1) := by decide +kernel
theorem dX8_represent_0 : decode cX8_represent 0 = .ok (.aload_n 0, 1) := by decide +kernel
theorem dX8_represent_1 : decode cX8_represent 1 = .ok (.iconst 0, 1) := by decide +kernel
theorem dX8_represent_2 : decode cX8_represent 2 = .ok (.putfield 39, 3) := by decide +kernel
theorem dX8_represent_5 : decode cX8_represent 5 = .ok (.aload_n 0, 1) := by decide +kernel
theorem dX8_represent_6 : decode cX8_represent 6 = .ok (.iload_n 1, 1) := by decide +kernel
theorem dX8_represent_7 : decode cX8_represent 7 = .ok (.invokevirtual 239, 3) := by decide +kernel
theorem dX8_represent_10 : decode cX8_represent 10 = .ok (.ifCond .ne 27, 3) := by decide +kernel
theorem dX8_represent_13 : decode cX8_represent 13 = .ok (.aload_n 0, 1) := by decide +kernel
theorem dX8_represent_14 : decode cX8_represent 14 = .ok (.iload_n 2, 1) := by decide +kernel
theorem dX8_represent_15 : decode cX8_represent 15 = .ok (.iconst 1, 1) := by decide +kernel
theorem dX8_represent_16 : decode cX8_represent 16 = .ok (.sipush 255, 3) := by decide +kernel
theorem dX8_represent_19 : decode cX8_represent 19 = .ok (.invokestatic 61, 3) := by decide +kernel
theorem dX8_represent_22 : decode cX8_represent 22 = .ok (.ifCond .ne 7, 3) := by decide +kernel
theorem dX8_represent_25 : decode cX8_represent 25 = .ok (.iconst 1, 1) := by decide +kernel
theorem dX8_represent_26 : decode cX8_represent 26 = .ok (.goto 4, 3) := by decide +kernel
theorem dX8_represent_29 : decode cX8_represent 29 = .ok (.iconst 0, 1) := by decide +kernel
theorem dX8_represent_30 : decode cX8_represent 30 = .ok (.iconst 2, 1) := by decide +kernel
theorem dX8_represent_31 : decode cX8_represent 31 = .ok (.invokevirtual 158, 3) := by decide +kernel
theorem dX8_represent_34 : decode cX8_represent 34 = .ok (.ifCond .eq 5, 3) := by decide +kernel
theorem dX8_represent_37 : decode cX8_represent 37 = .ok (.iconst 0, 1) := by decide +kernel
theorem dX8_represent_38 : decode cX8_represent 38 = .ok (.ireturn, 1) := by decide +kernel
theorem dX8_represent_39 : decode cX8_represent 39 = .ok (.iload_n 1, 1) := by decide +kernel
theorem dX8_represent_40 : decode cX8_represent 40 = .ok (.invokestatic 180, 3) := by decide +kernel
theorem dX8_represent_43 : decode cX8_represent 43 = .ok (.istore_n 3, 1) := by decide +kernel
theorem dX8_represent_44 : decode cX8_represent 44 = .ok (.aload_n 0, 1) := by decide +kernel
theorem dX8_represent_45 : decode cX8_represent 45 = .ok (.aload_n 0, 1) := by decide +kernel
theorem dX8_represent_46 : decode cX8_represent 46 = .ok (.getfield 17, 3) := by decide +kernel
theorem dX8_represent_49 : decode cX8_represent 49 = .ok (.iload_n 3, 1) := by decide +kernel
theorem dX8_represent_50 : decode cX8_represent 50 = .ok (.iconst 5, 1) := by decide +kernel
theorem dX8_represent_51 : decode cX8_represent 51 = .ok (.iadd, 1) := by decide +kernel
theorem dX8_represent_52 : decode cX8_represent 52 = .ok (.iaload, 1) := by decide +kernel
theorem dX8_represent_53 : decode cX8_represent 53 = .ok (.ifCond .eq 7, 3) := by decide +kernel
theorem dX8_represent_56 : decode cX8_represent 56 = .ok (.iconst 1, 1) := by decide +kernel
theorem dX8_represent_57 : decode cX8_represent 57 = .ok (.goto 4, 3) := by decide +kernel
theorem dX8_represent_60 : decode cX8_represent 60 = .ok (.iconst 0, 1) := by decide +kernel
theorem dX8_represent_61 : decode cX8_represent 61 = .ok (.iconst 3, 1) := by decide +kernel
theorem dX8_represent_62 : decode cX8_represent 62 = .ok (.invokevirtual 158, 3) := by decide +kernel
theorem dX8_represent_65 : decode cX8_represent 65 = .ok (.ifCond .eq 5, 3) := by decide +kernel
theorem dX8_represent_68 : decode cX8_represent 68 = .ok (.iconst 0, 1) := by decide +kernel
theorem dX8_represent_69 : decode cX8_represent 69 = .ok (.ireturn, 1) := by decide +kernel
theorem dX8_represent_70 : decode cX8_represent 70 = .ok (.aload_n 0, 1) := by decide +kernel
theorem dX8_represent_71 : decode cX8_represent 71 = .ok (.invokevirtual 165, 3) := by decide +kernel
theorem dX8_represent_74 : decode cX8_represent 74 = .ok (.aload_n 0, 1) := by decide +kernel
theorem dX8_represent_75 : decode cX8_represent 75 = .ok (.getfield 17, 3) := by decide +kernel
theorem dX8_represent_78 : decode cX8_represent 78 = .ok (.iload_n 3, 1) := by decide +kernel
theorem dX8_represent_79 : decode cX8_represent 79 = .ok (.iconst 4, 1) := by decide +kernel
theorem dX8_represent_80 : decode cX8_represent 80 = .ok (.iadd, 1) := by decide +kernel
theorem dX8_represent_81 : decode cX8_represent 81 = .ok (.dup2, 1) := by decide +kernel
theorem dX8_represent_82 : decode cX8_represent 82 = .ok (.iaload, 1) := by decide +kernel
theorem dX8_represent_83 : decode cX8_represent 83 = .ok (.iload_n 2, 1) := by decide +kernel
theorem dX8_represent_84 : decode cX8_represent 84 = .ok (.ior, 1) := by decide +kernel
theorem dX8_represent_85 : decode cX8_represent 85 = .ok (.iastore, 1) := by decide +kernel
theorem dX8_represent_86 : decode cX8_represent 86 = .ok (.aload_n 0, 1) := by decide +kernel
theorem dX8_represent_87 : decode cX8_represent 87 = .ok (.getfield 17, 3) := by decide +kernel
theorem dX8_represent_90 : decode cX8_represent 90 = .ok (.iload_n 1, 1) := by decide +kernel
theorem dX8_represent_91 : decode cX8_represent 91 = .ok (.iconst 1, 1) := by decide +kernel
theorem dX8_represent_92 : decode cX8_represent 92 = .ok (.invokestatic 211, 3) := by decide +kernel
theorem dX8_represent_95 : decode cX8_represent 95 = .ok (.aload_n 0, 1) := by decide +kernel
theorem dX8_represent_96 : decode cX8_represent 96 = .ok (.iload_n 1, 1) := by decide +kernel
theorem dX8_represent_97 : decode cX8_represent 97 = .ok (.iconst 1, 1) := by decide +kernel
theorem dX8_represent_98 : decode cX8_represent 98 = .ok (.aload_n 0, 1) := by decide +kernel
theorem dX8_represent_99 : decode cX8_represent 99 = .ok (.getfield 17, 3) := by decide +kernel
theorem dX8_represent_102 : decode cX8_represent 102 = .ok (.aload_n 0, 1) := by decide +kernel
theorem dX8_represent_103 : decode cX8_represent 103 = .ok (.getfield 17, 3) := by decide +kernel
theorem dX8_represent_106 : decode cX8_represent 106 = .ok (.iload_n 3, 1) := by decide +kernel
theorem dX8_represent_107 : decode cX8_represent 107 = .ok (.iconst 1, 1) := by decide +kernel
theorem dX8_represent_108 : decode cX8_represent 108 = .ok (.iadd, 1) := by decide +kernel
theorem dX8_represent_109 : decode cX8_represent 109 = .ok (.iaload, 1) := by decide +kernel
theorem dX8_represent_110 : decode cX8_represent 110 = .ok (.invokestatic 135, 3) := by decide +kernel
theorem dX8_represent_113 : decode cX8_represent 113 = .ok (.iconst 3, 1) := by decide +kernel
theorem dX8_represent_114 : decode cX8_represent 114 = .ok (.iadd, 1) := by decide +kernel
theorem dX8_represent_115 : decode cX8_represent 115 = .ok (.iaload, 1) := by decide +kernel
theorem dX8_represent_116 : decode cX8_represent 116 = .ok (.invokevirtual 260, 3) := by decide +kernel
theorem dX8_represent_119 : decode cX8_represent 119 = .ok (.aload_n 0, 1) := by decide +kernel
theorem dX8_represent_120 : decode cX8_represent 120 = .ok (.aload_n 0, 1) := by decide +kernel
theorem dX8_represent_121 : decode cX8_represent 121 = .ok (.getfield 17, 3) := by decide +kernel
theorem dX8_represent_124 : decode cX8_represent 124 = .ok (.iload_n 1, 1) := by decide +kernel
theorem dX8_represent_125 : decode cX8_represent 125 = .ok (.aload_n 0, 1) := by decide +kernel
theorem dX8_represent_126 : decode cX8_represent 126 = .ok (.getfield 17, 3) := by decide +kernel
theorem dX8_represent_129 : decode cX8_represent 129 = .ok (.iload_n 3, 1) := by decide +kernel
theorem dX8_represent_130 : decode cX8_represent 130 = .ok (.iconst 4, 1) := by decide +kernel
theorem dX8_represent_131 : decode cX8_represent 131 = .ok (.iadd, 1) := by decide +kernel
theorem dX8_represent_132 : decode cX8_represent 132 = .ok (.iaload, 1) := by decide +kernel
theorem dX8_represent_133 : decode cX8_represent 133 = .ok (.invokevirtual 197, 3) := by decide +kernel
theorem dX8_represent_136 : decode cX8_represent 136 = .ok (.ireturn, 1) := by decide +kernel
theorem dX8_escalate_0 : decode cX8_escalate 0 = .ok (.aload_n 0, 1) := by decide +kernel
theorem dX8_escalate_1 : decode cX8_escalate 1 = .ok (.iconst 0, 1) := by decide +kernel
theorem dX8_escalate_2 : decode cX8_escalate 2 = .ok (.putfield 39, 3) := by decide +kernel
theorem dX8_escalate_5 : decode cX8_escalate 5 = .ok (.aload_n 0, 1) := by decide +kernel
theorem dX8_escalate_6 : decode cX8_escalate 6 = .ok (.iload_n 1, 1) := by decide +kernel
theorem dX8_escalate_7 : decode cX8_escalate 7 = .ok (.invokevirtual 239, 3) := by decide +kernel
theorem dX8_escalate_10 : decode cX8_escalate 10 = .ok (.ifCond .eq 5, 3) := by decide +kernel
theorem dX8_escalate_13 : decode cX8_escalate 13 = .ok (.iconst 0, 1) := by decide +kernel
theorem dX8_escalate_14 : decode cX8_escalate 14 = .ok (.ireturn, 1) := by decide +kernel
theorem dX8_escalate_15 : decode cX8_escalate 15 = .ok (.iload_n 1, 1) := by decide +kernel
theorem dX8_escalate_16 : decode cX8_escalate 16 = .ok (.invokestatic 180, 3) := by decide +kernel
theorem dX8_escalate_19 : decode cX8_escalate 19 = .ok (.istore_n 2, 1) := by decide +kernel
theorem dX8_escalate_20 : decode cX8_escalate 20 = .ok (.aload_n 0, 1) := by decide +kernel
theorem dX8_escalate_21 : decode cX8_escalate 21 = .ok (.aload_n 0, 1) := by decide +kernel
theorem dX8_escalate_22 : decode cX8_escalate 22 = .ok (.getfield 17, 3) := by decide +kernel
theorem dX8_escalate_25 : decode cX8_escalate 25 = .ok (.iload_n 2, 1) := by decide +kernel
theorem dX8_escalate_26 : decode cX8_escalate 26 = .ok (.iconst 5, 1) := by decide +kernel
theorem dX8_escalate_27 : decode cX8_escalate 27 = .ok (.iadd, 1) := by decide +kernel
theorem dX8_escalate_28 : decode cX8_escalate 28 = .ok (.iaload, 1) := by decide +kernel
theorem dX8_escalate_29 : decode cX8_escalate 29 = .ok (.iconst 1, 1) := by decide +kernel
theorem dX8_escalate_30 : decode cX8_escalate 30 = .ok (.if_icmp .eq 7, 3) := by decide +kernel
theorem dX8_escalate_33 : decode cX8_escalate 33 = .ok (.iconst 1, 1) := by decide +kernel
theorem dX8_escalate_34 : decode cX8_escalate 34 = .ok (.goto 4, 3) := by decide +kernel
theorem dX8_escalate_37 : decode cX8_escalate 37 = .ok (.iconst 0, 1) := by decide +kernel
theorem dX8_escalate_38 : decode cX8_escalate 38 = .ok (.iconst 2, 1) := by decide +kernel
theorem dX8_escalate_39 : decode cX8_escalate 39 = .ok (.invokevirtual 158, 3) := by decide +kernel
theorem dX8_escalate_42 : decode cX8_escalate 42 = .ok (.ifCond .eq 5, 3) := by decide +kernel
theorem dX8_escalate_45 : decode cX8_escalate 45 = .ok (.iconst 0, 1) := by decide +kernel
theorem dX8_escalate_46 : decode cX8_escalate 46 = .ok (.ireturn, 1) := by decide +kernel
theorem dX8_escalate_47 : decode cX8_escalate 47 = .ok (.aload_n 0, 1) := by decide +kernel
theorem dX8_escalate_48 : decode cX8_escalate 48 = .ok (.invokevirtual 165, 3) := by decide +kernel
theorem dX8_escalate_51 : decode cX8_escalate 51 = .ok (.aload_n 0, 1) := by decide +kernel
theorem dX8_escalate_52 : decode cX8_escalate 52 = .ok (.getfield 17, 3) := by decide +kernel
theorem dX8_escalate_55 : decode cX8_escalate 55 = .ok (.iload_n 1, 1) := by decide +kernel
theorem dX8_escalate_56 : decode cX8_escalate 56 = .ok (.iconst 0, 1) := by decide +kernel
theorem dX8_escalate_57 : decode cX8_escalate 57 = .ok (.invokestatic 211, 3) := by decide +kernel
theorem dX8_escalate_60 : decode cX8_escalate 60 = .ok (.aload_n 0, 1) := by decide +kernel
theorem dX8_escalate_61 : decode cX8_escalate 61 = .ok (.iload_n 1, 1) := by decide +kernel
theorem dX8_escalate_62 : decode cX8_escalate 62 = .ok (.iconst 2, 1) := by decide +kernel
theorem dX8_escalate_63 : decode cX8_escalate 63 = .ok (.aload_n 0, 1) := by decide +kernel
theorem dX8_escalate_64 : decode cX8_escalate 64 = .ok (.getfield 17, 3) := by decide +kernel
theorem dX8_escalate_67 : decode cX8_escalate 67 = .ok (.aload_n 0, 1) := by decide +kernel
theorem dX8_escalate_68 : decode cX8_escalate 68 = .ok (.getfield 17, 3) := by decide +kernel
theorem dX8_escalate_71 : decode cX8_escalate 71 = .ok (.iload_n 2, 1) := by decide +kernel
theorem dX8_escalate_72 : decode cX8_escalate 72 = .ok (.iconst 1, 1) := by decide +kernel
theorem dX8_escalate_73 : decode cX8_escalate 73 = .ok (.iadd, 1) := by decide +kernel
theorem dX8_escalate_74 : decode cX8_escalate 74 = .ok (.iaload, 1) := by decide +kernel
theorem dX8_escalate_75 : decode cX8_escalate 75 = .ok (.invokestatic 135, 3) := by decide +kernel
theorem dX8_escalate_78 : decode cX8_escalate 78 = .ok (.iconst 2, 1) := by decide +kernel
theorem dX8_escalate_79 : decode cX8_escalate 79 = .ok (.iadd, 1) := by decide +kernel
theorem dX8_escalate_80 : decode cX8_escalate 80 = .ok (.iaload, 1) := by decide +kernel
theorem dX8_escalate_81 : decode cX8_escalate 81 = .ok (.invokevirtual 260, 3) := by decide +kernel
theorem dX8_escalate_84 : decode cX8_escalate 84 = .ok (.aload_n 0, 1) := by decide +kernel
theorem dX8_escalate_85 : decode cX8_escalate 85 = .ok (.getfield 17, 3) := by decide +kernel
theorem dX8_escalate_88 : decode cX8_escalate 88 = .ok (.iload_n 2, 1) := by decide +kernel
theorem dX8_escalate_89 : decode cX8_escalate 89 = .ok (.bipush 6, 2) := by decide +kernel
theorem dX8_escalate_91 : decode cX8_escalate 91 = .ok (.iadd, 1) := by decide +kernel
theorem dX8_escalate_92 : decode cX8_escalate 92 = .ok (.iaload, 1) := by decide +kernel
theorem dX8_escalate_93 : decode cX8_escalate 93 = .ok (.ireturn, 1) := by decide +kernel
theorem dX8_contest_0 : decode cX8_contest 0 = .ok (.aload_n 0, 1) := by decide +kernel
theorem dX8_contest_1 : decode cX8_contest 1 = .ok (.iconst 0, 1) := by decide +kernel
theorem dX8_contest_2 : decode cX8_contest 2 = .ok (.putfield 39, 3) := by decide +kernel
theorem dX8_contest_5 : decode cX8_contest 5 = .ok (.aload_n 0, 1) := by decide +kernel
theorem dX8_contest_6 : decode cX8_contest 6 = .ok (.iload_n 1, 1) := by decide +kernel
theorem dX8_contest_7 : decode cX8_contest 7 = .ok (.invokevirtual 239, 3) := by decide +kernel
theorem dX8_contest_10 : decode cX8_contest 10 = .ok (.ifCond .ne 27, 3) := by decide +kernel
theorem dX8_contest_13 : decode cX8_contest 13 = .ok (.aload_n 0, 1) := by decide +kernel
theorem dX8_contest_14 : decode cX8_contest 14 = .ok (.iload_n 2, 1) := by decide +kernel
theorem dX8_contest_15 : decode cX8_contest 15 = .ok (.iconst 0, 1) := by decide +kernel
theorem dX8_contest_16 : decode cX8_contest 16 = .ok (.sipush 255, 3) := by decide +kernel
theorem dX8_contest_19 : decode cX8_contest 19 = .ok (.invokestatic 61, 3) := by decide +kernel
theorem dX8_contest_22 : decode cX8_contest 22 = .ok (.ifCond .ne 7, 3) := by decide +kernel
theorem dX8_contest_25 : decode cX8_contest 25 = .ok (.iconst 1, 1) := by decide +kernel
theorem dX8_contest_26 : decode cX8_contest 26 = .ok (.goto 4, 3) := by decide +kernel
theorem dX8_contest_29 : decode cX8_contest 29 = .ok (.iconst 0, 1) := by decide +kernel
theorem dX8_contest_30 : decode cX8_contest 30 = .ok (.iconst 2, 1) := by decide +kernel
theorem dX8_contest_31 : decode cX8_contest 31 = .ok (.invokevirtual 158, 3) := by decide +kernel
theorem dX8_contest_34 : decode cX8_contest 34 = .ok (.ifCond .eq 5, 3) := by decide +kernel
theorem dX8_contest_37 : decode cX8_contest 37 = .ok (.iconst 0, 1) := by decide +kernel
theorem dX8_contest_38 : decode cX8_contest 38 = .ok (.ireturn, 1) := by decide +kernel
theorem dX8_contest_39 : decode cX8_contest 39 = .ok (.iload_n 1, 1) := by decide +kernel
theorem dX8_contest_40 : decode cX8_contest 40 = .ok (.invokestatic 180, 3) := by decide +kernel
theorem dX8_contest_43 : decode cX8_contest 43 = .ok (.istore_n 3, 1) := by decide +kernel
theorem dX8_contest_44 : decode cX8_contest 44 = .ok (.aload_n 0, 1) := by decide +kernel
theorem dX8_contest_45 : decode cX8_contest 45 = .ok (.aload_n 0, 1) := by decide +kernel
theorem dX8_contest_46 : decode cX8_contest 46 = .ok (.getfield 17, 3) := by decide +kernel
theorem dX8_contest_49 : decode cX8_contest 49 = .ok (.iload_n 3, 1) := by decide +kernel
theorem dX8_contest_50 : decode cX8_contest 50 = .ok (.iconst 5, 1) := by decide +kernel
theorem dX8_contest_51 : decode cX8_contest 51 = .ok (.iadd, 1) := by decide +kernel
theorem dX8_contest_52 : decode cX8_contest 52 = .ok (.iaload, 1) := by decide +kernel
theorem dX8_contest_53 : decode cX8_contest 53 = .ok (.iconst 2, 1) := by decide +kernel
theorem dX8_contest_54 : decode cX8_contest 54 = .ok (.if_icmp .eq 7, 3) := by decide +kernel
theorem dX8_contest_57 : decode cX8_contest 57 = .ok (.iconst 1, 1) := by decide +kernel
theorem dX8_contest_58 : decode cX8_contest 58 = .ok (.goto 4, 3) := by decide +kernel
theorem dX8_contest_61 : decode cX8_contest 61 = .ok (.iconst 0, 1) := by decide +kernel
theorem dX8_contest_62 : decode cX8_contest 62 = .ok (.iconst 3, 1) := by decide +kernel
theorem dX8_contest_63 : decode cX8_contest 63 = .ok (.invokevirtual 158, 3) := by decide +kernel
theorem dX8_contest_66 : decode cX8_contest 66 = .ok (.ifCond .eq 5, 3) := by decide +kernel
theorem dX8_contest_69 : decode cX8_contest 69 = .ok (.iconst 0, 1) := by decide +kernel
theorem dX8_contest_70 : decode cX8_contest 70 = .ok (.ireturn, 1) := by decide +kernel
theorem dX8_contest_71 : decode cX8_contest 71 = .ok (.aload_n 0, 1) := by decide +kernel
theorem dX8_contest_72 : decode cX8_contest 72 = .ok (.invokevirtual 165, 3) := by decide +kernel
theorem dX8_contest_75 : decode cX8_contest 75 = .ok (.aload_n 0, 1) := by decide +kernel
theorem dX8_contest_76 : decode cX8_contest 76 = .ok (.getfield 17, 3) := by decide +kernel
theorem dX8_contest_79 : decode cX8_contest 79 = .ok (.iload_n 3, 1) := by decide +kernel
theorem dX8_contest_80 : decode cX8_contest 80 = .ok (.iconst 4, 1) := by decide +kernel
theorem dX8_contest_81 : decode cX8_contest 81 = .ok (.iadd, 1) := by decide +kernel
theorem dX8_contest_82 : decode cX8_contest 82 = .ok (.dup2, 1) := by decide +kernel
theorem dX8_contest_83 : decode cX8_contest 83 = .ok (.iaload, 1) := by decide +kernel
theorem dX8_contest_84 : decode cX8_contest 84 = .ok (.iload_n 2, 1) := by decide +kernel
theorem dX8_contest_85 : decode cX8_contest 85 = .ok (.ior, 1) := by decide +kernel
theorem dX8_contest_86 : decode cX8_contest 86 = .ok (.iastore, 1) := by decide +kernel
theorem dX8_contest_87 : decode cX8_contest 87 = .ok (.aload_n 0, 1) := by decide +kernel
theorem dX8_contest_88 : decode cX8_contest 88 = .ok (.iload_n 1, 1) := by decide +kernel
theorem dX8_contest_89 : decode cX8_contest 89 = .ok (.iconst 3, 1) := by decide +kernel
theorem dX8_contest_90 : decode cX8_contest 90 = .ok (.bipush 10, 2) := by decide +kernel
theorem dX8_contest_92 : decode cX8_contest 92 = .ok (.invokevirtual 260, 3) := by decide +kernel
theorem dX8_contest_95 : decode cX8_contest 95 = .ok (.aload_n 0, 1) := by decide +kernel
theorem dX8_contest_96 : decode cX8_contest 96 = .ok (.getfield 17, 3) := by decide +kernel
theorem dX8_contest_99 : decode cX8_contest 99 = .ok (.iload_n 3, 1) := by decide +kernel
theorem dX8_contest_100 : decode cX8_contest 100 = .ok (.bipush 6, 2) := by decide +kernel
theorem dX8_contest_102 : decode cX8_contest 102 = .ok (.iadd, 1) := by decide +kernel
theorem dX8_contest_103 : decode cX8_contest 103 = .ok (.iaload, 1) := by decide +kernel
theorem dX8_contest_104 : decode cX8_contest 104 = .ok (.iconst 1, 1) := by decide +kernel
theorem dX8_contest_105 : decode cX8_contest 105 = .ok (.iadd, 1) := by decide +kernel
theorem dX8_contest_106 : decode cX8_contest 106 = .ok (.ireturn, 1) := by decide +kernel
theorem dX8_accept_0 : decode cX8_accept 0 = .ok (.aload_n 0, 1) := by decide +kernel
theorem dX8_accept_1 : decode cX8_accept 1 = .ok (.iconst 0, 1) := by decide +kernel
theorem dX8_accept_2 : decode cX8_accept 2 = .ok (.putfield 39, 3) := by decide +kernel
theorem dX8_accept_5 : decode cX8_accept 5 = .ok (.aload_n 0, 1) := by decide +kernel
theorem dX8_accept_6 : decode cX8_accept 6 = .ok (.iload_n 1, 1) := by decide +kernel
theorem dX8_accept_7 : decode cX8_accept 7 = .ok (.invokevirtual 239, 3) := by decide +kernel
theorem dX8_accept_10 : decode cX8_accept 10 = .ok (.ifCond .eq 5, 3) := by decide +kernel
theorem dX8_accept_13 : decode cX8_accept 13 = .ok (.iconst 0, 1) := by decide +kernel
theorem dX8_accept_14 : decode cX8_accept 14 = .ok (.ireturn, 1) := by decide +kernel
theorem dX8_accept_15 : decode cX8_accept 15 = .ok (.iload_n 1, 1) := by decide +kernel
theorem dX8_accept_16 : decode cX8_accept 16 = .ok (.invokestatic 180, 3) := by decide +kernel
theorem dX8_accept_19 : decode cX8_accept 19 = .ok (.istore_n 2, 1) := by decide +kernel
theorem dX8_accept_20 : decode cX8_accept 20 = .ok (.aload_n 0, 1) := by decide +kernel
theorem dX8_accept_21 : decode cX8_accept 21 = .ok (.aload_n 0, 1) := by decide +kernel
theorem dX8_accept_22 : decode cX8_accept 22 = .ok (.getfield 17, 3) := by decide +kernel
theorem dX8_accept_25 : decode cX8_accept 25 = .ok (.iload_n 2, 1) := by decide +kernel
theorem dX8_accept_26 : decode cX8_accept 26 = .ok (.iconst 5, 1) := by decide +kernel
theorem dX8_accept_27 : decode cX8_accept 27 = .ok (.iadd, 1) := by decide +kernel
theorem dX8_accept_28 : decode cX8_accept 28 = .ok (.iaload, 1) := by decide +kernel
theorem dX8_accept_29 : decode cX8_accept 29 = .ok (.iconst 3, 1) := by decide +kernel
theorem dX8_accept_30 : decode cX8_accept 30 = .ok (.if_icmp .lt 7, 3) := by decide +kernel
theorem dX8_accept_33 : decode cX8_accept 33 = .ok (.iconst 1, 1) := by decide +kernel
theorem dX8_accept_34 : decode cX8_accept 34 = .ok (.goto 4, 3) := by decide +kernel
theorem dX8_accept_37 : decode cX8_accept 37 = .ok (.iconst 0, 1) := by decide +kernel
theorem dX8_accept_38 : decode cX8_accept 38 = .ok (.iconst 2, 1) := by decide +kernel
theorem dX8_accept_39 : decode cX8_accept 39 = .ok (.invokevirtual 158, 3) := by decide +kernel
theorem dX8_accept_42 : decode cX8_accept 42 = .ok (.ifCond .eq 5, 3) := by decide +kernel
theorem dX8_accept_45 : decode cX8_accept 45 = .ok (.iconst 0, 1) := by decide +kernel
theorem dX8_accept_46 : decode cX8_accept 46 = .ok (.ireturn, 1) := by decide +kernel
theorem dX8_accept_47 : decode cX8_accept 47 = .ok (.aload_n 0, 1) := by decide +kernel
theorem dX8_accept_48 : decode cX8_accept 48 = .ok (.invokevirtual 165, 3) := by decide +kernel
theorem dX8_accept_51 : decode cX8_accept 51 = .ok (.aload_n 0, 1) := by decide +kernel
theorem dX8_accept_52 : decode cX8_accept 52 = .ok (.getfield 17, 3) := by decide +kernel
theorem dX8_accept_55 : decode cX8_accept 55 = .ok (.iload_n 1, 1) := by decide +kernel
theorem dX8_accept_56 : decode cX8_accept 56 = .ok (.aload_n 0, 1) := by decide +kernel
theorem dX8_accept_57 : decode cX8_accept 57 = .ok (.getfield 17, 3) := by decide +kernel
theorem dX8_accept_60 : decode cX8_accept 60 = .ok (.iload_n 2, 1) := by decide +kernel
theorem dX8_accept_61 : decode cX8_accept 61 = .ok (.iconst 5, 1) := by decide +kernel
theorem dX8_accept_62 : decode cX8_accept 62 = .ok (.iadd, 1) := by decide +kernel
theorem dX8_accept_63 : decode cX8_accept 63 = .ok (.iaload, 1) := by decide +kernel
theorem dX8_accept_64 : decode cX8_accept 64 = .ok (.iconst 1, 1) := by decide +kernel
theorem dX8_accept_65 : decode cX8_accept 65 = .ok (.if_icmp .ne 7, 3) := by decide +kernel
theorem dX8_accept_68 : decode cX8_accept 68 = .ok (.iconst 1, 1) := by decide +kernel
theorem dX8_accept_69 : decode cX8_accept 69 = .ok (.goto 4, 3) := by decide +kernel
theorem dX8_accept_72 : decode cX8_accept 72 = .ok (.iconst 0, 1) := by decide +kernel
theorem dX8_accept_73 : decode cX8_accept 73 = .ok (.iconst 0, 1) := by decide +kernel
theorem dX8_accept_74 : decode cX8_accept 74 = .ok (.invokestatic 223, 3) := by decide +kernel
theorem dX8_accept_77 : decode cX8_accept 77 = .ok (.aload_n 0, 1) := by decide +kernel
theorem dX8_accept_78 : decode cX8_accept 78 = .ok (.getfield 17, 3) := by decide +kernel
theorem dX8_accept_81 : decode cX8_accept 81 = .ok (.iload_n 2, 1) := by decide +kernel
theorem dX8_accept_82 : decode cX8_accept 82 = .ok (.iconst 5, 1) := by decide +kernel
theorem dX8_accept_83 : decode cX8_accept 83 = .ok (.iadd, 1) := by decide +kernel
theorem dX8_accept_84 : decode cX8_accept 84 = .ok (.iaload, 1) := by decide +kernel
theorem dX8_accept_85 : decode cX8_accept 85 = .ok (.ireturn, 1) := by decide +kernel
theorem dX8_pass_0 : decode cX8_pass 0 = .ok (.aload_n 0, 1) := by decide +kernel
theorem dX8_pass_1 : decode cX8_pass 1 = .ok (.iconst 0, 1) := by decide +kernel
theorem dX8_pass_2 : decode cX8_pass 2 = .ok (.putfield 39, 3) := by decide +kernel
theorem dX8_pass_5 : decode cX8_pass 5 = .ok (.aload_n 0, 1) := by decide +kernel
theorem dX8_pass_6 : decode cX8_pass 6 = .ok (.iload_n 1, 1) := by decide +kernel
theorem dX8_pass_7 : decode cX8_pass 7 = .ok (.iconst 1, 1) := by decide +kernel
theorem dX8_pass_8 : decode cX8_pass 8 = .ok (.bipush 100, 2) := by decide +kernel
theorem dX8_pass_10 : decode cX8_pass 10 = .ok (.invokestatic 61, 3) := by decide +kernel
theorem dX8_pass_13 : decode cX8_pass 13 = .ok (.ifCond .ne 7, 3) := by decide +kernel
theorem dX8_pass_16 : decode cX8_pass 16 = .ok (.iconst 1, 1) := by decide +kernel
theorem dX8_pass_17 : decode cX8_pass 17 = .ok (.goto 4, 3) := by decide +kernel
theorem dX8_pass_20 : decode cX8_pass 20 = .ok (.iconst 0, 1) := by decide +kernel
theorem dX8_pass_21 : decode cX8_pass 21 = .ok (.iconst 1, 1) := by decide +kernel
theorem dX8_pass_22 : decode cX8_pass 22 = .ok (.invokevirtual 158, 3) := by decide +kernel
theorem dX8_pass_25 : decode cX8_pass 25 = .ok (.ifCond .ne 30, 3) := by decide +kernel
theorem dX8_pass_28 : decode cX8_pass 28 = .ok (.aload_n 0, 1) := by decide +kernel
theorem dX8_pass_29 : decode cX8_pass 29 = .ok (.aload_n 0, 1) := by decide +kernel
theorem dX8_pass_30 : decode cX8_pass 30 = .ok (.getfield 17, 3) := by decide +kernel
theorem dX8_pass_33 : decode cX8_pass 33 = .ok (.iconst 5, 1) := by decide +kernel
theorem dX8_pass_34 : decode cX8_pass 34 = .ok (.iaload, 1) := by decide +kernel
theorem dX8_pass_35 : decode cX8_pass 35 = .ok (.iload_n 1, 1) := by decide +kernel
theorem dX8_pass_36 : decode cX8_pass 36 = .ok (.iadd, 1) := by decide +kernel
theorem dX8_pass_37 : decode cX8_pass 37 = .ok (.sipush 9999, 3) := by decide +kernel
theorem dX8_pass_40 : decode cX8_pass 40 = .ok (.if_icmp .le 7, 3) := by decide +kernel
theorem dX8_pass_43 : decode cX8_pass 43 = .ok (.iconst 1, 1) := by decide +kernel
theorem dX8_pass_44 : decode cX8_pass 44 = .ok (.goto 4, 3) := by decide +kernel
theorem dX8_pass_47 : decode cX8_pass 47 = .ok (.iconst 0, 1) := by decide +kernel
theorem dX8_pass_48 : decode cX8_pass 48 = .ok (.iconst 2, 1) := by decide +kernel
theorem dX8_pass_49 : decode cX8_pass 49 = .ok (.invokevirtual 158, 3) := by decide +kernel
theorem dX8_pass_52 : decode cX8_pass 52 = .ok (.ifCond .eq 5, 3) := by decide +kernel
theorem dX8_pass_55 : decode cX8_pass 55 = .ok (.iconst 0, 1) := by decide +kernel
theorem dX8_pass_56 : decode cX8_pass 56 = .ok (.ireturn, 1) := by decide +kernel
theorem dX8_pass_57 : decode cX8_pass 57 = .ok (.aload_n 0, 1) := by decide +kernel
theorem dX8_pass_58 : decode cX8_pass 58 = .ok (.invokevirtual 165, 3) := by decide +kernel
theorem dX8_pass_61 : decode cX8_pass 61 = .ok (.iconst 0, 1) := by decide +kernel
theorem dX8_pass_62 : decode cX8_pass 62 = .ok (.istore_n 2, 1) := by decide +kernel
theorem dX8_pass_63 : decode cX8_pass 63 = .ok (.iconst 0, 1) := by decide +kernel
theorem dX8_pass_64 : decode cX8_pass 64 = .ok (.istore_n 3, 1) := by decide +kernel
theorem dX8_pass_65 : decode cX8_pass 65 = .ok (.iload_n 3, 1) := by decide +kernel
theorem dX8_pass_66 : decode cX8_pass 66 = .ok (.iload_n 1, 1) := by decide +kernel
theorem dX8_pass_67 : decode cX8_pass 67 = .ok (.if_icmp .ge 20, 3) := by decide +kernel
theorem dX8_pass_70 : decode cX8_pass 70 = .ok (.iload_n 2, 1) := by decide +kernel
theorem dX8_pass_71 : decode cX8_pass 71 = .ok (.aload_n 0, 1) := by decide +kernel
theorem dX8_pass_72 : decode cX8_pass 72 = .ok (.aload_n 0, 1) := by decide +kernel
theorem dX8_pass_73 : decode cX8_pass 73 = .ok (.getfield 17, 3) := by decide +kernel
theorem dX8_pass_76 : decode cX8_pass 76 = .ok (.invokevirtual 252, 3) := by decide +kernel
theorem dX8_pass_79 : decode cX8_pass 79 = .ok (.iadd, 1) := by decide +kernel
theorem dX8_pass_80 : decode cX8_pass 80 = .ok (.istore_n 2, 1) := by decide +kernel
theorem dX8_pass_81 : decode cX8_pass 81 = .ok (.iinc 3 1, 3) := by decide +kernel
theorem dX8_pass_84 : decode cX8_pass 84 = .ok (.goto (-19), 3) := by decide +kernel
theorem dX8_pass_87 : decode cX8_pass 87 = .ok (.iload_n 2, 1) := by decide +kernel
theorem dX8_pass_88 : decode cX8_pass 88 = .ok (.ireturn, 1) := by decide +kernel
theorem dX8_undo_0 : decode cX8_undo 0 = .ok (.aload_n 0, 1) := by decide +kernel
theorem dX8_undo_1 : decode cX8_undo 1 = .ok (.iconst 0, 1) := by decide +kernel
theorem dX8_undo_2 : decode cX8_undo 2 = .ok (.putfield 39, 3) := by decide +kernel
theorem dX8_undo_5 : decode cX8_undo 5 = .ok (.aload_n 0, 1) := by decide +kernel
theorem dX8_undo_6 : decode cX8_undo 6 = .ok (.getfield 256, 3) := by decide +kernel
theorem dX8_undo_9 : decode cX8_undo 9 = .ok (.ifCond .ne 5, 3) := by decide +kernel
theorem dX8_undo_12 : decode cX8_undo 12 = .ok (.iconst (-1), 1) := by decide +kernel
theorem dX8_undo_13 : decode cX8_undo 13 = .ok (.ireturn, 1) := by decide +kernel
theorem dX8_undo_14 : decode cX8_undo 14 = .ok (.aload_n 0, 1) := by decide +kernel
theorem dX8_undo_15 : decode cX8_undo 15 = .ok (.dup, 1) := by decide +kernel
theorem dX8_undo_16 : decode cX8_undo 16 = .ok (.getfield 256, 3) := by decide +kernel
theorem dX8_undo_19 : decode cX8_undo 19 = .ok (.iconst 1, 1) := by decide +kernel
theorem dX8_undo_20 : decode cX8_undo 20 = .ok (.isub, 1) := by decide +kernel
theorem dX8_undo_21 : decode cX8_undo 21 = .ok (.putfield 256, 3) := by decide +kernel
theorem dX8_undo_24 : decode cX8_undo 24 = .ok (.aload_n 0, 1) := by decide +kernel
theorem dX8_undo_25 : decode cX8_undo 25 = .ok (.getfield 28, 3) := by decide +kernel
theorem dX8_undo_28 : decode cX8_undo 28 = .ok (.aload_n 0, 1) := by decide +kernel
theorem dX8_undo_29 : decode cX8_undo 29 = .ok (.getfield 256, 3) := by decide +kernel
theorem dX8_undo_32 : decode cX8_undo 32 = .ok (.aaload, 1) := by decide +kernel
theorem dX8_undo_33 : decode cX8_undo 33 = .ok (.aload_n 0, 1) := by decide +kernel
theorem dX8_undo_34 : decode cX8_undo 34 = .ok (.getfield 17, 3) := by decide +kernel
theorem dX8_undo_37 : decode cX8_undo 37 = .ok (.invokestatic 168, 3) := by decide +kernel
theorem dX8_undo_40 : decode cX8_undo 40 = .ok (.aload_n 0, 1) := by decide +kernel
theorem dX8_undo_41 : decode cX8_undo 41 = .ok (.getfield 256, 3) := by decide +kernel
theorem dX8_undo_44 : decode cX8_undo 44 = .ok (.ireturn, 1) := by decide +kernel
theorem dX8_checksum_0 : decode cX8_checksum 0 = .ok (.aload_n 0, 1) := by decide +kernel
theorem dX8_checksum_1 : decode cX8_checksum 1 = .ok (.iconst 0, 1) := by decide +kernel
theorem dX8_checksum_2 : decode cX8_checksum 2 = .ok (.putfield 39, 3) := by decide +kernel
theorem dX8_checksum_5 : decode cX8_checksum 5 = .ok (.aload_n 0, 1) := by decide +kernel
theorem dX8_checksum_6 : decode cX8_checksum 6 = .ok (.getfield 17, 3) := by decide +kernel
theorem dX8_checksum_9 : decode cX8_checksum 9 = .ok (.iconst 5, 1) := by decide +kernel
theorem dX8_checksum_10 : decode cX8_checksum 10 = .ok (.iaload, 1) := by decide +kernel
theorem dX8_checksum_11 : decode cX8_checksum 11 = .ok (.i2l, 1) := by decide +kernel
theorem dX8_checksum_12 : decode cX8_checksum 12 = .ok (.lstore_n 1, 1) := by decide +kernel
theorem dX8_checksum_13 : decode cX8_checksum 13 = .ok (.iconst 0, 1) := by decide +kernel
theorem dX8_checksum_14 : decode cX8_checksum 14 = .ok (.istore_n 3, 1) := by decide +kernel
theorem dX8_checksum_15 : decode cX8_checksum 15 = .ok (.iload_n 3, 1) := by decide +kernel
theorem dX8_checksum_16 : decode cX8_checksum 16 = .ok (.aload_n 0, 1) := by decide +kernel
theorem dX8_checksum_17 : decode cX8_checksum 17 = .ok (.getfield 17, 3) := by decide +kernel
theorem dX8_checksum_20 : decode cX8_checksum 20 = .ok (.iconst 0, 1) := by decide +kernel
theorem dX8_checksum_21 : decode cX8_checksum 21 = .ok (.iaload, 1) := by decide +kernel
theorem dX8_checksum_22 : decode cX8_checksum 22 = .ok (.if_icmp .ge 26, 3) := by decide +kernel
theorem dX8_checksum_25 : decode cX8_checksum 25 = .ok (.ldc2_w 264, 3) := by decide +kernel
theorem dX8_checksum_28 : decode cX8_checksum 28 = .ok (.lload_n 1, 1) := by decide +kernel
theorem dX8_checksum_29 : decode cX8_checksum 29 = .ok (.lmul, 1) := by decide +kernel
theorem dX8_checksum_30 : decode cX8_checksum 30 = .ok (.aload_n 0, 1) := by decide +kernel
theorem dX8_checksum_31 : decode cX8_checksum 31 = .ok (.getfield 17, 3) := by decide +kernel
theorem dX8_checksum_34 : decode cX8_checksum 34 = .ok (.bipush 12, 2) := by decide +kernel
theorem dX8_checksum_36 : decode cX8_checksum 36 = .ok (.iload_n 3, 1) := by decide +kernel
theorem dX8_checksum_37 : decode cX8_checksum 37 = .ok (.iadd, 1) := by decide +kernel
theorem dX8_checksum_38 : decode cX8_checksum 38 = .ok (.iaload, 1) := by decide +kernel
theorem dX8_checksum_39 : decode cX8_checksum 39 = .ok (.i2l, 1) := by decide +kernel
theorem dX8_checksum_40 : decode cX8_checksum 40 = .ok (.ladd, 1) := by decide +kernel
theorem dX8_checksum_41 : decode cX8_checksum 41 = .ok (.lstore_n 1, 1) := by decide +kernel
theorem dX8_checksum_42 : decode cX8_checksum 42 = .ok (.iinc 3 1, 3) := by decide +kernel
theorem dX8_checksum_45 : decode cX8_checksum 45 = .ok (.goto (-30), 3) := by decide +kernel
theorem dX8_checksum_48 : decode cX8_checksum 48 = .ok (.iconst 0, 1) := by decide +kernel
theorem dX8_checksum_49 : decode cX8_checksum 49 = .ok (.istore_n 3, 1) := by decide +kernel
theorem dX8_checksum_50 : decode cX8_checksum 50 = .ok (.iload_n 3, 1) := by decide +kernel
theorem dX8_checksum_51 : decode cX8_checksum 51 = .ok (.aload_n 0, 1) := by decide +kernel
theorem dX8_checksum_52 : decode cX8_checksum 52 = .ok (.getfield 17, 3) := by decide +kernel
theorem dX8_checksum_55 : decode cX8_checksum 55 = .ok (.iconst 1, 1) := by decide +kernel
theorem dX8_checksum_56 : decode cX8_checksum 56 = .ok (.iaload, 1) := by decide +kernel
theorem dX8_checksum_57 : decode cX8_checksum 57 = .ok (.if_icmp .ge 26, 3) := by decide +kernel
theorem dX8_checksum_60 : decode cX8_checksum 60 = .ok (.ldc2_w 264, 3) := by decide +kernel
theorem dX8_checksum_63 : decode cX8_checksum 63 = .ok (.lload_n 1, 1) := by decide +kernel
theorem dX8_checksum_64 : decode cX8_checksum 64 = .ok (.lmul, 1) := by decide +kernel
theorem dX8_checksum_65 : decode cX8_checksum 65 = .ok (.aload_n 0, 1) := by decide +kernel
theorem dX8_checksum_66 : decode cX8_checksum 66 = .ok (.getfield 17, 3) := by decide +kernel
theorem dX8_checksum_69 : decode cX8_checksum 69 = .ok (.bipush 16, 2) := by decide +kernel
theorem dX8_checksum_71 : decode cX8_checksum 71 = .ok (.iload_n 3, 1) := by decide +kernel
theorem dX8_checksum_72 : decode cX8_checksum 72 = .ok (.iadd, 1) := by decide +kernel
theorem dX8_checksum_73 : decode cX8_checksum 73 = .ok (.iaload, 1) := by decide +kernel
theorem dX8_checksum_74 : decode cX8_checksum 74 = .ok (.i2l, 1) := by decide +kernel
theorem dX8_checksum_75 : decode cX8_checksum 75 = .ok (.ladd, 1) := by decide +kernel
theorem dX8_checksum_76 : decode cX8_checksum 76 = .ok (.lstore_n 1, 1) := by decide +kernel
theorem dX8_checksum_77 : decode cX8_checksum 77 = .ok (.iinc 3 1, 3) := by decide +kernel
theorem dX8_checksum_80 : decode cX8_checksum 80 = .ok (.goto (-30), 3) := by decide +kernel
theorem dX8_checksum_83 : decode cX8_checksum 83 = .ok (.ldc2_w 264, 3) := by decide +kernel
theorem dX8_checksum_86 : decode cX8_checksum 86 = .ok (.lload_n 1, 1) := by decide +kernel
theorem dX8_checksum_87 : decode cX8_checksum 87 = .ok (.lmul, 1) := by decide +kernel
theorem dX8_checksum_88 : decode cX8_checksum 88 = .ok (.aload_n 0, 1) := by decide +kernel
theorem dX8_checksum_89 : decode cX8_checksum 89 = .ok (.getfield 17, 3) := by decide +kernel
theorem dX8_checksum_92 : decode cX8_checksum 92 = .ok (.bipush 11, 2) := by decide +kernel
theorem dX8_checksum_94 : decode cX8_checksum 94 = .ok (.iaload, 1) := by decide +kernel
theorem dX8_checksum_95 : decode cX8_checksum 95 = .ok (.i2l, 1) := by decide +kernel
theorem dX8_checksum_96 : decode cX8_checksum 96 = .ok (.ladd, 1) := by decide +kernel
theorem dX8_checksum_97 : decode cX8_checksum 97 = .ok (.lstore_n 1, 1) := by decide +kernel
theorem dX8_checksum_98 : decode cX8_checksum 98 = .ok (.iconst 0, 1) := by decide +kernel
theorem dX8_checksum_99 : decode cX8_checksum 99 = .ok (.istore_n 3, 1) := by decide +kernel
theorem dX8_checksum_100 : decode cX8_checksum 100 = .ok (.iload_n 3, 1) := by decide +kernel
theorem dX8_checksum_101 : decode cX8_checksum 101 = .ok (.aload_n 0, 1) := by decide +kernel
theorem dX8_checksum_102 : decode cX8_checksum 102 = .ok (.getfield 17, 3) := by decide +kernel
theorem dX8_checksum_105 : decode cX8_checksum 105 = .ok (.iconst 3, 1) := by decide +kernel
theorem dX8_checksum_106 : decode cX8_checksum 106 = .ok (.iaload, 1) := by decide +kernel
theorem dX8_checksum_107 : decode cX8_checksum 107 = .ok (.if_icmp .ge 22, 3) := by decide +kernel
theorem dX8_checksum_110 : decode cX8_checksum 110 = .ok (.ldc2_w 264, 3) := by decide +kernel
theorem dX8_checksum_113 : decode cX8_checksum 113 = .ok (.lload_n 1, 1) := by decide +kernel
theorem dX8_checksum_114 : decode cX8_checksum 114 = .ok (.lmul, 1) := by decide +kernel
theorem dX8_checksum_115 : decode cX8_checksum 115 = .ok (.aload_n 0, 1) := by decide +kernel
theorem dX8_checksum_116 : decode cX8_checksum 116 = .ok (.iload_n 3, 1) := by decide +kernel
theorem dX8_checksum_117 : decode cX8_checksum 117 = .ok (.invokevirtual 236, 3) := by decide +kernel
theorem dX8_checksum_120 : decode cX8_checksum 120 = .ok (.i2l, 1) := by decide +kernel
theorem dX8_checksum_121 : decode cX8_checksum 121 = .ok (.ladd, 1) := by decide +kernel
theorem dX8_checksum_122 : decode cX8_checksum 122 = .ok (.lstore_n 1, 1) := by decide +kernel
theorem dX8_checksum_123 : decode cX8_checksum 123 = .ok (.iinc 3 1, 3) := by decide +kernel
theorem dX8_checksum_126 : decode cX8_checksum 126 = .ok (.goto (-26), 3) := by decide +kernel
theorem dX8_checksum_129 : decode cX8_checksum 129 = .ok (.iconst 0, 1) := by decide +kernel
theorem dX8_checksum_130 : decode cX8_checksum 130 = .ok (.istore_n 3, 1) := by decide +kernel
theorem dX8_checksum_131 : decode cX8_checksum 131 = .ok (.iload_n 3, 1) := by decide +kernel
theorem dX8_checksum_132 : decode cX8_checksum 132 = .ok (.aload_n 0, 1) := by decide +kernel
theorem dX8_checksum_133 : decode cX8_checksum 133 = .ok (.getfield 17, 3) := by decide +kernel
theorem dX8_checksum_136 : decode cX8_checksum 136 = .ok (.iconst 4, 1) := by decide +kernel
theorem dX8_checksum_137 : decode cX8_checksum 137 = .ok (.iaload, 1) := by decide +kernel
theorem dX8_checksum_138 : decode cX8_checksum 138 = .ok (.if_icmp .ge 67, 3) := by decide +kernel
theorem dX8_checksum_141 : decode cX8_checksum 141 = .ok (.ldc2_w 264, 3) := by decide +kernel
theorem dX8_checksum_144 : decode cX8_checksum 144 = .ok (.lload_n 1, 1) := by decide +kernel
theorem dX8_checksum_145 : decode cX8_checksum 145 = .ok (.lmul, 1) := by decide +kernel
theorem dX8_checksum_146 : decode cX8_checksum 146 = .ok (.aload_n 0, 1) := by decide +kernel
theorem dX8_checksum_147 : decode cX8_checksum 147 = .ok (.getfield 17, 3) := by decide +kernel
theorem dX8_checksum_150 : decode cX8_checksum 150 = .ok (.iload_n 3, 1) := by decide +kernel
theorem dX8_checksum_151 : decode cX8_checksum 151 = .ok (.invokestatic 180, 3) := by decide +kernel
theorem dX8_checksum_154 : decode cX8_checksum 154 = .ok (.iconst 5, 1) := by decide +kernel
theorem dX8_checksum_155 : decode cX8_checksum 155 = .ok (.iadd, 1) := by decide +kernel
theorem dX8_checksum_156 : decode cX8_checksum 156 = .ok (.iaload, 1) := by decide +kernel
theorem dX8_checksum_157 : decode cX8_checksum 157 = .ok (.i2l, 1) := by decide +kernel
theorem dX8_checksum_158 : decode cX8_checksum 158 = .ok (.ladd, 1) := by decide +kernel
theorem dX8_checksum_159 : decode cX8_checksum 159 = .ok (.lstore_n 1, 1) := by decide +kernel
theorem dX8_checksum_160 : decode cX8_checksum 160 = .ok (.ldc2_w 264, 3) := by decide +kernel
theorem dX8_checksum_163 : decode cX8_checksum 163 = .ok (.lload_n 1, 1) := by decide +kernel
theorem dX8_checksum_164 : decode cX8_checksum 164 = .ok (.lmul, 1) := by decide +kernel
theorem dX8_checksum_165 : decode cX8_checksum 165 = .ok (.aload_n 0, 1) := by decide +kernel
theorem dX8_checksum_166 : decode cX8_checksum 166 = .ok (.getfield 17, 3) := by decide +kernel
theorem dX8_checksum_169 : decode cX8_checksum 169 = .ok (.iload_n 3, 1) := by decide +kernel
theorem dX8_checksum_170 : decode cX8_checksum 170 = .ok (.invokestatic 180, 3) := by decide +kernel
theorem dX8_checksum_173 : decode cX8_checksum 173 = .ok (.bipush 6, 2) := by decide +kernel
theorem dX8_checksum_175 : decode cX8_checksum 175 = .ok (.iadd, 1) := by decide +kernel
theorem dX8_checksum_176 : decode cX8_checksum 176 = .ok (.iaload, 1) := by decide +kernel
theorem dX8_checksum_177 : decode cX8_checksum 177 = .ok (.i2l, 1) := by decide +kernel
theorem dX8_checksum_178 : decode cX8_checksum 178 = .ok (.ladd, 1) := by decide +kernel
theorem dX8_checksum_179 : decode cX8_checksum 179 = .ok (.lstore_n 1, 1) := by decide +kernel
theorem dX8_checksum_180 : decode cX8_checksum 180 = .ok (.ldc2_w 264, 3) := by decide +kernel
theorem dX8_checksum_183 : decode cX8_checksum 183 = .ok (.lload_n 1, 1) := by decide +kernel
theorem dX8_checksum_184 : decode cX8_checksum 184 = .ok (.lmul, 1) := by decide +kernel
theorem dX8_checksum_185 : decode cX8_checksum 185 = .ok (.aload_n 0, 1) := by decide +kernel
theorem dX8_checksum_186 : decode cX8_checksum 186 = .ok (.getfield 17, 3) := by decide +kernel
theorem dX8_checksum_189 : decode cX8_checksum 189 = .ok (.iload_n 3, 1) := by decide +kernel
theorem dX8_checksum_190 : decode cX8_checksum 190 = .ok (.invokestatic 180, 3) := by decide +kernel
theorem dX8_checksum_193 : decode cX8_checksum 193 = .ok (.iconst 4, 1) := by decide +kernel
theorem dX8_checksum_194 : decode cX8_checksum 194 = .ok (.iadd, 1) := by decide +kernel
theorem dX8_checksum_195 : decode cX8_checksum 195 = .ok (.iaload, 1) := by decide +kernel
theorem dX8_checksum_196 : decode cX8_checksum 196 = .ok (.i2l, 1) := by decide +kernel
theorem dX8_checksum_197 : decode cX8_checksum 197 = .ok (.ladd, 1) := by decide +kernel
theorem dX8_checksum_198 : decode cX8_checksum 198 = .ok (.lstore_n 1, 1) := by decide +kernel
theorem dX8_checksum_199 : decode cX8_checksum 199 = .ok (.iinc 3 1, 3) := by decide +kernel
theorem dX8_checksum_202 : decode cX8_checksum 202 = .ok (.goto (-71), 3) := by decide +kernel
theorem dX8_checksum_205 : decode cX8_checksum 205 = .ok (.lload_n 1, 1) := by decide +kernel
theorem dX8_checksum_206 : decode cX8_checksum 206 = .ok (.lreturn, 1) := by decide +kernel
