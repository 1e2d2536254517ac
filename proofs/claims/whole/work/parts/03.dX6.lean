theorem dX6_init_0 : decode cX6_init 0 = .ok (.aload_n 0, 1) := by decide +kernel
theorem dX6_init_1 : decode cX6_init 1 = .ok (.invokespecial 1, 3) := by decide +kernel
theorem dX6_init_4 : decode cX6_init 4 = .ok (.aload_n 0, 1) := by decide +kernel
theorem dX6_init_5 : decode cX6_init 5 = .ok (.aload_n 1, 1) := by decide +kernel
theorem dX6_init_6 : decode cX6_init 6 = .ok (.putfield 7, 3) := by decide +kernel
theorem dX6_init_9 : decode cX6_init 9 = .ok (.aload_n 0, 1) := by decide +kernel
theorem dX6_init_10 : decode cX6_init 10 = .ok (.iconst 0, 1) := by decide +kernel
theorem dX6_init_11 : decode cX6_init 11 = .ok (.iload_n 2, 1) := by decide +kernel
theorem dX6_init_12 : decode cX6_init 12 = .ok (.aload_n 1, 1) := by decide +kernel
theorem dX6_init_13 : decode cX6_init 13 = .ok (.arraylength, 1) := by decide +kernel
theorem dX6_init_14 : decode cX6_init 14 = .ok (.invokestatic 13, 3) := by decide +kernel
theorem dX6_init_17 : decode cX6_init 17 = .ok (.invokestatic 19, 3) := by decide +kernel
theorem dX6_init_20 : decode cX6_init 20 = .ok (.putfield 22, 3) := by decide +kernel
theorem dX6_init_23 : decode cX6_init 23 = .ok (.aload_n 0, 1) := by decide +kernel
theorem dX6_init_24 : decode cX6_init 24 = .ok (.aload_n 0, 1) := by decide +kernel
theorem dX6_init_25 : decode cX6_init 25 = .ok (.getfield 22, 3) := by decide +kernel
theorem dX6_init_28 : decode cX6_init 28 = .ok (.iconst 1, 1) := by decide +kernel
theorem dX6_init_29 : decode cX6_init 29 = .ok (.iadd, 1) := by decide +kernel
theorem dX6_init_30 : decode cX6_init 30 = .ok (.newarray .int, 2) := by decide +kernel
theorem dX6_init_32 : decode cX6_init 32 = .ok (.putfield 26, 3) := by decide +kernel
theorem dX6_init_35 : decode cX6_init 35 = .ok (.aload_n 0, 1) := by decide +kernel
theorem dX6_init_36 : decode cX6_init 36 = .ok (.aload_n 0, 1) := by decide +kernel
theorem dX6_init_37 : decode cX6_init 37 = .ok (.getfield 22, 3) := by decide +kernel
theorem dX6_init_40 : decode cX6_init 40 = .ok (.iconst 1, 1) := by decide +kernel
theorem dX6_init_41 : decode cX6_init 41 = .ok (.iadd, 1) := by decide +kernel
theorem dX6_init_42 : decode cX6_init 42 = .ok (.newarray .int, 2) := by decide +kernel
theorem dX6_init_44 : decode cX6_init 44 = .ok (.putfield 30, 3) := by decide +kernel
theorem dX6_init_47 : decode cX6_init 47 = .ok (.aload_n 0, 1) := by decide +kernel
theorem dX6_init_48 : decode cX6_init 48 = .ok (.aload_n 0, 1) := by decide +kernel
theorem dX6_init_49 : decode cX6_init 49 = .ok (.getfield 22, 3) := by decide +kernel
theorem dX6_init_52 : decode cX6_init 52 = .ok (.iconst 1, 1) := by decide +kernel
theorem dX6_init_53 : decode cX6_init 53 = .ok (.iadd, 1) := by decide +kernel
theorem dX6_init_54 : decode cX6_init 54 = .ok (.newarray .int, 2) := by decide +kernel
theorem dX6_init_56 : decode cX6_init 56 = .ok (.putfield 33, 3) := by decide +kernel
theorem dX6_init_59 : decode cX6_init 59 = .ok (.return_, 1) := by decide +kernel
theorem dX6_cut_0 : decode cX6_cut 0 = .ok (.iconst 0, 1) := by decide +kernel
theorem dX6_cut_1 : decode cX6_cut 1 = .ok (.istore_n 1, 1) := by decide +kernel
theorem dX6_cut_2 : decode cX6_cut 2 = .ok (.iconst 0, 1) := by decide +kernel
theorem dX6_cut_3 : decode cX6_cut 3 = .ok (.istore_n 2, 1) := by decide +kernel
theorem dX6_cut_4 : decode cX6_cut 4 = .ok (.iload_n 2, 1) := by decide +kernel
theorem dX6_cut_5 : decode cX6_cut 5 = .ok (.aload_n 0, 1) := by decide +kernel
theorem dX6_cut_6 : decode cX6_cut 6 = .ok (.getfield 22, 3) := by decide +kernel
theorem dX6_cut_9 : decode cX6_cut 9 = .ok (.if_icmp .ge 109, 3) := by decide +kernel
theorem dX6_cut_12 : decode cX6_cut 12 = .ok (.aload_n 0, 1) := by decide +kernel
theorem dX6_cut_13 : decode cX6_cut 13 = .ok (.getfield 7, 3) := by decide +kernel
theorem dX6_cut_16 : decode cX6_cut 16 = .ok (.iload_n 2, 1) := by decide +kernel
theorem dX6_cut_17 : decode cX6_cut 17 = .ok (.baload, 1) := by decide +kernel
theorem dX6_cut_18 : decode cX6_cut 18 = .ok (.invokestatic 36, 3) := by decide +kernel
theorem dX6_cut_21 : decode cX6_cut 21 = .ok (.ifCond .eq 26, 3) := by decide +kernel
theorem dX6_cut_24 : decode cX6_cut 24 = .ok (.aload_n 0, 1) := by decide +kernel
theorem dX6_cut_25 : decode cX6_cut 25 = .ok (.iload_n 2, 1) := by decide +kernel
theorem dX6_cut_26 : decode cX6_cut 26 = .ok (.invokevirtual 40, 3) := by decide +kernel
theorem dX6_cut_29 : decode cX6_cut 29 = .ok (.istore_n 1, 1) := by decide +kernel
theorem dX6_cut_30 : decode cX6_cut 30 = .ok (.aload_n 0, 1) := by decide +kernel
theorem dX6_cut_31 : decode cX6_cut 31 = .ok (.sipush 256, 3) := by decide +kernel
theorem dX6_cut_34 : decode cX6_cut 34 = .ok (.iload_n 2, 1) := by decide +kernel
theorem dX6_cut_35 : decode cX6_cut 35 = .ok (.aload_n 0, 1) := by decide +kernel
theorem dX6_cut_36 : decode cX6_cut 36 = .ok (.iload_n 2, 1) := by decide +kernel
theorem dX6_cut_37 : decode cX6_cut 37 = .ok (.iload_n 1, 1) := by decide +kernel
theorem dX6_cut_38 : decode cX6_cut 38 = .ok (.invokevirtual 44, 3) := by decide +kernel
theorem dX6_cut_41 : decode cX6_cut 41 = .ok (.invokevirtual 47, 3) := by decide +kernel
theorem dX6_cut_44 : decode cX6_cut 44 = .ok (.goto 63, 3) := by decide +kernel
theorem dX6_cut_47 : decode cX6_cut 47 = .ok (.aload_n 0, 1) := by decide +kernel
theorem dX6_cut_48 : decode cX6_cut 48 = .ok (.getfield 7, 3) := by decide +kernel
theorem dX6_cut_51 : decode cX6_cut 51 = .ok (.iload_n 2, 1) := by decide +kernel
theorem dX6_cut_52 : decode cX6_cut 52 = .ok (.baload, 1) := by decide +kernel
theorem dX6_cut_53 : decode cX6_cut 53 = .ok (.invokestatic 51, 3) := by decide +kernel
theorem dX6_cut_56 : decode cX6_cut 56 = .ok (.ifCond .eq 24, 3) := by decide +kernel
theorem dX6_cut_59 : decode cX6_cut 59 = .ok (.aload_n 0, 1) := by decide +kernel
theorem dX6_cut_60 : decode cX6_cut 60 = .ok (.iload_n 2, 1) := by decide +kernel
theorem dX6_cut_61 : decode cX6_cut 61 = .ok (.invokevirtual 54, 3) := by decide +kernel
theorem dX6_cut_64 : decode cX6_cut 64 = .ok (.istore_n 1, 1) := by decide +kernel
theorem dX6_cut_65 : decode cX6_cut 65 = .ok (.aload_n 0, 1) := by decide +kernel
theorem dX6_cut_66 : decode cX6_cut 66 = .ok (.aload_n 0, 1) := by decide +kernel
theorem dX6_cut_67 : decode cX6_cut 67 = .ok (.iload_n 2, 1) := by decide +kernel
theorem dX6_cut_68 : decode cX6_cut 68 = .ok (.iload_n 1, 1) := by decide +kernel
theorem dX6_cut_69 : decode cX6_cut 69 = .ok (.invokevirtual 57, 3) := by decide +kernel
theorem dX6_cut_72 : decode cX6_cut 72 = .ok (.iload_n 2, 1) := by decide +kernel
theorem dX6_cut_73 : decode cX6_cut 73 = .ok (.iconst 0, 1) := by decide +kernel
theorem dX6_cut_74 : decode cX6_cut 74 = .ok (.invokevirtual 47, 3) := by decide +kernel
theorem dX6_cut_77 : decode cX6_cut 77 = .ok (.goto 30, 3) := by decide +kernel
theorem dX6_cut_80 : decode cX6_cut 80 = .ok (.aload_n 0, 1) := by decide +kernel
theorem dX6_cut_81 : decode cX6_cut 81 = .ok (.getfield 7, 3) := by decide +kernel
theorem dX6_cut_84 : decode cX6_cut 84 = .ok (.iload_n 2, 1) := by decide +kernel
theorem dX6_cut_85 : decode cX6_cut 85 = .ok (.baload, 1) := by decide +kernel
theorem dX6_cut_86 : decode cX6_cut 86 = .ok (.bipush 32, 2) := by decide +kernel
theorem dX6_cut_88 : decode cX6_cut 88 = .ok (.if_icmp .eq 19, 3) := by decide +kernel
theorem dX6_cut_91 : decode cX6_cut 91 = .ok (.aload_n 0, 1) := by decide +kernel
theorem dX6_cut_92 : decode cX6_cut 92 = .ok (.aload_n 0, 1) := by decide +kernel
theorem dX6_cut_93 : decode cX6_cut 93 = .ok (.getfield 7, 3) := by decide +kernel
theorem dX6_cut_96 : decode cX6_cut 96 = .ok (.iload_n 2, 1) := by decide +kernel
theorem dX6_cut_97 : decode cX6_cut 97 = .ok (.baload, 1) := by decide +kernel
theorem dX6_cut_98 : decode cX6_cut 98 = .ok (.sipush 255, 3) := by decide +kernel
theorem dX6_cut_101 : decode cX6_cut 101 = .ok (.iand, 1) := by decide +kernel
theorem dX6_cut_102 : decode cX6_cut 102 = .ok (.iload_n 2, 1) := by decide +kernel
theorem dX6_cut_103 : decode cX6_cut 103 = .ok (.iconst 0, 1) := by decide +kernel
theorem dX6_cut_104 : decode cX6_cut 104 = .ok (.invokevirtual 47, 3) := by decide +kernel
theorem dX6_cut_107 : decode cX6_cut 107 = .ok (.iload_n 2, 1) := by decide +kernel
theorem dX6_cut_108 : decode cX6_cut 108 = .ok (.iconst 1, 1) := by decide +kernel
theorem dX6_cut_109 : decode cX6_cut 109 = .ok (.iadd, 1) := by decide +kernel
theorem dX6_cut_110 : decode cX6_cut 110 = .ok (.iload_n 1, 1) := by decide +kernel
theorem dX6_cut_111 : decode cX6_cut 111 = .ok (.invokestatic 19, 3) := by decide +kernel
theorem dX6_cut_114 : decode cX6_cut 114 = .ok (.istore_n 2, 1) := by decide +kernel
theorem dX6_cut_115 : decode cX6_cut 115 = .ok (.goto (-111), 3) := by decide +kernel
theorem dX6_cut_118 : decode cX6_cut 118 = .ok (.aload_n 0, 1) := by decide +kernel
theorem dX6_cut_119 : decode cX6_cut 119 = .ok (.iconst (-1), 1) := by decide +kernel
theorem dX6_cut_120 : decode cX6_cut 120 = .ok (.aload_n 0, 1) := by decide +kernel
theorem dX6_cut_121 : decode cX6_cut 121 = .ok (.getfield 22, 3) := by decide +kernel
theorem dX6_cut_124 : decode cX6_cut 124 = .ok (.iconst 0, 1) := by decide +kernel
theorem dX6_cut_125 : decode cX6_cut 125 = .ok (.invokevirtual 47, 3) := by decide +kernel
theorem dX6_cut_128 : decode cX6_cut 128 = .ok (.return_, 1) := by decide +kernel
theorem dX6_add_0 : decode cX6_add 0 = .ok (.aload_n 0, 1) := by decide +kernel
theorem dX6_add_1 : decode cX6_add 1 = .ok (.getfield 60, 3) := by decide +kernel
theorem dX6_add_4 : decode cX6_add 4 = .ok (.aload_n 0, 1) := by decide +kernel
theorem dX6_add_5 : decode cX6_add 5 = .ok (.getfield 26, 3) := by decide +kernel
theorem dX6_add_8 : decode cX6_add 8 = .ok (.arraylength, 1) := by decide +kernel
theorem dX6_add_9 : decode cX6_add 9 = .ok (.if_icmp .ge 43, 3) := by decide +kernel
theorem dX6_add_12 : decode cX6_add 12 = .ok (.aload_n 0, 1) := by decide +kernel
theorem dX6_add_13 : decode cX6_add 13 = .ok (.getfield 26, 3) := by decide +kernel
theorem dX6_add_16 : decode cX6_add 16 = .ok (.aload_n 0, 1) := by decide +kernel
theorem dX6_add_17 : decode cX6_add 17 = .ok (.getfield 60, 3) := by decide +kernel
theorem dX6_add_20 : decode cX6_add 20 = .ok (.iload_n 1, 1) := by decide +kernel
theorem dX6_add_21 : decode cX6_add 21 = .ok (.iastore, 1) := by decide +kernel
theorem dX6_add_22 : decode cX6_add 22 = .ok (.aload_n 0, 1) := by decide +kernel
theorem dX6_add_23 : decode cX6_add 23 = .ok (.getfield 30, 3) := by decide +kernel
theorem dX6_add_26 : decode cX6_add 26 = .ok (.aload_n 0, 1) := by decide +kernel
theorem dX6_add_27 : decode cX6_add 27 = .ok (.getfield 60, 3) := by decide +kernel
theorem dX6_add_30 : decode cX6_add 30 = .ok (.iload_n 2, 1) := by decide +kernel
theorem dX6_add_31 : decode cX6_add 31 = .ok (.iastore, 1) := by decide +kernel
theorem dX6_add_32 : decode cX6_add 32 = .ok (.aload_n 0, 1) := by decide +kernel
theorem dX6_add_33 : decode cX6_add 33 = .ok (.getfield 33, 3) := by decide +kernel
theorem dX6_add_36 : decode cX6_add 36 = .ok (.aload_n 0, 1) := by decide +kernel
theorem dX6_add_37 : decode cX6_add 37 = .ok (.getfield 60, 3) := by decide +kernel
theorem dX6_add_40 : decode cX6_add 40 = .ok (.iload_n 3, 1) := by decide +kernel
theorem dX6_add_41 : decode cX6_add 41 = .ok (.iastore, 1) := by decide +kernel
theorem dX6_add_42 : decode cX6_add 42 = .ok (.aload_n 0, 1) := by decide +kernel
theorem dX6_add_43 : decode cX6_add 43 = .ok (.dup, 1) := by decide +kernel
theorem dX6_add_44 : decode cX6_add 44 = .ok (.getfield 60, 3) := by decide +kernel
theorem dX6_add_47 : decode cX6_add 47 = .ok (.iconst 1, 1) := by decide +kernel
theorem dX6_add_48 : decode cX6_add 48 = .ok (.iadd, 1) := by decide +kernel
theorem dX6_add_49 : decode cX6_add 49 = .ok (.putfield 60, 3) := by decide +kernel
theorem dX6_add_52 : decode cX6_add 52 = .ok (.return_, 1) := by decide +kernel
theorem dX6_endOfDigits_0 : decode cX6_endOfDigits 0 = .ok (.iload_n 1, 1) := by decide +kernel
theorem dX6_endOfDigits_1 : decode cX6_endOfDigits 1 = .ok (.istore_n 2, 1) := by decide +kernel
theorem dX6_endOfDigits_2 : decode cX6_endOfDigits 2 = .ok (.iload_n 2, 1) := by decide +kernel
theorem dX6_endOfDigits_3 : decode cX6_endOfDigits 3 = .ok (.aload_n 0, 1) := by decide +kernel
theorem dX6_endOfDigits_4 : decode cX6_endOfDigits 4 = .ok (.getfield 22, 3) := by decide +kernel
theorem dX6_endOfDigits_7 : decode cX6_endOfDigits 7 = .ok (.if_icmp .ge 21, 3) := by decide +kernel
theorem dX6_endOfDigits_10 : decode cX6_endOfDigits 10 = .ok (.aload_n 0, 1) := by decide +kernel
theorem dX6_endOfDigits_11 : decode cX6_endOfDigits 11 = .ok (.getfield 7, 3) := by decide +kernel
theorem dX6_endOfDigits_14 : decode cX6_endOfDigits 14 = .ok (.iload_n 2, 1) := by decide +kernel
theorem dX6_endOfDigits_15 : decode cX6_endOfDigits 15 = .ok (.baload, 1) := by decide +kernel
theorem dX6_endOfDigits_16 : decode cX6_endOfDigits 16 = .ok (.invokestatic 36, 3) := by decide +kernel
theorem dX6_endOfDigits_19 : decode cX6_endOfDigits 19 = .ok (.ifCond .eq 9, 3) := by decide +kernel
theorem dX6_endOfDigits_22 : decode cX6_endOfDigits 22 = .ok (.iinc 2 1, 3) := by decide +kernel
theorem dX6_endOfDigits_25 : decode cX6_endOfDigits 25 = .ok (.goto (-23), 3) := by decide +kernel
theorem dX6_endOfDigits_28 : decode cX6_endOfDigits 28 = .ok (.iload_n 2, 1) := by decide +kernel
theorem dX6_endOfDigits_29 : decode cX6_endOfDigits 29 = .ok (.ireturn, 1) := by decide +kernel
theorem dX6_endOfLetters_0 : decode cX6_endOfLetters 0 = .ok (.iload_n 1, 1) := by decide +kernel
theorem dX6_endOfLetters_1 : decode cX6_endOfLetters 1 = .ok (.istore_n 2, 1) := by decide +kernel
theorem dX6_endOfLetters_2 : decode cX6_endOfLetters 2 = .ok (.iload_n 2, 1) := by decide +kernel
theorem dX6_endOfLetters_3 : decode cX6_endOfLetters 3 = .ok (.aload_n 0, 1) := by decide +kernel
theorem dX6_endOfLetters_4 : decode cX6_endOfLetters 4 = .ok (.getfield 22, 3) := by decide +kernel
theorem dX6_endOfLetters_7 : decode cX6_endOfLetters 7 = .ok (.if_icmp .ge 21, 3) := by decide +kernel
theorem dX6_endOfLetters_10 : decode cX6_endOfLetters 10 = .ok (.aload_n 0, 1) := by decide +kernel
theorem dX6_endOfLetters_11 : decode cX6_endOfLetters 11 = .ok (.getfield 7, 3) := by decide +kernel
theorem dX6_endOfLetters_14 : decode cX6_endOfLetters 14 = .ok (.iload_n 2, 1) := by decide +kernel
theorem dX6_endOfLetters_15 : decode cX6_endOfLetters 15 = .ok (.baload, 1) := by decide +kernel
theorem dX6_endOfLetters_16 : decode cX6_endOfLetters 16 = .ok (.invokestatic 51, 3) := by decide +kernel
theorem dX6_endOfLetters_19 : decode cX6_endOfLetters 19 = .ok (.ifCond .eq 9, 3) := by decide +kernel
theorem dX6_endOfLetters_22 : decode cX6_endOfLetters 22 = .ok (.iinc 2 1, 3) := by decide +kernel
theorem dX6_endOfLetters_25 : decode cX6_endOfLetters 25 = .ok (.goto (-23), 3) := by decide +kernel
theorem dX6_endOfLetters_28 : decode cX6_endOfLetters 28 = .ok (.iload_n 2, 1) := by decide +kernel
theorem dX6_endOfLetters_29 : decode cX6_endOfLetters 29 = .ok (.ireturn, 1) := by decide +kernel
theorem dX6_valueOfDigits_0 : decode cX6_valueOfDigits 0 = .ok (.iconst 0, 1) := by decide +kernel
theorem dX6_valueOfDigits_1 : decode cX6_valueOfDigits 1 = .ok (.istore_n 3, 1) := by decide +kernel
theorem dX6_valueOfDigits_2 : decode cX6_valueOfDigits 2 = .ok (.iload_n 1, 1) := by decide +kernel
theorem dX6_valueOfDigits_3 : decode cX6_valueOfDigits 3 = .ok (.istore 4, 2) := by decide +kernel
theorem dX6_valueOfDigits_5 : decode cX6_valueOfDigits 5 = .ok (.iload 4, 2) := by decide +kernel
theorem dX6_valueOfDigits_7 : decode cX6_valueOfDigits 7 = .ok (.iload_n 2, 1) := by decide +kernel
theorem dX6_valueOfDigits_8 : decode cX6_valueOfDigits 8 = .ok (.if_icmp .ge 31, 3) := by decide +kernel
theorem dX6_valueOfDigits_11 : decode cX6_valueOfDigits 11 = .ok (.iload_n 3, 1) := by decide +kernel
theorem dX6_valueOfDigits_12 : decode cX6_valueOfDigits 12 = .ok (.ldc 63, 2) := by decide +kernel
theorem dX6_valueOfDigits_14 : decode cX6_valueOfDigits 14 = .ok (.if_icmp .ge 19, 3) := by decide +kernel
theorem dX6_valueOfDigits_17 : decode cX6_valueOfDigits 17 = .ok (.bipush 10, 2) := by decide +kernel
theorem dX6_valueOfDigits_19 : decode cX6_valueOfDigits 19 = .ok (.iload_n 3, 1) := by decide +kernel
theorem dX6_valueOfDigits_20 : decode cX6_valueOfDigits 20 = .ok (.imul, 1) := by decide +kernel
theorem dX6_valueOfDigits_21 : decode cX6_valueOfDigits 21 = .ok (.aload_n 0, 1) := by decide +kernel
theorem dX6_valueOfDigits_22 : decode cX6_valueOfDigits 22 = .ok (.getfield 7, 3) := by decide +kernel
theorem dX6_valueOfDigits_25 : decode cX6_valueOfDigits 25 = .ok (.iload 4, 2) := by decide +kernel
theorem dX6_valueOfDigits_27 : decode cX6_valueOfDigits 27 = .ok (.baload, 1) := by decide +kernel
theorem dX6_valueOfDigits_28 : decode cX6_valueOfDigits 28 = .ok (.bipush 48, 2) := by decide +kernel
theorem dX6_valueOfDigits_30 : decode cX6_valueOfDigits 30 = .ok (.isub, 1) := by decide +kernel
theorem dX6_valueOfDigits_31 : decode cX6_valueOfDigits 31 = .ok (.iadd, 1) := by decide +kernel
theorem dX6_valueOfDigits_32 : decode cX6_valueOfDigits 32 = .ok (.istore_n 3, 1) := by decide +kernel
theorem dX6_valueOfDigits_33 : decode cX6_valueOfDigits 33 = .ok (.iinc 4 1, 3) := by decide +kernel
theorem dX6_valueOfDigits_36 : decode cX6_valueOfDigits 36 = .ok (.goto (-31), 3) := by decide +kernel
theorem dX6_valueOfDigits_39 : decode cX6_valueOfDigits 39 = .ok (.iload_n 3, 1) := by decide +kernel
theorem dX6_valueOfDigits_40 : decode cX6_valueOfDigits 40 = .ok (.ireturn, 1) := by decide +kernel
theorem dX6_kindOfWord_0 : decode cX6_kindOfWord 0 = .ok (.aload_n 0, 1) := by decide +kernel
theorem dX6_kindOfWord_1 : decode cX6_kindOfWord 1 = .ok (.ldc 64, 2) := by decide +kernel
theorem dX6_kindOfWord_3 : decode cX6_kindOfWord 3 = .ok (.iload_n 1, 1) := by decide +kernel
theorem dX6_kindOfWord_4 : decode cX6_kindOfWord 4 = .ok (.iload_n 2, 1) := by decide +kernel
theorem dX6_kindOfWord_5 : decode cX6_kindOfWord 5 = .ok (.invokevirtual 66, 3) := by decide +kernel
theorem dX6_kindOfWord_8 : decode cX6_kindOfWord 8 = .ok (.ifCond .eq 7, 3) := by decide +kernel
theorem dX6_kindOfWord_11 : decode cX6_kindOfWord 11 = .ok (.sipush 257, 3) := by decide +kernel
theorem dX6_kindOfWord_14 : decode cX6_kindOfWord 14 = .ok (.ireturn, 1) := by decide +kernel
theorem dX6_kindOfWord_15 : decode cX6_kindOfWord 15 = .ok (.aload_n 0, 1) := by decide +kernel
theorem dX6_kindOfWord_16 : decode cX6_kindOfWord 16 = .ok (.ldc 70, 2) := by decide +kernel
theorem dX6_kindOfWord_18 : decode cX6_kindOfWord 18 = .ok (.iload_n 1, 1) := by decide +kernel
theorem dX6_kindOfWord_19 : decode cX6_kindOfWord 19 = .ok (.iload_n 2, 1) := by decide +kernel
theorem dX6_kindOfWord_20 : decode cX6_kindOfWord 20 = .ok (.invokevirtual 66, 3) := by decide +kernel
theorem dX6_kindOfWord_23 : decode cX6_kindOfWord 23 = .ok (.ifCond .eq 7, 3) := by decide +kernel
theorem dX6_kindOfWord_26 : decode cX6_kindOfWord 26 = .ok (.sipush 258, 3) := by decide +kernel
theorem dX6_kindOfWord_29 : decode cX6_kindOfWord 29 = .ok (.ireturn, 1) := by decide +kernel
theorem dX6_kindOfWord_30 : decode cX6_kindOfWord 30 = .ok (.aload_n 0, 1) := by decide +kernel
theorem dX6_kindOfWord_31 : decode cX6_kindOfWord 31 = .ok (.ldc 72, 2) := by decide +kernel
theorem dX6_kindOfWord_33 : decode cX6_kindOfWord 33 = .ok (.iload_n 1, 1) := by decide +kernel
theorem dX6_kindOfWord_34 : decode cX6_kindOfWord 34 = .ok (.iload_n 2, 1) := by decide +kernel
theorem dX6_kindOfWord_35 : decode cX6_kindOfWord 35 = .ok (.invokevirtual 66, 3) := by decide +kernel
theorem dX6_kindOfWord_38 : decode cX6_kindOfWord 38 = .ok (.ifCond .eq 7, 3) := by decide +kernel
theorem dX6_kindOfWord_41 : decode cX6_kindOfWord 41 = .ok (.sipush 259, 3) := by decide +kernel
theorem dX6_kindOfWord_44 : decode cX6_kindOfWord 44 = .ok (.ireturn, 1) := by decide +kernel
theorem dX6_kindOfWord_45 : decode cX6_kindOfWord 45 = .ok (.aload_n 0, 1) := by decide +kernel
theorem dX6_kindOfWord_46 : decode cX6_kindOfWord 46 = .ok (.ldc 74, 2) := by decide +kernel
theorem dX6_kindOfWord_48 : decode cX6_kindOfWord 48 = .ok (.iload_n 1, 1) := by decide +kernel
theorem dX6_kindOfWord_49 : decode cX6_kindOfWord 49 = .ok (.iload_n 2, 1) := by decide +kernel
theorem dX6_kindOfWord_50 : decode cX6_kindOfWord 50 = .ok (.invokevirtual 66, 3) := by decide +kernel
theorem dX6_kindOfWord_53 : decode cX6_kindOfWord 53 = .ok (.ifCond .eq 7, 3) := by decide +kernel
theorem dX6_kindOfWord_56 : decode cX6_kindOfWord 56 = .ok (.sipush 260, 3) := by decide +kernel
theorem dX6_kindOfWord_59 : decode cX6_kindOfWord 59 = .ok (.ireturn, 1) := by decide +kernel
theorem dX6_kindOfWord_60 : decode cX6_kindOfWord 60 = .ok (.aload_n 0, 1) := by decide +kernel
theorem dX6_kindOfWord_61 : decode cX6_kindOfWord 61 = .ok (.ldc 76, 2) := by decide +kernel
theorem dX6_kindOfWord_63 : decode cX6_kindOfWord 63 = .ok (.iload_n 1, 1) := by decide +kernel
theorem dX6_kindOfWord_64 : decode cX6_kindOfWord 64 = .ok (.iload_n 2, 1) := by decide +kernel
theorem dX6_kindOfWord_65 : decode cX6_kindOfWord 65 = .ok (.invokevirtual 66, 3) := by decide +kernel
theorem dX6_kindOfWord_68 : decode cX6_kindOfWord 68 = .ok (.ifCond .eq 7, 3) := by decide +kernel
theorem dX6_kindOfWord_71 : decode cX6_kindOfWord 71 = .ok (.sipush 261, 3) := by decide +kernel
theorem dX6_kindOfWord_74 : decode cX6_kindOfWord 74 = .ok (.ireturn, 1) := by decide +kernel
theorem dX6_kindOfWord_75 : decode cX6_kindOfWord 75 = .ok (.aload_n 0, 1) := by decide +kernel
theorem dX6_kindOfWord_76 : decode cX6_kindOfWord 76 = .ok (.ldc 78, 2) := by decide +kernel
theorem dX6_kindOfWord_78 : decode cX6_kindOfWord 78 = .ok (.iload_n 1, 1) := by decide +kernel
theorem dX6_kindOfWord_79 : decode cX6_kindOfWord 79 = .ok (.iload_n 2, 1) := by decide +kernel
theorem dX6_kindOfWord_80 : decode cX6_kindOfWord 80 = .ok (.invokevirtual 66, 3) := by decide +kernel
theorem dX6_kindOfWord_83 : decode cX6_kindOfWord 83 = .ok (.ifCond .eq 7, 3) := by decide +kernel
theorem dX6_kindOfWord_86 : decode cX6_kindOfWord 86 = .ok (.sipush 262, 3) := by decide +kernel
theorem dX6_kindOfWord_89 : decode cX6_kindOfWord 89 = .ok (.ireturn, 1) := by decide +kernel
theorem dX6_kindOfWord_90 : decode cX6_kindOfWord 90 = .ok (.aload_n 0, 1) := by decide +kernel
theorem dX6_kindOfWord_91 : decode cX6_kindOfWord 91 = .ok (.ldc 80, 2) := by decide +kernel
theorem dX6_kindOfWord_93 : decode cX6_kindOfWord 93 = .ok (.iload_n 1, 1) := by decide +kernel
theorem dX6_kindOfWord_94 : decode cX6_kindOfWord 94 = .ok (.iload_n 2, 1) := by decide +kernel
theorem dX6_kindOfWord_95 : decode cX6_kindOfWord 95 = .ok (.invokevirtual 66, 3) := by decide +kernel
theorem dX6_kindOfWord_98 : decode cX6_kindOfWord 98 = .ok (.ifCond .eq 7, 3) := by decide +kernel
theorem dX6_kindOfWord_101 : decode cX6_kindOfWord 101 = .ok (.sipush 263, 3) := by decide +kernel
theorem dX6_kindOfWord_104 : decode cX6_kindOfWord 104 = .ok (.ireturn, 1) := by decide +kernel
theorem dX6_kindOfWord_105 : decode cX6_kindOfWord 105 = .ok (.aload_n 0, 1) := by decide +kernel
theorem dX6_kindOfWord_106 : decode cX6_kindOfWord 106 = .ok (.ldc 81, 2) := by decide +kernel
theorem dX6_kindOfWord_108 : decode cX6_kindOfWord 108 = .ok (.iload_n 1, 1) := by decide +kernel
theorem dX6_kindOfWord_109 : decode cX6_kindOfWord 109 = .ok (.iload_n 2, 1) := by decide +kernel
theorem dX6_kindOfWord_110 : decode cX6_kindOfWord 110 = .ok (.invokevirtual 66, 3) := by decide +kernel
theorem dX6_kindOfWord_113 : decode cX6_kindOfWord 113 = .ok (.ifCond .eq 7, 3) := by decide +kernel
theorem dX6_kindOfWord_116 : decode cX6_kindOfWord 116 = .ok (.sipush 264, 3) := by decide +kernel
theorem dX6_kindOfWord_119 : decode cX6_kindOfWord 119 = .ok (.ireturn, 1) := by decide +kernel
theorem dX6_kindOfWord_120 : decode cX6_kindOfWord 120 = .ok (.aload_n 0, 1) := by decide +kernel
theorem dX6_kindOfWord_121 : decode cX6_kindOfWord 121 = .ok (.ldc 83, 2) := by decide +kernel
theorem dX6_kindOfWord_123 : decode cX6_kindOfWord 123 = .ok (.iload_n 1, 1) := by decide +kernel
theorem dX6_kindOfWord_124 : decode cX6_kindOfWord 124 = .ok (.iload_n 2, 1) := by decide +kernel
theorem dX6_kindOfWord_125 : decode cX6_kindOfWord 125 = .ok (.invokevirtual 66, 3) := by decide +kernel
theorem dX6_kindOfWord_128 : decode cX6_kindOfWord 128 = .ok (.ifCond .eq 7, 3) := by decide +kernel
theorem dX6_kindOfWord_131 : decode cX6_kindOfWord 131 = .ok (.sipush 265, 3) := by decide +kernel
theorem dX6_kindOfWord_134 : decode cX6_kindOfWord 134 = .ok (.ireturn, 1) := by decide +kernel
theorem dX6_kindOfWord_135 : decode cX6_kindOfWord 135 = .ok (.aload_n 0, 1) := by decide +kernel
theorem dX6_kindOfWord_136 : decode cX6_kindOfWord 136 = .ok (.ldc 85, 2) := by decide +kernel
theorem dX6_kindOfWord_138 : decode cX6_kindOfWord 138 = .ok (.iload_n 1, 1) := by decide +kernel
theorem dX6_kindOfWord_139 : decode cX6_kindOfWord 139 = .ok (.iload_n 2, 1) := by decide +kernel
theorem dX6_kindOfWord_140 : decode cX6_kindOfWord 140 = .ok (.invokevirtual 66, 3) := by decide +kernel
theorem dX6_kindOfWord_143 : decode cX6_kindOfWord 143 = .ok (.ifCond .eq 9, 3) := by decide +kernel
theorem dX6_kindOfWord_146 : decode cX6_kindOfWord 146 = .ok (.sipush 266, 3) := by decide +kernel
theorem dX6_kindOfWord_149 : decode cX6_kindOfWord 149 = .ok (.goto 6, 3) := by decide +kernel
theorem dX6_kindOfWord_152 : decode cX6_kindOfWord 152 = .ok (.sipush 267, 3) := by decide +kernel
theorem dX6_kindOfWord_155 : decode cX6_kindOfWord 155 = .ok (.ireturn, 1) := by decide +kernel
theorem dX6_isWord_0 : decode cX6_isWord 0 = .ok (.aload_n 1, 1) := by decide +kernel
theorem dX6_isWord_1 : decode cX6_isWord 1 = .ok (.invokevirtual 87, 3) := by decide +kernel
theorem dX6_isWord_4 : decode cX6_isWord 4 = .ok (.iload_n 3, 1) := by decide +kernel
theorem dX6_isWord_5 : decode cX6_isWord 5 = .ok (.iload_n 2, 1) := by decide +kernel
theorem dX6_isWord_6 : decode cX6_isWord 6 = .ok (.isub, 1) := by decide +kernel
theorem dX6_isWord_7 : decode cX6_isWord 7 = .ok (.if_icmp .eq 5, 3) := by decide +kernel
theorem dX6_isWord_10 : decode cX6_isWord 10 = .ok (.iconst 0, 1) := by decide +kernel
theorem dX6_isWord_11 : decode cX6_isWord 11 = .ok (.ireturn, 1) := by decide +kernel
theorem dX6_isWord_12 : decode cX6_isWord 12 = .ok (.iconst 0, 1) := by decide +kernel
theorem dX6_isWord_13 : decode cX6_isWord 13 = .ok (.istore 4, 2) := by decide +kernel
theorem dX6_isWord_15 : decode cX6_isWord 15 = .ok (.iload 4, 2) := by decide +kernel
theorem dX6_isWord_17 : decode cX6_isWord 17 = .ok (.aload_n 1, 1) := by decide +kernel
theorem dX6_isWord_18 : decode cX6_isWord 18 = .ok (.invokevirtual 87, 3) := by decide +kernel
theorem dX6_isWord_21 : decode cX6_isWord 21 = .ok (.if_icmp .ge 29, 3) := by decide +kernel
theorem dX6_isWord_24 : decode cX6_isWord 24 = .ok (.aload_n 0, 1) := by decide +kernel
theorem dX6_isWord_25 : decode cX6_isWord 25 = .ok (.getfield 7, 3) := by decide +kernel
theorem dX6_isWord_28 : decode cX6_isWord 28 = .ok (.iload_n 2, 1) := by decide +kernel
theorem dX6_isWord_29 : decode cX6_isWord 29 = .ok (.iload 4, 2) := by decide +kernel
theorem dX6_isWord_31 : decode cX6_isWord 31 = .ok (.iadd, 1) := by decide +kernel
theorem dX6_isWord_32 : decode cX6_isWord 32 = .ok (.baload, 1) := by decide +kernel
theorem dX6_isWord_33 : decode cX6_isWord 33 = .ok (.aload_n 1, 1) := by decide +kernel
theorem dX6_isWord_34 : decode cX6_isWord 34 = .ok (.iload 4, 2) := by decide +kernel
theorem dX6_isWord_36 : decode cX6_isWord 36 = .ok (.invokevirtual 92, 3) := by decide +kernel
theorem dX6_isWord_39 : decode cX6_isWord 39 = .ok (.if_icmp .eq 5, 3) := by decide +kernel
theorem dX6_isWord_42 : decode cX6_isWord 42 = .ok (.iconst 0, 1) := by decide +kernel
theorem dX6_isWord_43 : decode cX6_isWord 43 = .ok (.ireturn, 1) := by decide +kernel
theorem dX6_isWord_44 : decode cX6_isWord 44 = .ok (.iinc 4 1, 3) := by decide +kernel
theorem dX6_isWord_47 : decode cX6_isWord 47 = .ok (.goto (-32), 3) := by decide +kernel
theorem dX6_isWord_50 : decode cX6_isWord 50 = .ok (.iconst 1, 1) := by decide +kernel
theorem dX6_isWord_51 : decode cX6_isWord 51 = .ok (.ireturn, 1) := by decide +kernel
theorem dX6_isDigit_0 : decode cX6_isDigit 0 = .ok (.iload_n 0, 1) := by decide +kernel
theorem dX6_isDigit_1 : decode cX6_isDigit 1 = .ok (.bipush 48, 2) := by decide +kernel
theorem dX6_isDigit_3 : decode cX6_isDigit 3 = .ok (.if_icmp .lt 13, 3) := by decide +kernel
theorem dX6_isDigit_6 : decode cX6_isDigit 6 = .ok (.iload_n 0, 1) := by decide +kernel
theorem dX6_isDigit_7 : decode cX6_isDigit 7 = .ok (.bipush 57, 2) := by decide +kernel
theorem dX6_isDigit_9 : decode cX6_isDigit 9 = .ok (.if_icmp .gt 7, 3) := by decide +kernel
theorem dX6_isDigit_12 : decode cX6_isDigit 12 = .ok (.iconst 1, 1) := by decide +kernel
theorem dX6_isDigit_13 : decode cX6_isDigit 13 = .ok (.goto 4, 3) := by decide +kernel
theorem dX6_isDigit_16 : decode cX6_isDigit 16 = .ok (.iconst 0, 1) := by decide +kernel
theorem dX6_isDigit_17 : decode cX6_isDigit 17 = .ok (.ireturn, 1) := by decide +kernel
theorem dX6_isLetter_0 : decode cX6_isLetter 0 = .ok (.iload_n 0, 1) := by decide +kernel
theorem dX6_isLetter_1 : decode cX6_isLetter 1 = .ok (.bipush 97, 2) := by decide +kernel
theorem dX6_isLetter_3 : decode cX6_isLetter 3 = .ok (.if_icmp .lt 13, 3) := by decide +kernel
theorem dX6_isLetter_6 : decode cX6_isLetter 6 = .ok (.iload_n 0, 1) := by decide +kernel
theorem dX6_isLetter_7 : decode cX6_isLetter 7 = .ok (.bipush 122, 2) := by decide +kernel
theorem dX6_isLetter_9 : decode cX6_isLetter 9 = .ok (.if_icmp .gt 7, 3) := by decide +kernel
theorem dX6_isLetter_12 : decode cX6_isLetter 12 = .ok (.iconst 1, 1) := by decide +kernel
theorem dX6_isLetter_13 : decode cX6_isLetter 13 = .ok (.goto 4, 3) := by decide +kernel
theorem dX6_isLetter_16 : decode cX6_isLetter 16 = .ok (.iconst 0, 1) := by decide +kernel
theorem dX6_isLetter_17 : decode cX6_isLetter 17 = .ok (.ireturn, 1) := by decide +kernel
