theorem dX3_init_0 : decode cX3_init 0 = .ok (.aload_n 0, 1) := by decide +kernel
theorem dX3_init_1 : decode cX3_init 1 = .ok (.invokespecial 1, 3) := by decide +kernel
theorem dX3_init_4 : decode cX3_init 4 = .ok (.aload_n 0, 1) := by decide +kernel
theorem dX3_init_5 : decode cX3_init 5 = .ok (.sipush 900, 3) := by decide +kernel
theorem dX3_init_8 : decode cX3_init 8 = .ok (.newarray .byte, 2) := by decide +kernel
theorem dX3_init_10 : decode cX3_init 10 = .ok (.putfield 9, 3) := by decide +kernel
theorem dX3_init_13 : decode cX3_init 13 = .ok (.return_, 1) := by decide +kernel
theorem dX3_hasRoom_0 : decode cX3_hasRoom 0 = .ok (.aload_n 0, 1) := by decide +kernel
theorem dX3_hasRoom_1 : decode cX3_hasRoom 1 = .ok (.getfield 13, 3) := by decide +kernel
theorem dX3_hasRoom_4 : decode cX3_hasRoom 4 = .ok (.bipush 20, 2) := by decide +kernel
theorem dX3_hasRoom_6 : decode cX3_hasRoom 6 = .ok (.iadd, 1) := by decide +kernel
theorem dX3_hasRoom_7 : decode cX3_hasRoom 7 = .ok (.sipush 900, 3) := by decide +kernel
theorem dX3_hasRoom_10 : decode cX3_hasRoom 10 = .ok (.if_icmp .gt 7, 3) := by decide +kernel
theorem dX3_hasRoom_13 : decode cX3_hasRoom 13 = .ok (.iconst 1, 1) := by decide +kernel
theorem dX3_hasRoom_14 : decode cX3_hasRoom 14 = .ok (.goto 4, 3) := by decide +kernel
theorem dX3_hasRoom_17 : decode cX3_hasRoom 17 = .ok (.iconst 0, 1) := by decide +kernel
theorem dX3_hasRoom_18 : decode cX3_hasRoom 18 = .ok (.ireturn, 1) := by decide +kernel
theorem dX3_addWord_0 : decode cX3_addWord 0 = .ok (.bipush 24, 2) := by decide +kernel
theorem dX3_addWord_2 : decode cX3_addWord 2 = .ok (.istore_n 2, 1) := by decide +kernel
theorem dX3_addWord_3 : decode cX3_addWord 3 = .ok (.iload_n 2, 1) := by decide +kernel
theorem dX3_addWord_4 : decode cX3_addWord 4 = .ok (.ifCond .lt 42, 3) := by decide +kernel
theorem dX3_addWord_7 : decode cX3_addWord 7 = .ok (.aload_n 0, 1) := by decide +kernel
theorem dX3_addWord_8 : decode cX3_addWord 8 = .ok (.getfield 13, 3) := by decide +kernel
theorem dX3_addWord_11 : decode cX3_addWord 11 = .ok (.sipush 900, 3) := by decide +kernel
theorem dX3_addWord_14 : decode cX3_addWord 14 = .ok (.if_icmp .ge 26, 3) := by decide +kernel
theorem dX3_addWord_17 : decode cX3_addWord 17 = .ok (.aload_n 0, 1) := by decide +kernel
theorem dX3_addWord_18 : decode cX3_addWord 18 = .ok (.getfield 9, 3) := by decide +kernel
theorem dX3_addWord_21 : decode cX3_addWord 21 = .ok (.aload_n 0, 1) := by decide +kernel
theorem dX3_addWord_22 : decode cX3_addWord 22 = .ok (.getfield 13, 3) := by decide +kernel
theorem dX3_addWord_25 : decode cX3_addWord 25 = .ok (.iload_n 1, 1) := by decide +kernel
theorem dX3_addWord_26 : decode cX3_addWord 26 = .ok (.iload_n 2, 1) := by decide +kernel
theorem dX3_addWord_27 : decode cX3_addWord 27 = .ok (.ishr, 1) := by decide +kernel
theorem dX3_addWord_28 : decode cX3_addWord 28 = .ok (.i2b, 1) := by decide +kernel
theorem dX3_addWord_29 : decode cX3_addWord 29 = .ok (.bastore, 1) := by decide +kernel
theorem dX3_addWord_30 : decode cX3_addWord 30 = .ok (.aload_n 0, 1) := by decide +kernel
theorem dX3_addWord_31 : decode cX3_addWord 31 = .ok (.dup, 1) := by decide +kernel
theorem dX3_addWord_32 : decode cX3_addWord 32 = .ok (.getfield 13, 3) := by decide +kernel
theorem dX3_addWord_35 : decode cX3_addWord 35 = .ok (.iconst 1, 1) := by decide +kernel
theorem dX3_addWord_36 : decode cX3_addWord 36 = .ok (.iadd, 1) := by decide +kernel
theorem dX3_addWord_37 : decode cX3_addWord 37 = .ok (.putfield 13, 3) := by decide +kernel
theorem dX3_addWord_40 : decode cX3_addWord 40 = .ok (.iinc 2 (-8), 3) := by decide +kernel
theorem dX3_addWord_43 : decode cX3_addWord 43 = .ok (.goto (-40), 3) := by decide +kernel
theorem dX3_addWord_46 : decode cX3_addWord 46 = .ok (.return_, 1) := by decide +kernel
theorem dX3_clear_0 : decode cX3_clear 0 = .ok (.aload_n 0, 1) := by decide +kernel
theorem dX3_clear_1 : decode cX3_clear 1 = .ok (.iconst 0, 1) := by decide +kernel
theorem dX3_clear_2 : decode cX3_clear 2 = .ok (.putfield 13, 3) := by decide +kernel
theorem dX3_clear_5 : decode cX3_clear 5 = .ok (.return_, 1) := by decide +kernel
