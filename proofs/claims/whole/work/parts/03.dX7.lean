theorem dX7_init_0 : decode cX7_init 0 = .ok (.aload_n 0, 1) := by decide +kernel
theorem dX7_init_1 : decode cX7_init 1 = .ok (.invokespecial 1, 3) := by decide +kernel
theorem dX7_init_4 : decode cX7_init 4 = .ok (.aload_n 0, 1) := by decide +kernel
theorem dX7_init_5 : decode cX7_init 5 = .ok (.new 7, 3) := by decide +kernel
theorem dX7_init_8 : decode cX7_init 8 = .ok (.dup, 1) := by decide +kernel
theorem dX7_init_9 : decode cX7_init 9 = .ok (.invokespecial 9, 3) := by decide +kernel
theorem dX7_init_12 : decode cX7_init 12 = .ok (.putfield 10, 3) := by decide +kernel
theorem dX7_init_15 : decode cX7_init 15 = .ok (.aload_n 0, 1) := by decide +kernel
theorem dX7_init_16 : decode cX7_init 16 = .ok (.new 16, 3) := by decide +kernel
theorem dX7_init_19 : decode cX7_init 19 = .ok (.dup, 1) := by decide +kernel
theorem dX7_init_20 : decode cX7_init 20 = .ok (.new 18, 3) := by decide +kernel
theorem dX7_init_23 : decode cX7_init 23 = .ok (.dup, 1) := by decide +kernel
theorem dX7_init_24 : decode cX7_init 24 = .ok (.invokespecial 20, 3) := by decide +kernel
theorem dX7_init_27 : decode cX7_init 27 = .ok (.invokespecial 21, 3) := by decide +kernel
theorem dX7_init_30 : decode cX7_init 30 = .ok (.putfield 24, 3) := by decide +kernel
theorem dX7_init_33 : decode cX7_init 33 = .ok (.aload_n 0, 1) := by decide +kernel
theorem dX7_init_34 : decode cX7_init 34 = .ok (.iconst (-1), 1) := by decide +kernel
theorem dX7_init_35 : decode cX7_init 35 = .ok (.putfield 28, 3) := by decide +kernel
theorem dX7_init_38 : decode cX7_init 38 = .ok (.return_, 1) := by decide +kernel
theorem dX7_append_0 : decode cX7_append 0 = .ok (.aload_n 0, 1) := by decide +kernel
theorem dX7_append_1 : decode cX7_append 1 = .ok (.getfield 10, 3) := by decide +kernel
theorem dX7_append_4 : decode cX7_append 4 = .ok (.invokevirtual 32, 3) := by decide +kernel
theorem dX7_append_7 : decode cX7_append 7 = .ok (.ifCond .ne 5, 3) := by decide +kernel
theorem dX7_append_10 : decode cX7_append 10 = .ok (.iconst (-1), 1) := by decide +kernel
theorem dX7_append_11 : decode cX7_append 11 = .ok (.ireturn, 1) := by decide +kernel
theorem dX7_append_12 : decode cX7_append 12 = .ok (.aload_n 0, 1) := by decide +kernel
theorem dX7_append_13 : decode cX7_append 13 = .ok (.getfield 10, 3) := by decide +kernel
theorem dX7_append_16 : decode cX7_append 16 = .ok (.iload_n 1, 1) := by decide +kernel
theorem dX7_append_17 : decode cX7_append 17 = .ok (.invokevirtual 36, 3) := by decide +kernel
theorem dX7_append_20 : decode cX7_append 20 = .ok (.aload_n 0, 1) := by decide +kernel
theorem dX7_append_21 : decode cX7_append 21 = .ok (.getfield 10, 3) := by decide +kernel
theorem dX7_append_24 : decode cX7_append 24 = .ok (.iload_n 2, 1) := by decide +kernel
theorem dX7_append_25 : decode cX7_append 25 = .ok (.invokevirtual 36, 3) := by decide +kernel
theorem dX7_append_28 : decode cX7_append 28 = .ok (.aload_n 0, 1) := by decide +kernel
theorem dX7_append_29 : decode cX7_append 29 = .ok (.getfield 10, 3) := by decide +kernel
theorem dX7_append_32 : decode cX7_append 32 = .ok (.iload_n 3, 1) := by decide +kernel
theorem dX7_append_33 : decode cX7_append 33 = .ok (.invokevirtual 36, 3) := by decide +kernel
theorem dX7_append_36 : decode cX7_append 36 = .ok (.aload_n 0, 1) := by decide +kernel
theorem dX7_append_37 : decode cX7_append 37 = .ok (.getfield 10, 3) := by decide +kernel
theorem dX7_append_40 : decode cX7_append 40 = .ok (.iload 4, 2) := by decide +kernel
theorem dX7_append_42 : decode cX7_append 42 = .ok (.invokevirtual 36, 3) := by decide +kernel
theorem dX7_append_45 : decode cX7_append 45 = .ok (.aload_n 0, 1) := by decide +kernel
theorem dX7_append_46 : decode cX7_append 46 = .ok (.getfield 10, 3) := by decide +kernel
theorem dX7_append_49 : decode cX7_append 49 = .ok (.iload 5, 2) := by decide +kernel
theorem dX7_append_51 : decode cX7_append 51 = .ok (.invokevirtual 36, 3) := by decide +kernel
theorem dX7_append_54 : decode cX7_append 54 = .ok (.aload_n 0, 1) := by decide +kernel
theorem dX7_append_55 : decode cX7_append 55 = .ok (.getfield 10, 3) := by decide +kernel
theorem dX7_append_58 : decode cX7_append 58 = .ok (.getfield 40, 3) := by decide +kernel
theorem dX7_append_61 : decode cX7_append 61 = .ok (.ireturn, 1) := by decide +kernel
theorem dX7_load_0 : decode cX7_load 0 = .ok (.iload_n 1, 1) := by decide +kernel
theorem dX7_load_1 : decode cX7_load 1 = .ok (.ifCond .lt 14, 3) := by decide +kernel
theorem dX7_load_4 : decode cX7_load 4 = .ok (.iload_n 1, 1) := by decide +kernel
theorem dX7_load_5 : decode cX7_load 5 = .ok (.aload_n 0, 1) := by decide +kernel
theorem dX7_load_6 : decode cX7_load 6 = .ok (.getfield 10, 3) := by decide +kernel
theorem dX7_load_9 : decode cX7_load 9 = .ok (.getfield 40, 3) := by decide +kernel
theorem dX7_load_12 : decode cX7_load 12 = .ok (.if_icmp .le 13, 3) := by decide +kernel
theorem dX7_load_15 : decode cX7_load 15 = .ok (.new 43, 3) := by decide +kernel
theorem dX7_load_18 : decode cX7_load 18 = .ok (.dup, 1) := by decide +kernel
theorem dX7_load_19 : decode cX7_load 19 = .ok (.ldc 45, 2) := by decide +kernel
theorem dX7_load_21 : decode cX7_load 21 = .ok (.invokespecial 47, 3) := by decide +kernel
theorem dX7_load_24 : decode cX7_load 24 = .ok (.athrow, 1) := by decide +kernel
theorem dX7_load_25 : decode cX7_load 25 = .ok (.new 50, 3) := by decide +kernel
theorem dX7_load_28 : decode cX7_load 28 = .ok (.dup, 1) := by decide +kernel
theorem dX7_load_29 : decode cX7_load 29 = .ok (.new 52, 3) := by decide +kernel
theorem dX7_load_32 : decode cX7_load 32 = .ok (.dup, 1) := by decide +kernel
theorem dX7_load_33 : decode cX7_load 33 = .ok (.aload_n 0, 1) := by decide +kernel
theorem dX7_load_34 : decode cX7_load 34 = .ok (.getfield 10, 3) := by decide +kernel
theorem dX7_load_37 : decode cX7_load 37 = .ok (.getfield 54, 3) := by decide +kernel
theorem dX7_load_40 : decode cX7_load 40 = .ok (.iload_n 1, 1) := by decide +kernel
theorem dX7_load_41 : decode cX7_load 41 = .ok (.invokespecial 58, 3) := by decide +kernel
theorem dX7_load_44 : decode cX7_load 44 = .ok (.invokespecial 61, 3) := by decide +kernel
theorem dX7_load_47 : decode cX7_load 47 = .ok (.astore_n 2, 1) := by decide +kernel
theorem dX7_load_48 : decode cX7_load 48 = .ok (.aload_n 2, 1) := by decide +kernel
theorem dX7_load_49 : decode cX7_load 49 = .ok (.invokevirtual 64, 3) := by decide +kernel
theorem dX7_load_52 : decode cX7_load 52 = .ok (.aload_n 0, 1) := by decide +kernel
theorem dX7_load_53 : decode cX7_load 53 = .ok (.getfield 10, 3) := by decide +kernel
theorem dX7_load_56 : decode cX7_load 56 = .ok (.invokevirtual 67, 3) := by decide +kernel
theorem dX7_load_59 : decode cX7_load 59 = .ok (.aload_n 2, 1) := by decide +kernel
theorem dX7_load_60 : decode cX7_load 60 = .ok (.getfield 70, 3) := by decide +kernel
theorem dX7_load_63 : decode cX7_load 63 = .ok (.ifCond .eq 16, 3) := by decide +kernel
theorem dX7_load_66 : decode cX7_load 66 = .ok (.aload_n 0, 1) := by decide +kernel
theorem dX7_load_67 : decode cX7_load 67 = .ok (.aload_n 2, 1) := by decide +kernel
theorem dX7_load_68 : decode cX7_load 68 = .ok (.getfield 73, 3) := by decide +kernel
theorem dX7_load_71 : decode cX7_load 71 = .ok (.putfield 28, 3) := by decide +kernel
theorem dX7_load_74 : decode cX7_load 74 = .ok (.aload_n 2, 1) := by decide +kernel
theorem dX7_load_75 : decode cX7_load 75 = .ok (.getfield 70, 3) := by decide +kernel
theorem dX7_load_78 : decode cX7_load 78 = .ok (.ireturn, 1) := by decide +kernel
theorem dX7_load_79 : decode cX7_load 79 = .ok (.aload_n 0, 1) := by decide +kernel
theorem dX7_load_80 : decode cX7_load 80 = .ok (.iconst (-1), 1) := by decide +kernel
theorem dX7_load_81 : decode cX7_load 81 = .ok (.putfield 28, 3) := by decide +kernel
theorem dX7_load_84 : decode cX7_load 84 = .ok (.aload_n 0, 1) := by decide +kernel
theorem dX7_load_85 : decode cX7_load 85 = .ok (.getfield 24, 3) := by decide +kernel
theorem dX7_load_88 : decode cX7_load 88 = .ok (.invokevirtual 74, 3) := by decide +kernel
theorem dX7_load_91 : decode cX7_load 91 = .ok (.aload_n 2, 1) := by decide +kernel
theorem dX7_load_92 : decode cX7_load 92 = .ok (.getfield 78, 3) := by decide +kernel
theorem dX7_load_95 : decode cX7_load 95 = .ok (.invokevirtual 82, 3) := by decide +kernel
theorem dX7_load_98 : decode cX7_load 98 = .ok (.aload_n 2, 1) := by decide +kernel
theorem dX7_load_99 : decode cX7_load 99 = .ok (.getfield 78, 3) := by decide +kernel
theorem dX7_load_102 : decode cX7_load 102 = .ok (.getfield 87, 3) := by decide +kernel
theorem dX7_load_105 : decode cX7_load 105 = .ok (.ireturn, 1) := by decide +kernel
theorem dX7_errorOffset_0 : decode cX7_errorOffset 0 = .ok (.aload_n 0, 1) := by decide +kernel
theorem dX7_errorOffset_1 : decode cX7_errorOffset 1 = .ok (.getfield 28, 3) := by decide +kernel
theorem dX7_errorOffset_4 : decode cX7_errorOffset 4 = .ok (.ireturn, 1) := by decide +kernel
theorem dX7_issuerCount_0 : decode cX7_issuerCount 0 = .ok (.aload_n 0, 1) := by decide +kernel
theorem dX7_issuerCount_1 : decode cX7_issuerCount 1 = .ok (.getfield 24, 3) := by decide +kernel
theorem dX7_issuerCount_4 : decode cX7_issuerCount 4 = .ok (.invokevirtual 90, 3) := by decide +kernel
theorem dX7_issuerCount_7 : decode cX7_issuerCount 7 = .ok (.getfield 93, 3) := by decide +kernel
theorem dX7_issuerCount_10 : decode cX7_issuerCount 10 = .ok (.getfield 94, 3) := by decide +kernel
theorem dX7_issuerCount_13 : decode cX7_issuerCount 13 = .ok (.ireturn, 1) := by decide +kernel
theorem dX7_merchantCount_0 : decode cX7_merchantCount 0 = .ok (.aload_n 0, 1) := by decide +kernel
theorem dX7_merchantCount_1 : decode cX7_merchantCount 1 = .ok (.getfield 24, 3) := by decide +kernel
theorem dX7_merchantCount_4 : decode cX7_merchantCount 4 = .ok (.invokevirtual 90, 3) := by decide +kernel
theorem dX7_merchantCount_7 : decode cX7_merchantCount 7 = .ok (.getfield 93, 3) := by decide +kernel
theorem dX7_merchantCount_10 : decode cX7_merchantCount 10 = .ok (.getfield 97, 3) := by decide +kernel
theorem dX7_merchantCount_13 : decode cX7_merchantCount 13 = .ok (.ireturn, 1) := by decide +kernel
theorem dX7_reasonCount_0 : decode cX7_reasonCount 0 = .ok (.aload_n 0, 1) := by decide +kernel
theorem dX7_reasonCount_1 : decode cX7_reasonCount 1 = .ok (.getfield 24, 3) := by decide +kernel
theorem dX7_reasonCount_4 : decode cX7_reasonCount 4 = .ok (.invokevirtual 90, 3) := by decide +kernel
theorem dX7_reasonCount_7 : decode cX7_reasonCount 7 = .ok (.getfield 93, 3) := by decide +kernel
theorem dX7_reasonCount_10 : decode cX7_reasonCount 10 = .ok (.getfield 87, 3) := by decide +kernel
theorem dX7_reasonCount_13 : decode cX7_reasonCount 13 = .ok (.ireturn, 1) := by decide +kernel
theorem dX7_purchaseCount_0 : decode cX7_purchaseCount 0 = .ok (.aload_n 0, 1) := by decide +kernel
theorem dX7_purchaseCount_1 : decode cX7_purchaseCount 1 = .ok (.getfield 24, 3) := by decide +kernel
theorem dX7_purchaseCount_4 : decode cX7_purchaseCount 4 = .ok (.invokevirtual 90, 3) := by decide +kernel
theorem dX7_purchaseCount_7 : decode cX7_purchaseCount 7 = .ok (.getfield 100, 3) := by decide +kernel
theorem dX7_purchaseCount_10 : decode cX7_purchaseCount 10 = .ok (.ireturn, 1) := by decide +kernel
theorem dX7_disputeCount_0 : decode cX7_disputeCount 0 = .ok (.aload_n 0, 1) := by decide +kernel
theorem dX7_disputeCount_1 : decode cX7_disputeCount 1 = .ok (.getfield 24, 3) := by decide +kernel
theorem dX7_disputeCount_4 : decode cX7_disputeCount 4 = .ok (.invokevirtual 90, 3) := by decide +kernel
theorem dX7_disputeCount_7 : decode cX7_disputeCount 7 = .ok (.getfield 103, 3) := by decide +kernel
theorem dX7_disputeCount_10 : decode cX7_disputeCount 10 = .ok (.ireturn, 1) := by decide +kernel
theorem dX7_today_0 : decode cX7_today 0 = .ok (.aload_n 0, 1) := by decide +kernel
theorem dX7_today_1 : decode cX7_today 1 = .ok (.getfield 24, 3) := by decide +kernel
theorem dX7_today_4 : decode cX7_today 4 = .ok (.invokevirtual 90, 3) := by decide +kernel
theorem dX7_today_7 : decode cX7_today 7 = .ok (.getfield 106, 3) := by decide +kernel
theorem dX7_today_10 : decode cX7_today 10 = .ok (.ireturn, 1) := by decide +kernel
theorem dX7_reasonOf_0 : decode cX7_reasonOf 0 = .ok (.aload_n 0, 1) := by decide +kernel
theorem dX7_reasonOf_1 : decode cX7_reasonOf 1 = .ok (.getfield 24, 3) := by decide +kernel
theorem dX7_reasonOf_4 : decode cX7_reasonOf 4 = .ok (.invokevirtual 90, 3) := by decide +kernel
theorem dX7_reasonOf_7 : decode cX7_reasonOf 7 = .ok (.getfield 93, 3) := by decide +kernel
theorem dX7_reasonOf_10 : decode cX7_reasonOf 10 = .ok (.iload_n 1, 1) := by decide +kernel
theorem dX7_reasonOf_11 : decode cX7_reasonOf 11 = .ok (.invokevirtual 109, 3) := by decide +kernel
theorem dX7_reasonOf_14 : decode cX7_reasonOf 14 = .ok (.ireturn, 1) := by decide +kernel
theorem dX7_issuerAccount_0 : decode cX7_issuerAccount 0 = .ok (.aload_n 0, 1) := by decide +kernel
theorem dX7_issuerAccount_1 : decode cX7_issuerAccount 1 = .ok (.getfield 24, 3) := by decide +kernel
theorem dX7_issuerAccount_4 : decode cX7_issuerAccount 4 = .ok (.invokevirtual 90, 3) := by decide +kernel
theorem dX7_issuerAccount_7 : decode cX7_issuerAccount 7 = .ok (.astore_n 2, 1) := by decide +kernel
theorem dX7_issuerAccount_8 : decode cX7_issuerAccount 8 = .ok (.iload_n 1, 1) := by decide +kernel
theorem dX7_issuerAccount_9 : decode cX7_issuerAccount 9 = .ok (.aload_n 2, 1) := by decide +kernel
theorem dX7_issuerAccount_10 : decode cX7_issuerAccount 10 = .ok (.getfield 93, 3) := by decide +kernel
theorem dX7_issuerAccount_13 : decode cX7_issuerAccount 13 = .ok (.getfield 94, 3) := by decide +kernel
theorem dX7_issuerAccount_16 : decode cX7_issuerAccount 16 = .ok (.invokestatic 113, 3) := by decide +kernel
theorem dX7_issuerAccount_19 : decode cX7_issuerAccount 19 = .ok (.aload_n 2, 1) := by decide +kernel
theorem dX7_issuerAccount_20 : decode cX7_issuerAccount 20 = .ok (.getfield 117, 3) := by decide +kernel
theorem dX7_issuerAccount_23 : decode cX7_issuerAccount 23 = .ok (.iload_n 1, 1) := by decide +kernel
theorem dX7_issuerAccount_24 : decode cX7_issuerAccount 24 = .ok (.iaload, 1) := by decide +kernel
theorem dX7_issuerAccount_25 : decode cX7_issuerAccount 25 = .ok (.ireturn, 1) := by decide +kernel
theorem dX7_merchantAccount_0 : decode cX7_merchantAccount 0 = .ok (.aload_n 0, 1) := by decide +kernel
theorem dX7_merchantAccount_1 : decode cX7_merchantAccount 1 = .ok (.iload_n 1, 1) := by decide +kernel
theorem dX7_merchantAccount_2 : decode cX7_merchantAccount 2 = .ok (.invokevirtual 121, 3) := by decide +kernel
theorem dX7_merchantAccount_5 : decode cX7_merchantAccount 5 = .ok (.astore_n 2, 1) := by decide +kernel
theorem dX7_merchantAccount_6 : decode cX7_merchantAccount 6 = .ok (.aload_n 2, 1) := by decide +kernel
theorem dX7_merchantAccount_7 : decode cX7_merchantAccount 7 = .ok (.getfield 125, 3) := by decide +kernel
theorem dX7_merchantAccount_10 : decode cX7_merchantAccount 10 = .ok (.iload_n 1, 1) := by decide +kernel
theorem dX7_merchantAccount_11 : decode cX7_merchantAccount 11 = .ok (.iaload, 1) := by decide +kernel
theorem dX7_merchantAccount_12 : decode cX7_merchantAccount 12 = .ok (.ireturn, 1) := by decide +kernel
theorem dX7_networkAccount_0 : decode cX7_networkAccount 0 = .ok (.aload_n 0, 1) := by decide +kernel
theorem dX7_networkAccount_1 : decode cX7_networkAccount 1 = .ok (.getfield 24, 3) := by decide +kernel
theorem dX7_networkAccount_4 : decode cX7_networkAccount 4 = .ok (.invokevirtual 90, 3) := by decide +kernel
theorem dX7_networkAccount_7 : decode cX7_networkAccount 7 = .ok (.getfield 128, 3) := by decide +kernel
theorem dX7_networkAccount_10 : decode cX7_networkAccount 10 = .ok (.ireturn, 1) := by decide +kernel
theorem dX7_disputed_0 : decode cX7_disputed 0 = .ok (.aload_n 0, 1) := by decide +kernel
theorem dX7_disputed_1 : decode cX7_disputed 1 = .ok (.getfield 24, 3) := by decide +kernel
theorem dX7_disputed_4 : decode cX7_disputed 4 = .ok (.invokevirtual 90, 3) := by decide +kernel
theorem dX7_disputed_7 : decode cX7_disputed 7 = .ok (.astore_n 2, 1) := by decide +kernel
theorem dX7_disputed_8 : decode cX7_disputed 8 = .ok (.iload_n 1, 1) := by decide +kernel
theorem dX7_disputed_9 : decode cX7_disputed 9 = .ok (.aload_n 2, 1) := by decide +kernel
theorem dX7_disputed_10 : decode cX7_disputed 10 = .ok (.getfield 100, 3) := by decide +kernel
theorem dX7_disputed_13 : decode cX7_disputed 13 = .ok (.invokestatic 113, 3) := by decide +kernel
theorem dX7_disputed_16 : decode cX7_disputed 16 = .ok (.aload_n 2, 1) := by decide +kernel
theorem dX7_disputed_17 : decode cX7_disputed 17 = .ok (.iload_n 1, 1) := by decide +kernel
theorem dX7_disputed_18 : decode cX7_disputed 18 = .ok (.invokevirtual 131, 3) := by decide +kernel
theorem dX7_disputed_21 : decode cX7_disputed 21 = .ok (.ireturn, 1) := by decide +kernel
theorem dX7_state_0 : decode cX7_state 0 = .ok (.aload_n 0, 1) := by decide +kernel
theorem dX7_state_1 : decode cX7_state 1 = .ok (.iload_n 1, 1) := by decide +kernel
theorem dX7_state_2 : decode cX7_state 2 = .ok (.invokevirtual 134, 3) := by decide +kernel
theorem dX7_state_5 : decode cX7_state 5 = .ok (.getfield 137, 3) := by decide +kernel
theorem dX7_state_8 : decode cX7_state 8 = .ok (.iload_n 1, 1) := by decide +kernel
theorem dX7_state_9 : decode cX7_state 9 = .ok (.iaload, 1) := by decide +kernel
theorem dX7_state_10 : decode cX7_state 10 = .ok (.ireturn, 1) := by decide +kernel
theorem dX7_deadline_0 : decode cX7_deadline 0 = .ok (.aload_n 0, 1) := by decide +kernel
theorem dX7_deadline_1 : decode cX7_deadline 1 = .ok (.iload_n 1, 1) := by decide +kernel
theorem dX7_deadline_2 : decode cX7_deadline 2 = .ok (.invokevirtual 134, 3) := by decide +kernel
theorem dX7_deadline_5 : decode cX7_deadline 5 = .ok (.getfield 140, 3) := by decide +kernel
theorem dX7_deadline_8 : decode cX7_deadline 8 = .ok (.iload_n 1, 1) := by decide +kernel
theorem dX7_deadline_9 : decode cX7_deadline 9 = .ok (.iaload, 1) := by decide +kernel
theorem dX7_deadline_10 : decode cX7_deadline 10 = .ok (.ireturn, 1) := by decide +kernel
theorem dX7_evidence_0 : decode cX7_evidence 0 = .ok (.aload_n 0, 1) := by decide +kernel
theorem dX7_evidence_1 : decode cX7_evidence 1 = .ok (.iload_n 1, 1) := by decide +kernel
theorem dX7_evidence_2 : decode cX7_evidence 2 = .ok (.invokevirtual 134, 3) := by decide +kernel
theorem dX7_evidence_5 : decode cX7_evidence 5 = .ok (.getfield 143, 3) := by decide +kernel
theorem dX7_evidence_8 : decode cX7_evidence 8 = .ok (.iload_n 1, 1) := by decide +kernel
theorem dX7_evidence_9 : decode cX7_evidence 9 = .ok (.iaload, 1) := by decide +kernel
theorem dX7_evidence_10 : decode cX7_evidence 10 = .ok (.ireturn, 1) := by decide +kernel
theorem dX7_isWithMerchant_0 : decode cX7_isWithMerchant 0 = .ok (.aload_n 0, 1) := by decide +kernel
theorem dX7_isWithMerchant_1 : decode cX7_isWithMerchant 1 = .ok (.iload_n 1, 1) := by decide +kernel
theorem dX7_isWithMerchant_2 : decode cX7_isWithMerchant 2 = .ok (.invokevirtual 134, 3) := by decide +kernel
theorem dX7_isWithMerchant_5 : decode cX7_isWithMerchant 5 = .ok (.iload_n 1, 1) := by decide +kernel
theorem dX7_isWithMerchant_6 : decode cX7_isWithMerchant 6 = .ok (.invokevirtual 146, 3) := by decide +kernel
theorem dX7_isWithMerchant_9 : decode cX7_isWithMerchant 9 = .ok (.ireturn, 1) := by decide +kernel
theorem dX7_score_0 : decode cX7_score 0 = .ok (.aload_n 0, 1) := by decide +kernel
theorem dX7_score_1 : decode cX7_score 1 = .ok (.iload_n 1, 1) := by decide +kernel
theorem dX7_score_2 : decode cX7_score 2 = .ok (.invokevirtual 134, 3) := by decide +kernel
theorem dX7_score_5 : decode cX7_score 5 = .ok (.iload_n 1, 1) := by decide +kernel
theorem dX7_score_6 : decode cX7_score 6 = .ok (.invokevirtual 150, 3) := by decide +kernel
theorem dX7_score_9 : decode cX7_score 9 = .ok (.ireturn, 1) := by decide +kernel
theorem dX7_wouldWin_0 : decode cX7_wouldWin 0 = .ok (.aload_n 0, 1) := by decide +kernel
theorem dX7_wouldWin_1 : decode cX7_wouldWin 1 = .ok (.iload_n 1, 1) := by decide +kernel
theorem dX7_wouldWin_2 : decode cX7_wouldWin 2 = .ok (.invokevirtual 134, 3) := by decide +kernel
theorem dX7_wouldWin_5 : decode cX7_wouldWin 5 = .ok (.astore_n 3, 1) := by decide +kernel
theorem dX7_wouldWin_6 : decode cX7_wouldWin 6 = .ok (.iload_n 2, 1) := by decide +kernel
theorem dX7_wouldWin_7 : decode cX7_wouldWin 7 = .ok (.iconst 0, 1) := by decide +kernel
theorem dX7_wouldWin_8 : decode cX7_wouldWin 8 = .ok (.sipush 255, 3) := by decide +kernel
theorem dX7_wouldWin_11 : decode cX7_wouldWin 11 = .ok (.invokestatic 153, 3) := by decide +kernel
theorem dX7_wouldWin_14 : decode cX7_wouldWin 14 = .ok (.aload_n 3, 1) := by decide +kernel
theorem dX7_wouldWin_15 : decode cX7_wouldWin 15 = .ok (.iload_n 1, 1) := by decide +kernel
theorem dX7_wouldWin_16 : decode cX7_wouldWin 16 = .ok (.iload_n 2, 1) := by decide +kernel
theorem dX7_wouldWin_17 : decode cX7_wouldWin 17 = .ok (.invokevirtual 157, 3) := by decide +kernel
theorem dX7_wouldWin_20 : decode cX7_wouldWin 20 = .ok (.ireturn, 1) := by decide +kernel
theorem dX7_bestEvidence_0 : decode cX7_bestEvidence 0 = .ok (.aload_n 0, 1) := by decide +kernel
theorem dX7_bestEvidence_1 : decode cX7_bestEvidence 1 = .ok (.iload_n 1, 1) := by decide +kernel
theorem dX7_bestEvidence_2 : decode cX7_bestEvidence 2 = .ok (.invokevirtual 134, 3) := by decide +kernel
theorem dX7_bestEvidence_5 : decode cX7_bestEvidence 5 = .ok (.iload_n 1, 1) := by decide +kernel
theorem dX7_bestEvidence_6 : decode cX7_bestEvidence 6 = .ok (.invokevirtual 161, 3) := by decide +kernel
theorem dX7_bestEvidence_9 : decode cX7_bestEvidence 9 = .ok (.ireturn, 1) := by decide +kernel
theorem dX7_nextDeadline_0 : decode cX7_nextDeadline 0 = .ok (.aload_n 0, 1) := by decide +kernel
theorem dX7_nextDeadline_1 : decode cX7_nextDeadline 1 = .ok (.getfield 24, 3) := by decide +kernel
theorem dX7_nextDeadline_4 : decode cX7_nextDeadline 4 = .ok (.invokevirtual 90, 3) := by decide +kernel
theorem dX7_nextDeadline_7 : decode cX7_nextDeadline 7 = .ok (.invokevirtual 164, 3) := by decide +kernel
theorem dX7_nextDeadline_10 : decode cX7_nextDeadline 10 = .ok (.ireturn, 1) := by decide +kernel
theorem dX7_rate_0 : decode cX7_rate 0 = .ok (.aload_n 0, 1) := by decide +kernel
theorem dX7_rate_1 : decode cX7_rate 1 = .ok (.iload_n 1, 1) := by decide +kernel
theorem dX7_rate_2 : decode cX7_rate 2 = .ok (.invokevirtual 121, 3) := by decide +kernel
theorem dX7_rate_5 : decode cX7_rate 5 = .ok (.iload_n 1, 1) := by decide +kernel
theorem dX7_rate_6 : decode cX7_rate 6 = .ok (.invokevirtual 168, 3) := by decide +kernel
theorem dX7_rate_9 : decode cX7_rate 9 = .ok (.ireturn, 1) := by decide +kernel
theorem dX7_isWatched_0 : decode cX7_isWatched 0 = .ok (.aload_n 0, 1) := by decide +kernel
theorem dX7_isWatched_1 : decode cX7_isWatched 1 = .ok (.iload_n 1, 1) := by decide +kernel
theorem dX7_isWatched_2 : decode cX7_isWatched 2 = .ok (.invokevirtual 121, 3) := by decide +kernel
theorem dX7_isWatched_5 : decode cX7_isWatched 5 = .ok (.astore_n 2, 1) := by decide +kernel
theorem dX7_isWatched_6 : decode cX7_isWatched 6 = .ok (.aload_n 2, 1) := by decide +kernel
theorem dX7_isWatched_7 : decode cX7_isWatched 7 = .ok (.iload_n 1, 1) := by decide +kernel
theorem dX7_isWatched_8 : decode cX7_isWatched 8 = .ok (.invokevirtual 168, 3) := by decide +kernel
theorem dX7_isWatched_11 : decode cX7_isWatched 11 = .ok (.aload_n 2, 1) := by decide +kernel
theorem dX7_isWatched_12 : decode cX7_isWatched 12 = .ok (.getfield 93, 3) := by decide +kernel
theorem dX7_isWatched_15 : decode cX7_isWatched 15 = .ok (.getfield 171, 3) := by decide +kernel
theorem dX7_isWatched_18 : decode cX7_isWatched 18 = .ok (.if_icmp .le 7, 3) := by decide +kernel
theorem dX7_isWatched_21 : decode cX7_isWatched 21 = .ok (.iconst 1, 1) := by decide +kernel
theorem dX7_isWatched_22 : decode cX7_isWatched 22 = .ok (.goto 4, 3) := by decide +kernel
theorem dX7_isWatched_25 : decode cX7_isWatched 25 = .ok (.iconst 0, 1) := by decide +kernel
theorem dX7_isWatched_26 : decode cX7_isWatched 26 = .ok (.ireturn, 1) := by decide +kernel
theorem dX7_exposure_0 : decode cX7_exposure 0 = .ok (.aload_n 0, 1) := by decide +kernel
theorem dX7_exposure_1 : decode cX7_exposure 1 = .ok (.iload_n 1, 1) := by decide +kernel
theorem dX7_exposure_2 : decode cX7_exposure 2 = .ok (.invokevirtual 121, 3) := by decide +kernel
theorem dX7_exposure_5 : decode cX7_exposure 5 = .ok (.iload_n 1, 1) := by decide +kernel
theorem dX7_exposure_6 : decode cX7_exposure 6 = .ok (.invokevirtual 174, 3) := by decide +kernel
theorem dX7_exposure_9 : decode cX7_exposure 9 = .ok (.ireturn, 1) := by decide +kernel
theorem dX7_settled_0 : decode cX7_settled 0 = .ok (.aload_n 0, 1) := by decide +kernel
theorem dX7_settled_1 : decode cX7_settled 1 = .ok (.iload_n 1, 1) := by decide +kernel
theorem dX7_settled_2 : decode cX7_settled 2 = .ok (.invokevirtual 121, 3) := by decide +kernel
theorem dX7_settled_5 : decode cX7_settled 5 = .ok (.iload_n 1, 1) := by decide +kernel
theorem dX7_settled_6 : decode cX7_settled 6 = .ok (.invokevirtual 177, 3) := by decide +kernel
theorem dX7_settled_9 : decode cX7_settled 9 = .ok (.ireturn, 1) := by decide +kernel
theorem dX7_purchase_0 : decode cX7_purchase 0 = .ok (.aload_n 0, 1) := by decide +kernel
theorem dX7_purchase_1 : decode cX7_purchase 1 = .ok (.getfield 24, 3) := by decide +kernel
theorem dX7_purchase_4 : decode cX7_purchase 4 = .ok (.invokevirtual 90, 3) := by decide +kernel
theorem dX7_purchase_7 : decode cX7_purchase 7 = .ok (.astore 4, 2) := by decide +kernel
theorem dX7_purchase_9 : decode cX7_purchase 9 = .ok (.iload_n 1, 1) := by decide +kernel
theorem dX7_purchase_10 : decode cX7_purchase 10 = .ok (.aload 4, 2) := by decide +kernel
theorem dX7_purchase_12 : decode cX7_purchase 12 = .ok (.getfield 93, 3) := by decide +kernel
theorem dX7_purchase_15 : decode cX7_purchase 15 = .ok (.getfield 94, 3) := by decide +kernel
theorem dX7_purchase_18 : decode cX7_purchase 18 = .ok (.invokestatic 113, 3) := by decide +kernel
theorem dX7_purchase_21 : decode cX7_purchase 21 = .ok (.iload_n 2, 1) := by decide +kernel
theorem dX7_purchase_22 : decode cX7_purchase 22 = .ok (.aload 4, 2) := by decide +kernel
theorem dX7_purchase_24 : decode cX7_purchase 24 = .ok (.getfield 93, 3) := by decide +kernel
theorem dX7_purchase_27 : decode cX7_purchase 27 = .ok (.getfield 97, 3) := by decide +kernel
theorem dX7_purchase_30 : decode cX7_purchase 30 = .ok (.invokestatic 113, 3) := by decide +kernel
theorem dX7_purchase_33 : decode cX7_purchase 33 = .ok (.iload_n 3, 1) := by decide +kernel
theorem dX7_purchase_34 : decode cX7_purchase 34 = .ok (.iconst 1, 1) := by decide +kernel
theorem dX7_purchase_35 : decode cX7_purchase 35 = .ok (.ldc 180, 2) := by decide +kernel
theorem dX7_purchase_37 : decode cX7_purchase 37 = .ok (.invokestatic 153, 3) := by decide +kernel
theorem dX7_purchase_40 : decode cX7_purchase 40 = .ok (.aload 4, 2) := by decide +kernel
theorem dX7_purchase_42 : decode cX7_purchase 42 = .ok (.getfield 100, 3) := by decide +kernel
theorem dX7_purchase_45 : decode cX7_purchase 45 = .ok (.bipush 24, 2) := by decide +kernel
theorem dX7_purchase_47 : decode cX7_purchase 47 = .ok (.if_icmp .lt 13, 3) := by decide +kernel
theorem dX7_purchase_50 : decode cX7_purchase 50 = .ok (.new 181, 3) := by decide +kernel
theorem dX7_purchase_53 : decode cX7_purchase 53 = .ok (.dup, 1) := by decide +kernel
theorem dX7_purchase_54 : decode cX7_purchase 54 = .ok (.ldc 183, 2) := by decide +kernel
theorem dX7_purchase_56 : decode cX7_purchase 56 = .ok (.invokespecial 185, 3) := by decide +kernel
theorem dX7_purchase_59 : decode cX7_purchase 59 = .ok (.athrow, 1) := by decide +kernel
theorem dX7_purchase_60 : decode cX7_purchase 60 = .ok (.aload_n 0, 1) := by decide +kernel
theorem dX7_purchase_61 : decode cX7_purchase 61 = .ok (.getfield 24, 3) := by decide +kernel
theorem dX7_purchase_64 : decode cX7_purchase 64 = .ok (.invokevirtual 74, 3) := by decide +kernel
theorem dX7_purchase_67 : decode cX7_purchase 67 = .ok (.iload_n 1, 1) := by decide +kernel
theorem dX7_purchase_68 : decode cX7_purchase 68 = .ok (.iload_n 2, 1) := by decide +kernel
theorem dX7_purchase_69 : decode cX7_purchase 69 = .ok (.iload_n 3, 1) := by decide +kernel
theorem dX7_purchase_70 : decode cX7_purchase 70 = .ok (.invokevirtual 186, 3) := by decide +kernel
theorem dX7_purchase_73 : decode cX7_purchase 73 = .ok (.ireturn, 1) := by decide +kernel
theorem dX7_file_0 : decode cX7_file 0 = .ok (.aload_n 0, 1) := by decide +kernel
theorem dX7_file_1 : decode cX7_file 1 = .ok (.getfield 24, 3) := by decide +kernel
theorem dX7_file_4 : decode cX7_file 4 = .ok (.invokevirtual 90, 3) := by decide +kernel
theorem dX7_file_7 : decode cX7_file 7 = .ok (.astore 4, 2) := by decide +kernel
theorem dX7_file_9 : decode cX7_file 9 = .ok (.iload_n 1, 1) := by decide +kernel
theorem dX7_file_10 : decode cX7_file 10 = .ok (.aload 4, 2) := by decide +kernel
theorem dX7_file_12 : decode cX7_file 12 = .ok (.getfield 100, 3) := by decide +kernel
theorem dX7_file_15 : decode cX7_file 15 = .ok (.invokestatic 113, 3) := by decide +kernel
theorem dX7_file_18 : decode cX7_file 18 = .ok (.iload_n 2, 1) := by decide +kernel
theorem dX7_file_19 : decode cX7_file 19 = .ok (.aload 4, 2) := by decide +kernel
theorem dX7_file_21 : decode cX7_file 21 = .ok (.getfield 93, 3) := by decide +kernel
theorem dX7_file_24 : decode cX7_file 24 = .ok (.getfield 87, 3) := by decide +kernel
theorem dX7_file_27 : decode cX7_file 27 = .ok (.invokestatic 113, 3) := by decide +kernel
theorem dX7_file_30 : decode cX7_file 30 = .ok (.iload_n 3, 1) := by decide +kernel
theorem dX7_file_31 : decode cX7_file 31 = .ok (.iconst 1, 1) := by decide +kernel
theorem dX7_file_32 : decode cX7_file 32 = .ok (.ldc 180, 2) := by decide +kernel
theorem dX7_file_34 : decode cX7_file 34 = .ok (.invokestatic 153, 3) := by decide +kernel
theorem dX7_file_37 : decode cX7_file 37 = .ok (.iload_n 3, 1) := by decide +kernel
theorem dX7_file_38 : decode cX7_file 38 = .ok (.aload 4, 2) := by decide +kernel
theorem dX7_file_40 : decode cX7_file 40 = .ok (.getfield 190, 3) := by decide +kernel
theorem dX7_file_43 : decode cX7_file 43 = .ok (.iload_n 1, 1) := by decide +kernel
theorem dX7_file_44 : decode cX7_file 44 = .ok (.iaload, 1) := by decide +kernel
theorem dX7_file_45 : decode cX7_file 45 = .ok (.aload 4, 2) := by decide +kernel
theorem dX7_file_47 : decode cX7_file 47 = .ok (.iload_n 1, 1) := by decide +kernel
theorem dX7_file_48 : decode cX7_file 48 = .ok (.invokevirtual 131, 3) := by decide +kernel
theorem dX7_file_51 : decode cX7_file 51 = .ok (.isub, 1) := by decide +kernel
theorem dX7_file_52 : decode cX7_file 52 = .ok (.if_icmp .le 13, 3) := by decide +kernel
theorem dX7_file_55 : decode cX7_file 55 = .ok (.new 43, 3) := by decide +kernel
theorem dX7_file_58 : decode cX7_file 58 = .ok (.dup, 1) := by decide +kernel
theorem dX7_file_59 : decode cX7_file 59 = .ok (.ldc 193, 2) := by decide +kernel
theorem dX7_file_61 : decode cX7_file 61 = .ok (.invokespecial 47, 3) := by decide +kernel
theorem dX7_file_64 : decode cX7_file 64 = .ok (.athrow, 1) := by decide +kernel
theorem dX7_file_65 : decode cX7_file 65 = .ok (.aload 4, 2) := by decide +kernel
theorem dX7_file_67 : decode cX7_file 67 = .ok (.iload_n 1, 1) := by decide +kernel
theorem dX7_file_68 : decode cX7_file 68 = .ok (.iload_n 2, 1) := by decide +kernel
theorem dX7_file_69 : decode cX7_file 69 = .ok (.invokevirtual 195, 3) := by decide +kernel
theorem dX7_file_72 : decode cX7_file 72 = .ok (.ifCond .ne 13, 3) := by decide +kernel
theorem dX7_file_75 : decode cX7_file 75 = .ok (.aload 4, 2) := by decide +kernel
theorem dX7_file_77 : decode cX7_file 77 = .ok (.getfield 103, 3) := by decide +kernel
theorem dX7_file_80 : decode cX7_file 80 = .ok (.bipush 20, 2) := by decide +kernel
theorem dX7_file_82 : decode cX7_file 82 = .ok (.if_icmp .lt 13, 3) := by decide +kernel
theorem dX7_file_85 : decode cX7_file 85 = .ok (.new 181, 3) := by decide +kernel
theorem dX7_file_88 : decode cX7_file 88 = .ok (.dup, 1) := by decide +kernel
theorem dX7_file_89 : decode cX7_file 89 = .ok (.ldc 198, 2) := by decide +kernel
theorem dX7_file_91 : decode cX7_file 91 = .ok (.invokespecial 185, 3) := by decide +kernel
theorem dX7_file_94 : decode cX7_file 94 = .ok (.athrow, 1) := by decide +kernel
theorem dX7_file_95 : decode cX7_file 95 = .ok (.aload_n 0, 1) := by decide +kernel
theorem dX7_file_96 : decode cX7_file 96 = .ok (.getfield 24, 3) := by decide +kernel
theorem dX7_file_99 : decode cX7_file 99 = .ok (.invokevirtual 74, 3) := by decide +kernel
theorem dX7_file_102 : decode cX7_file 102 = .ok (.iload_n 1, 1) := by decide +kernel
theorem dX7_file_103 : decode cX7_file 103 = .ok (.iload_n 2, 1) := by decide +kernel
theorem dX7_file_104 : decode cX7_file 104 = .ok (.iload_n 3, 1) := by decide +kernel
theorem dX7_file_105 : decode cX7_file 105 = .ok (.invokevirtual 200, 3) := by decide +kernel
theorem dX7_file_108 : decode cX7_file 108 = .ok (.ireturn, 1) := by decide +kernel
theorem dX7_represent_0 : decode cX7_represent 0 = .ok (.aload_n 0, 1) := by decide +kernel
theorem dX7_represent_1 : decode cX7_represent 1 = .ok (.iload_n 1, 1) := by decide +kernel
theorem dX7_represent_2 : decode cX7_represent 2 = .ok (.invokevirtual 134, 3) := by decide +kernel
theorem dX7_represent_5 : decode cX7_represent 5 = .ok (.astore_n 3, 1) := by decide +kernel
theorem dX7_represent_6 : decode cX7_represent 6 = .ok (.iload_n 2, 1) := by decide +kernel
theorem dX7_represent_7 : decode cX7_represent 7 = .ok (.iconst 1, 1) := by decide +kernel
theorem dX7_represent_8 : decode cX7_represent 8 = .ok (.sipush 255, 3) := by decide +kernel
theorem dX7_represent_11 : decode cX7_represent 11 = .ok (.invokestatic 153, 3) := by decide +kernel
theorem dX7_represent_14 : decode cX7_represent 14 = .ok (.aload_n 3, 1) := by decide +kernel
theorem dX7_represent_15 : decode cX7_represent 15 = .ok (.iload_n 1, 1) := by decide +kernel
theorem dX7_represent_16 : decode cX7_represent 16 = .ok (.iconst 0, 1) := by decide +kernel
theorem dX7_represent_17 : decode cX7_represent 17 = .ok (.invokestatic 203, 3) := by decide +kernel
theorem dX7_represent_20 : decode cX7_represent 20 = .ok (.aload_n 0, 1) := by decide +kernel
theorem dX7_represent_21 : decode cX7_represent 21 = .ok (.getfield 24, 3) := by decide +kernel
theorem dX7_represent_24 : decode cX7_represent 24 = .ok (.invokevirtual 74, 3) := by decide +kernel
theorem dX7_represent_27 : decode cX7_represent 27 = .ok (.astore 4, 2) := by decide +kernel
theorem dX7_represent_29 : decode cX7_represent 29 = .ok (.aload 4, 2) := by decide +kernel
theorem dX7_represent_31 : decode cX7_represent 31 = .ok (.iload_n 1, 1) := by decide +kernel
theorem dX7_represent_32 : decode cX7_represent 32 = .ok (.iload_n 2, 1) := by decide +kernel
theorem dX7_represent_33 : decode cX7_represent 33 = .ok (.invokevirtual 207, 3) := by decide +kernel
theorem dX7_represent_36 : decode cX7_represent 36 = .ok (.aload 4, 2) := by decide +kernel
theorem dX7_represent_38 : decode cX7_represent 38 = .ok (.iload_n 1, 1) := by decide +kernel
theorem dX7_represent_39 : decode cX7_represent 39 = .ok (.invokevirtual 150, 3) := by decide +kernel
theorem dX7_represent_42 : decode cX7_represent 42 = .ok (.ireturn, 1) := by decide +kernel
theorem dX7_escalate_0 : decode cX7_escalate 0 = .ok (.aload_n 0, 1) := by decide +kernel
theorem dX7_escalate_1 : decode cX7_escalate 1 = .ok (.iload_n 1, 1) := by decide +kernel
theorem dX7_escalate_2 : decode cX7_escalate 2 = .ok (.invokevirtual 134, 3) := by decide +kernel
theorem dX7_escalate_5 : decode cX7_escalate 5 = .ok (.astore_n 2, 1) := by decide +kernel
theorem dX7_escalate_6 : decode cX7_escalate 6 = .ok (.aload_n 2, 1) := by decide +kernel
theorem dX7_escalate_7 : decode cX7_escalate 7 = .ok (.iload_n 1, 1) := by decide +kernel
theorem dX7_escalate_8 : decode cX7_escalate 8 = .ok (.iconst 1, 1) := by decide +kernel
theorem dX7_escalate_9 : decode cX7_escalate 9 = .ok (.invokestatic 203, 3) := by decide +kernel
theorem dX7_escalate_12 : decode cX7_escalate 12 = .ok (.aload_n 0, 1) := by decide +kernel
theorem dX7_escalate_13 : decode cX7_escalate 13 = .ok (.getfield 24, 3) := by decide +kernel
theorem dX7_escalate_16 : decode cX7_escalate 16 = .ok (.invokevirtual 74, 3) := by decide +kernel
theorem dX7_escalate_19 : decode cX7_escalate 19 = .ok (.astore_n 3, 1) := by decide +kernel
theorem dX7_escalate_20 : decode cX7_escalate 20 = .ok (.aload_n 3, 1) := by decide +kernel
theorem dX7_escalate_21 : decode cX7_escalate 21 = .ok (.iload_n 1, 1) := by decide +kernel
theorem dX7_escalate_22 : decode cX7_escalate 22 = .ok (.invokevirtual 210, 3) := by decide +kernel
theorem dX7_escalate_25 : decode cX7_escalate 25 = .ok (.aload_n 3, 1) := by decide +kernel
theorem dX7_escalate_26 : decode cX7_escalate 26 = .ok (.getfield 140, 3) := by decide +kernel
theorem dX7_escalate_29 : decode cX7_escalate 29 = .ok (.iload_n 1, 1) := by decide +kernel
theorem dX7_escalate_30 : decode cX7_escalate 30 = .ok (.iaload, 1) := by decide +kernel
theorem dX7_escalate_31 : decode cX7_escalate 31 = .ok (.ireturn, 1) := by decide +kernel
theorem dX7_contest_0 : decode cX7_contest 0 = .ok (.aload_n 0, 1) := by decide +kernel
theorem dX7_contest_1 : decode cX7_contest 1 = .ok (.iload_n 1, 1) := by decide +kernel
theorem dX7_contest_2 : decode cX7_contest 2 = .ok (.invokevirtual 134, 3) := by decide +kernel
theorem dX7_contest_5 : decode cX7_contest 5 = .ok (.astore_n 3, 1) := by decide +kernel
theorem dX7_contest_6 : decode cX7_contest 6 = .ok (.iload_n 2, 1) := by decide +kernel
theorem dX7_contest_7 : decode cX7_contest 7 = .ok (.iconst 0, 1) := by decide +kernel
theorem dX7_contest_8 : decode cX7_contest 8 = .ok (.sipush 255, 3) := by decide +kernel
theorem dX7_contest_11 : decode cX7_contest 11 = .ok (.invokestatic 153, 3) := by decide +kernel
theorem dX7_contest_14 : decode cX7_contest 14 = .ok (.aload_n 3, 1) := by decide +kernel
theorem dX7_contest_15 : decode cX7_contest 15 = .ok (.iload_n 1, 1) := by decide +kernel
theorem dX7_contest_16 : decode cX7_contest 16 = .ok (.iconst 2, 1) := by decide +kernel
theorem dX7_contest_17 : decode cX7_contest 17 = .ok (.invokestatic 203, 3) := by decide +kernel
theorem dX7_contest_20 : decode cX7_contest 20 = .ok (.aload_n 0, 1) := by decide +kernel
theorem dX7_contest_21 : decode cX7_contest 21 = .ok (.getfield 24, 3) := by decide +kernel
theorem dX7_contest_24 : decode cX7_contest 24 = .ok (.invokevirtual 74, 3) := by decide +kernel
theorem dX7_contest_27 : decode cX7_contest 27 = .ok (.astore 4, 2) := by decide +kernel
theorem dX7_contest_29 : decode cX7_contest 29 = .ok (.aload 4, 2) := by decide +kernel
theorem dX7_contest_31 : decode cX7_contest 31 = .ok (.iload_n 1, 1) := by decide +kernel
theorem dX7_contest_32 : decode cX7_contest 32 = .ok (.iload_n 2, 1) := by decide +kernel
theorem dX7_contest_33 : decode cX7_contest 33 = .ok (.invokevirtual 213, 3) := by decide +kernel
theorem dX7_contest_36 : decode cX7_contest 36 = .ok (.aload 4, 2) := by decide +kernel
theorem dX7_contest_38 : decode cX7_contest 38 = .ok (.getfield 140, 3) := by decide +kernel
theorem dX7_contest_41 : decode cX7_contest 41 = .ok (.iload_n 1, 1) := by decide +kernel
theorem dX7_contest_42 : decode cX7_contest 42 = .ok (.iaload, 1) := by decide +kernel
theorem dX7_contest_43 : decode cX7_contest 43 = .ok (.iconst 1, 1) := by decide +kernel
theorem dX7_contest_44 : decode cX7_contest 44 = .ok (.iadd, 1) := by decide +kernel
theorem dX7_contest_45 : decode cX7_contest 45 = .ok (.ireturn, 1) := by decide +kernel
theorem dX7_accept_0 : decode cX7_accept 0 = .ok (.aload_n 0, 1) := by decide +kernel
theorem dX7_accept_1 : decode cX7_accept 1 = .ok (.iload_n 1, 1) := by decide +kernel
theorem dX7_accept_2 : decode cX7_accept 2 = .ok (.invokevirtual 134, 3) := by decide +kernel
theorem dX7_accept_5 : decode cX7_accept 5 = .ok (.astore_n 2, 1) := by decide +kernel
theorem dX7_accept_6 : decode cX7_accept 6 = .ok (.aload_n 2, 1) := by decide +kernel
theorem dX7_accept_7 : decode cX7_accept 7 = .ok (.getfield 137, 3) := by decide +kernel
theorem dX7_accept_10 : decode cX7_accept 10 = .ok (.iload_n 1, 1) := by decide +kernel
theorem dX7_accept_11 : decode cX7_accept 11 = .ok (.iaload, 1) := by decide +kernel
theorem dX7_accept_12 : decode cX7_accept 12 = .ok (.iconst 3, 1) := by decide +kernel
theorem dX7_accept_13 : decode cX7_accept 13 = .ok (.if_icmp .eq 11, 3) := by decide +kernel
theorem dX7_accept_16 : decode cX7_accept 16 = .ok (.aload_n 2, 1) := by decide +kernel
theorem dX7_accept_17 : decode cX7_accept 17 = .ok (.iload_n 1, 1) := by decide +kernel
theorem dX7_accept_18 : decode cX7_accept 18 = .ok (.invokevirtual 216, 3) := by decide +kernel
theorem dX7_accept_21 : decode cX7_accept 21 = .ok (.ifCond .eq 13, 3) := by decide +kernel
theorem dX7_accept_24 : decode cX7_accept 24 = .ok (.new 181, 3) := by decide +kernel
theorem dX7_accept_27 : decode cX7_accept 27 = .ok (.dup, 1) := by decide +kernel
theorem dX7_accept_28 : decode cX7_accept 28 = .ok (.ldc 219, 2) := by decide +kernel
theorem dX7_accept_30 : decode cX7_accept 30 = .ok (.invokespecial 185, 3) := by decide +kernel
theorem dX7_accept_33 : decode cX7_accept 33 = .ok (.athrow, 1) := by decide +kernel
theorem dX7_accept_34 : decode cX7_accept 34 = .ok (.aload_n 0, 1) := by decide +kernel
theorem dX7_accept_35 : decode cX7_accept 35 = .ok (.getfield 24, 3) := by decide +kernel
theorem dX7_accept_38 : decode cX7_accept 38 = .ok (.invokevirtual 74, 3) := by decide +kernel
theorem dX7_accept_41 : decode cX7_accept 41 = .ok (.astore_n 3, 1) := by decide +kernel
theorem dX7_accept_42 : decode cX7_accept 42 = .ok (.aload_n 3, 1) := by decide +kernel
theorem dX7_accept_43 : decode cX7_accept 43 = .ok (.iload_n 1, 1) := by decide +kernel
theorem dX7_accept_44 : decode cX7_accept 44 = .ok (.aload_n 3, 1) := by decide +kernel
theorem dX7_accept_45 : decode cX7_accept 45 = .ok (.iload_n 1, 1) := by decide +kernel
theorem dX7_accept_46 : decode cX7_accept 46 = .ok (.invokevirtual 221, 3) := by decide +kernel
theorem dX7_accept_49 : decode cX7_accept 49 = .ok (.invokevirtual 224, 3) := by decide +kernel
theorem dX7_accept_52 : decode cX7_accept 52 = .ok (.aload_n 3, 1) := by decide +kernel
theorem dX7_accept_53 : decode cX7_accept 53 = .ok (.getfield 137, 3) := by decide +kernel
theorem dX7_accept_56 : decode cX7_accept 56 = .ok (.iload_n 1, 1) := by decide +kernel
theorem dX7_accept_57 : decode cX7_accept 57 = .ok (.iaload, 1) := by decide +kernel
theorem dX7_accept_58 : decode cX7_accept 58 = .ok (.ireturn, 1) := by decide +kernel
theorem dX7_pass_0 : decode cX7_pass 0 = .ok (.iload_n 1, 1) := by decide +kernel
theorem dX7_pass_1 : decode cX7_pass 1 = .ok (.iconst 1, 1) := by decide +kernel
theorem dX7_pass_2 : decode cX7_pass 2 = .ok (.bipush 100, 2) := by decide +kernel
theorem dX7_pass_4 : decode cX7_pass 4 = .ok (.invokestatic 153, 3) := by decide +kernel
theorem dX7_pass_7 : decode cX7_pass 7 = .ok (.aload_n 0, 1) := by decide +kernel
theorem dX7_pass_8 : decode cX7_pass 8 = .ok (.getfield 24, 3) := by decide +kernel
theorem dX7_pass_11 : decode cX7_pass 11 = .ok (.invokevirtual 90, 3) := by decide +kernel
theorem dX7_pass_14 : decode cX7_pass 14 = .ok (.getfield 106, 3) := by decide +kernel
theorem dX7_pass_17 : decode cX7_pass 17 = .ok (.iload_n 1, 1) := by decide +kernel
theorem dX7_pass_18 : decode cX7_pass 18 = .ok (.iadd, 1) := by decide +kernel
theorem dX7_pass_19 : decode cX7_pass 19 = .ok (.sipush 9999, 3) := by decide +kernel
theorem dX7_pass_22 : decode cX7_pass 22 = .ok (.if_icmp .le 13, 3) := by decide +kernel
theorem dX7_pass_25 : decode cX7_pass 25 = .ok (.new 181, 3) := by decide +kernel
theorem dX7_pass_28 : decode cX7_pass 28 = .ok (.dup, 1) := by decide +kernel
theorem dX7_pass_29 : decode cX7_pass 29 = .ok (.ldc 227, 2) := by decide +kernel
theorem dX7_pass_31 : decode cX7_pass 31 = .ok (.invokespecial 185, 3) := by decide +kernel
theorem dX7_pass_34 : decode cX7_pass 34 = .ok (.athrow, 1) := by decide +kernel
theorem dX7_pass_35 : decode cX7_pass 35 = .ok (.aload_n 0, 1) := by decide +kernel
theorem dX7_pass_36 : decode cX7_pass 36 = .ok (.getfield 24, 3) := by decide +kernel
theorem dX7_pass_39 : decode cX7_pass 39 = .ok (.invokevirtual 74, 3) := by decide +kernel
theorem dX7_pass_42 : decode cX7_pass 42 = .ok (.astore_n 2, 1) := by decide +kernel
theorem dX7_pass_43 : decode cX7_pass 43 = .ok (.iconst 0, 1) := by decide +kernel
theorem dX7_pass_44 : decode cX7_pass 44 = .ok (.istore_n 3, 1) := by decide +kernel
theorem dX7_pass_45 : decode cX7_pass 45 = .ok (.iconst 0, 1) := by decide +kernel
theorem dX7_pass_46 : decode cX7_pass 46 = .ok (.istore 4, 2) := by decide +kernel
theorem dX7_pass_48 : decode cX7_pass 48 = .ok (.iload 4, 2) := by decide +kernel
theorem dX7_pass_50 : decode cX7_pass 50 = .ok (.iload_n 1, 1) := by decide +kernel
theorem dX7_pass_51 : decode cX7_pass 51 = .ok (.if_icmp .ge 16, 3) := by decide +kernel
theorem dX7_pass_54 : decode cX7_pass 54 = .ok (.iload_n 3, 1) := by decide +kernel
theorem dX7_pass_55 : decode cX7_pass 55 = .ok (.aload_n 2, 1) := by decide +kernel
theorem dX7_pass_56 : decode cX7_pass 56 = .ok (.invokevirtual 229, 3) := by decide +kernel
theorem dX7_pass_59 : decode cX7_pass 59 = .ok (.iadd, 1) := by decide +kernel
theorem dX7_pass_60 : decode cX7_pass 60 = .ok (.istore_n 3, 1) := by decide +kernel
theorem dX7_pass_61 : decode cX7_pass 61 = .ok (.iinc 4 1, 3) := by decide +kernel
theorem dX7_pass_64 : decode cX7_pass 64 = .ok (.goto (-16), 3) := by decide +kernel
theorem dX7_pass_67 : decode cX7_pass 67 = .ok (.iload_n 3, 1) := by decide +kernel
theorem dX7_pass_68 : decode cX7_pass 68 = .ok (.ireturn, 1) := by decide +kernel
theorem dX7_undo_0 : decode cX7_undo 0 = .ok (.aload_n 0, 1) := by decide +kernel
theorem dX7_undo_1 : decode cX7_undo 1 = .ok (.getfield 24, 3) := by decide +kernel
theorem dX7_undo_4 : decode cX7_undo 4 = .ok (.invokevirtual 232, 3) := by decide +kernel
theorem dX7_undo_7 : decode cX7_undo 7 = .ok (.ireturn, 1) := by decide +kernel
theorem dX7_checksum_0 : decode cX7_checksum 0 = .ok (.aload_n 0, 1) := by decide +kernel
theorem dX7_checksum_1 : decode cX7_checksum 1 = .ok (.getfield 24, 3) := by decide +kernel
theorem dX7_checksum_4 : decode cX7_checksum 4 = .ok (.invokevirtual 90, 3) := by decide +kernel
theorem dX7_checksum_7 : decode cX7_checksum 7 = .ok (.astore_n 1, 1) := by decide +kernel
theorem dX7_checksum_8 : decode cX7_checksum 8 = .ok (.aload_n 1, 1) := by decide +kernel
theorem dX7_checksum_9 : decode cX7_checksum 9 = .ok (.getfield 106, 3) := by decide +kernel
theorem dX7_checksum_12 : decode cX7_checksum 12 = .ok (.i2l, 1) := by decide +kernel
theorem dX7_checksum_13 : decode cX7_checksum 13 = .ok (.lstore_n 2, 1) := by decide +kernel
theorem dX7_checksum_14 : decode cX7_checksum 14 = .ok (.iconst 0, 1) := by decide +kernel
theorem dX7_checksum_15 : decode cX7_checksum 15 = .ok (.istore 4, 2) := by decide +kernel
theorem dX7_checksum_17 : decode cX7_checksum 17 = .ok (.iload 4, 2) := by decide +kernel
theorem dX7_checksum_19 : decode cX7_checksum 19 = .ok (.aload_n 1, 1) := by decide +kernel
theorem dX7_checksum_20 : decode cX7_checksum 20 = .ok (.getfield 93, 3) := by decide +kernel
theorem dX7_checksum_23 : decode cX7_checksum 23 = .ok (.getfield 94, 3) := by decide +kernel
theorem dX7_checksum_26 : decode cX7_checksum 26 = .ok (.if_icmp .ge 24, 3) := by decide +kernel
theorem dX7_checksum_29 : decode cX7_checksum 29 = .ok (.ldc2_w 235, 3) := by decide +kernel
theorem dX7_checksum_32 : decode cX7_checksum 32 = .ok (.lload_n 2, 1) := by decide +kernel
theorem dX7_checksum_33 : decode cX7_checksum 33 = .ok (.lmul, 1) := by decide +kernel
theorem dX7_checksum_34 : decode cX7_checksum 34 = .ok (.aload_n 1, 1) := by decide +kernel
theorem dX7_checksum_35 : decode cX7_checksum 35 = .ok (.getfield 117, 3) := by decide +kernel
theorem dX7_checksum_38 : decode cX7_checksum 38 = .ok (.iload 4, 2) := by decide +kernel
theorem dX7_checksum_40 : decode cX7_checksum 40 = .ok (.iaload, 1) := by decide +kernel
theorem dX7_checksum_41 : decode cX7_checksum 41 = .ok (.i2l, 1) := by decide +kernel
theorem dX7_checksum_42 : decode cX7_checksum 42 = .ok (.ladd, 1) := by decide +kernel
theorem dX7_checksum_43 : decode cX7_checksum 43 = .ok (.lstore_n 2, 1) := by decide +kernel
theorem dX7_checksum_44 : decode cX7_checksum 44 = .ok (.iinc 4 1, 3) := by decide +kernel
theorem dX7_checksum_47 : decode cX7_checksum 47 = .ok (.goto (-30), 3) := by decide +kernel
theorem dX7_checksum_50 : decode cX7_checksum 50 = .ok (.iconst 0, 1) := by decide +kernel
theorem dX7_checksum_51 : decode cX7_checksum 51 = .ok (.istore 4, 2) := by decide +kernel
theorem dX7_checksum_53 : decode cX7_checksum 53 = .ok (.iload 4, 2) := by decide +kernel
theorem dX7_checksum_55 : decode cX7_checksum 55 = .ok (.aload_n 1, 1) := by decide +kernel
theorem dX7_checksum_56 : decode cX7_checksum 56 = .ok (.getfield 93, 3) := by decide +kernel
theorem dX7_checksum_59 : decode cX7_checksum 59 = .ok (.getfield 97, 3) := by decide +kernel
theorem dX7_checksum_62 : decode cX7_checksum 62 = .ok (.if_icmp .ge 24, 3) := by decide +kernel
theorem dX7_checksum_65 : decode cX7_checksum 65 = .ok (.ldc2_w 235, 3) := by decide +kernel
theorem dX7_checksum_68 : decode cX7_checksum 68 = .ok (.lload_n 2, 1) := by decide +kernel
theorem dX7_checksum_69 : decode cX7_checksum 69 = .ok (.lmul, 1) := by decide +kernel
theorem dX7_checksum_70 : decode cX7_checksum 70 = .ok (.aload_n 1, 1) := by decide +kernel
theorem dX7_checksum_71 : decode cX7_checksum 71 = .ok (.getfield 125, 3) := by decide +kernel
theorem dX7_checksum_74 : decode cX7_checksum 74 = .ok (.iload 4, 2) := by decide +kernel
theorem dX7_checksum_76 : decode cX7_checksum 76 = .ok (.iaload, 1) := by decide +kernel
theorem dX7_checksum_77 : decode cX7_checksum 77 = .ok (.i2l, 1) := by decide +kernel
theorem dX7_checksum_78 : decode cX7_checksum 78 = .ok (.ladd, 1) := by decide +kernel
theorem dX7_checksum_79 : decode cX7_checksum 79 = .ok (.lstore_n 2, 1) := by decide +kernel
theorem dX7_checksum_80 : decode cX7_checksum 80 = .ok (.iinc 4 1, 3) := by decide +kernel
theorem dX7_checksum_83 : decode cX7_checksum 83 = .ok (.goto (-30), 3) := by decide +kernel
theorem dX7_checksum_86 : decode cX7_checksum 86 = .ok (.ldc2_w 235, 3) := by decide +kernel
theorem dX7_checksum_89 : decode cX7_checksum 89 = .ok (.lload_n 2, 1) := by decide +kernel
theorem dX7_checksum_90 : decode cX7_checksum 90 = .ok (.lmul, 1) := by decide +kernel
theorem dX7_checksum_91 : decode cX7_checksum 91 = .ok (.aload_n 1, 1) := by decide +kernel
theorem dX7_checksum_92 : decode cX7_checksum 92 = .ok (.getfield 128, 3) := by decide +kernel
theorem dX7_checksum_95 : decode cX7_checksum 95 = .ok (.i2l, 1) := by decide +kernel
theorem dX7_checksum_96 : decode cX7_checksum 96 = .ok (.ladd, 1) := by decide +kernel
theorem dX7_checksum_97 : decode cX7_checksum 97 = .ok (.lstore_n 2, 1) := by decide +kernel
theorem dX7_checksum_98 : decode cX7_checksum 98 = .ok (.iconst 0, 1) := by decide +kernel
theorem dX7_checksum_99 : decode cX7_checksum 99 = .ok (.istore 4, 2) := by decide +kernel
theorem dX7_checksum_101 : decode cX7_checksum 101 = .ok (.iload 4, 2) := by decide +kernel
theorem dX7_checksum_103 : decode cX7_checksum 103 = .ok (.aload_n 1, 1) := by decide +kernel
theorem dX7_checksum_104 : decode cX7_checksum 104 = .ok (.getfield 100, 3) := by decide +kernel
theorem dX7_checksum_107 : decode cX7_checksum 107 = .ok (.if_icmp .ge 23, 3) := by decide +kernel
theorem dX7_checksum_110 : decode cX7_checksum 110 = .ok (.ldc2_w 235, 3) := by decide +kernel
theorem dX7_checksum_113 : decode cX7_checksum 113 = .ok (.lload_n 2, 1) := by decide +kernel
theorem dX7_checksum_114 : decode cX7_checksum 114 = .ok (.lmul, 1) := by decide +kernel
theorem dX7_checksum_115 : decode cX7_checksum 115 = .ok (.aload_n 1, 1) := by decide +kernel
theorem dX7_checksum_116 : decode cX7_checksum 116 = .ok (.iload 4, 2) := by decide +kernel
theorem dX7_checksum_118 : decode cX7_checksum 118 = .ok (.invokevirtual 131, 3) := by decide +kernel
theorem dX7_checksum_121 : decode cX7_checksum 121 = .ok (.i2l, 1) := by decide +kernel
theorem dX7_checksum_122 : decode cX7_checksum 122 = .ok (.ladd, 1) := by decide +kernel
theorem dX7_checksum_123 : decode cX7_checksum 123 = .ok (.lstore_n 2, 1) := by decide +kernel
theorem dX7_checksum_124 : decode cX7_checksum 124 = .ok (.iinc 4 1, 3) := by decide +kernel
theorem dX7_checksum_127 : decode cX7_checksum 127 = .ok (.goto (-26), 3) := by decide +kernel
theorem dX7_checksum_130 : decode cX7_checksum 130 = .ok (.iconst 0, 1) := by decide +kernel
theorem dX7_checksum_131 : decode cX7_checksum 131 = .ok (.istore 4, 2) := by decide +kernel
theorem dX7_checksum_133 : decode cX7_checksum 133 = .ok (.iload 4, 2) := by decide +kernel
theorem dX7_checksum_135 : decode cX7_checksum 135 = .ok (.aload_n 1, 1) := by decide +kernel
theorem dX7_checksum_136 : decode cX7_checksum 136 = .ok (.getfield 103, 3) := by decide +kernel
theorem dX7_checksum_139 : decode cX7_checksum 139 = .ok (.if_icmp .ge 54, 3) := by decide +kernel
theorem dX7_checksum_142 : decode cX7_checksum 142 = .ok (.ldc2_w 235, 3) := by decide +kernel
theorem dX7_checksum_145 : decode cX7_checksum 145 = .ok (.lload_n 2, 1) := by decide +kernel
theorem dX7_checksum_146 : decode cX7_checksum 146 = .ok (.lmul, 1) := by decide +kernel
theorem dX7_checksum_147 : decode cX7_checksum 147 = .ok (.aload_n 1, 1) := by decide +kernel
theorem dX7_checksum_148 : decode cX7_checksum 148 = .ok (.getfield 137, 3) := by decide +kernel
theorem dX7_checksum_151 : decode cX7_checksum 151 = .ok (.iload 4, 2) := by decide +kernel
theorem dX7_checksum_153 : decode cX7_checksum 153 = .ok (.iaload, 1) := by decide +kernel
theorem dX7_checksum_154 : decode cX7_checksum 154 = .ok (.i2l, 1) := by decide +kernel
theorem dX7_checksum_155 : decode cX7_checksum 155 = .ok (.ladd, 1) := by decide +kernel
theorem dX7_checksum_156 : decode cX7_checksum 156 = .ok (.lstore_n 2, 1) := by decide +kernel
theorem dX7_checksum_157 : decode cX7_checksum 157 = .ok (.ldc2_w 235, 3) := by decide +kernel
theorem dX7_checksum_160 : decode cX7_checksum 160 = .ok (.lload_n 2, 1) := by decide +kernel
theorem dX7_checksum_161 : decode cX7_checksum 161 = .ok (.lmul, 1) := by decide +kernel
theorem dX7_checksum_162 : decode cX7_checksum 162 = .ok (.aload_n 1, 1) := by decide +kernel
theorem dX7_checksum_163 : decode cX7_checksum 163 = .ok (.getfield 140, 3) := by decide +kernel
theorem dX7_checksum_166 : decode cX7_checksum 166 = .ok (.iload 4, 2) := by decide +kernel
theorem dX7_checksum_168 : decode cX7_checksum 168 = .ok (.iaload, 1) := by decide +kernel
theorem dX7_checksum_169 : decode cX7_checksum 169 = .ok (.i2l, 1) := by decide +kernel
theorem dX7_checksum_170 : decode cX7_checksum 170 = .ok (.ladd, 1) := by decide +kernel
theorem dX7_checksum_171 : decode cX7_checksum 171 = .ok (.lstore_n 2, 1) := by decide +kernel
theorem dX7_checksum_172 : decode cX7_checksum 172 = .ok (.ldc2_w 235, 3) := by decide +kernel
theorem dX7_checksum_175 : decode cX7_checksum 175 = .ok (.lload_n 2, 1) := by decide +kernel
theorem dX7_checksum_176 : decode cX7_checksum 176 = .ok (.lmul, 1) := by decide +kernel
theorem dX7_checksum_177 : decode cX7_checksum 177 = .ok (.aload_n 1, 1) := by decide +kernel
theorem dX7_checksum_178 : decode cX7_checksum 178 = .ok (.getfield 143, 3) := by decide +kernel
theorem dX7_checksum_181 : decode cX7_checksum 181 = .ok (.iload 4, 2) := by decide +kernel
theorem dX7_checksum_183 : decode cX7_checksum 183 = .ok (.iaload, 1) := by decide +kernel
theorem dX7_checksum_184 : decode cX7_checksum 184 = .ok (.i2l, 1) := by decide +kernel
theorem dX7_checksum_185 : decode cX7_checksum 185 = .ok (.ladd, 1) := by decide +kernel
theorem dX7_checksum_186 : decode cX7_checksum 186 = .ok (.lstore_n 2, 1) := by decide +kernel
theorem dX7_checksum_187 : decode cX7_checksum 187 = .ok (.iinc 4 1, 3) := by decide +kernel
theorem dX7_checksum_190 : decode cX7_checksum 190 = .ok (.goto (-57), 3) := by decide +kernel
theorem dX7_checksum_193 : decode cX7_checksum 193 = .ok (.lload_n 2, 1) := by decide +kernel
theorem dX7_checksum_194 : decode cX7_checksum 194 = .ok (.lreturn, 1) := by decide +kernel
theorem dX7_bookWithMerchant_0 : decode cX7_bookWithMerchant 0 = .ok (.aload_n 0, 1) := by decide +kernel
theorem dX7_bookWithMerchant_1 : decode cX7_bookWithMerchant 1 = .ok (.getfield 24, 3) := by decide +kernel
theorem dX7_bookWithMerchant_4 : decode cX7_bookWithMerchant 4 = .ok (.invokevirtual 90, 3) := by decide +kernel
theorem dX7_bookWithMerchant_7 : decode cX7_bookWithMerchant 7 = .ok (.astore_n 2, 1) := by decide +kernel
theorem dX7_bookWithMerchant_8 : decode cX7_bookWithMerchant 8 = .ok (.iload_n 1, 1) := by decide +kernel
theorem dX7_bookWithMerchant_9 : decode cX7_bookWithMerchant 9 = .ok (.aload_n 2, 1) := by decide +kernel
theorem dX7_bookWithMerchant_10 : decode cX7_bookWithMerchant 10 = .ok (.getfield 93, 3) := by decide +kernel
theorem dX7_bookWithMerchant_13 : decode cX7_bookWithMerchant 13 = .ok (.getfield 97, 3) := by decide +kernel
theorem dX7_bookWithMerchant_16 : decode cX7_bookWithMerchant 16 = .ok (.invokestatic 113, 3) := by decide +kernel
theorem dX7_bookWithMerchant_19 : decode cX7_bookWithMerchant 19 = .ok (.aload_n 2, 1) := by decide +kernel
theorem dX7_bookWithMerchant_20 : decode cX7_bookWithMerchant 20 = .ok (.areturn, 1) := by decide +kernel
theorem dX7_bookWithDispute_0 : decode cX7_bookWithDispute 0 = .ok (.aload_n 0, 1) := by decide +kernel
theorem dX7_bookWithDispute_1 : decode cX7_bookWithDispute 1 = .ok (.getfield 24, 3) := by decide +kernel
theorem dX7_bookWithDispute_4 : decode cX7_bookWithDispute 4 = .ok (.invokevirtual 90, 3) := by decide +kernel
theorem dX7_bookWithDispute_7 : decode cX7_bookWithDispute 7 = .ok (.astore_n 2, 1) := by decide +kernel
theorem dX7_bookWithDispute_8 : decode cX7_bookWithDispute 8 = .ok (.iload_n 1, 1) := by decide +kernel
theorem dX7_bookWithDispute_9 : decode cX7_bookWithDispute 9 = .ok (.aload_n 2, 1) := by decide +kernel
theorem dX7_bookWithDispute_10 : decode cX7_bookWithDispute 10 = .ok (.getfield 103, 3) := by decide +kernel
theorem dX7_bookWithDispute_13 : decode cX7_bookWithDispute 13 = .ok (.invokestatic 113, 3) := by decide +kernel
theorem dX7_bookWithDispute_16 : decode cX7_bookWithDispute 16 = .ok (.aload_n 2, 1) := by decide +kernel
theorem dX7_bookWithDispute_17 : decode cX7_bookWithDispute 17 = .ok (.areturn, 1) := by decide +kernel
theorem dX7_checkIndex_0 : decode cX7_checkIndex 0 = .ok (.iload_n 0, 1) := by decide +kernel
theorem dX7_checkIndex_1 : decode cX7_checkIndex 1 = .ok (.ifCond .lt 8, 3) := by decide +kernel
theorem dX7_checkIndex_4 : decode cX7_checkIndex 4 = .ok (.iload_n 0, 1) := by decide +kernel
theorem dX7_checkIndex_5 : decode cX7_checkIndex 5 = .ok (.iload_n 1, 1) := by decide +kernel
theorem dX7_checkIndex_6 : decode cX7_checkIndex 6 = .ok (.if_icmp .lt 13, 3) := by decide +kernel
theorem dX7_checkIndex_9 : decode cX7_checkIndex 9 = .ok (.new 237, 3) := by decide +kernel
theorem dX7_checkIndex_12 : decode cX7_checkIndex 12 = .ok (.dup, 1) := by decide +kernel
theorem dX7_checkIndex_13 : decode cX7_checkIndex 13 = .ok (.ldc 239, 2) := by decide +kernel
theorem dX7_checkIndex_15 : decode cX7_checkIndex 15 = .ok (.invokespecial 241, 3) := by decide +kernel
theorem dX7_checkIndex_18 : decode cX7_checkIndex 18 = .ok (.athrow, 1) := by decide +kernel
theorem dX7_checkIndex_19 : decode cX7_checkIndex 19 = .ok (.return_, 1) := by decide +kernel
theorem dX7_checkRange_0 : decode cX7_checkRange 0 = .ok (.iload_n 0, 1) := by decide +kernel
theorem dX7_checkRange_1 : decode cX7_checkRange 1 = .ok (.iload_n 1, 1) := by decide +kernel
theorem dX7_checkRange_2 : decode cX7_checkRange 2 = .ok (.if_icmp .lt 8, 3) := by decide +kernel
theorem dX7_checkRange_5 : decode cX7_checkRange 5 = .ok (.iload_n 0, 1) := by decide +kernel
theorem dX7_checkRange_6 : decode cX7_checkRange 6 = .ok (.iload_n 2, 1) := by decide +kernel
theorem dX7_checkRange_7 : decode cX7_checkRange 7 = .ok (.if_icmp .le 13, 3) := by decide +kernel
theorem dX7_checkRange_10 : decode cX7_checkRange 10 = .ok (.new 43, 3) := by decide +kernel
theorem dX7_checkRange_13 : decode cX7_checkRange 13 = .ok (.dup, 1) := by decide +kernel
theorem dX7_checkRange_14 : decode cX7_checkRange 14 = .ok (.ldc 242, 2) := by decide +kernel
theorem dX7_checkRange_16 : decode cX7_checkRange 16 = .ok (.invokespecial 47, 3) := by decide +kernel
theorem dX7_checkRange_19 : decode cX7_checkRange 19 = .ok (.athrow, 1) := by decide +kernel
theorem dX7_checkRange_20 : decode cX7_checkRange 20 = .ok (.return_, 1) := by decide +kernel
theorem dX7_checkState_0 : decode cX7_checkState 0 = .ok (.aload_n 0, 1) := by decide +kernel
theorem dX7_checkState_1 : decode cX7_checkState 1 = .ok (.getfield 137, 3) := by decide +kernel
theorem dX7_checkState_4 : decode cX7_checkState 4 = .ok (.iload_n 1, 1) := by decide +kernel
theorem dX7_checkState_5 : decode cX7_checkState 5 = .ok (.iaload, 1) := by decide +kernel
theorem dX7_checkState_6 : decode cX7_checkState 6 = .ok (.iload_n 2, 1) := by decide +kernel
theorem dX7_checkState_7 : decode cX7_checkState 7 = .ok (.if_icmp .eq 13, 3) := by decide +kernel
theorem dX7_checkState_10 : decode cX7_checkState 10 = .ok (.new 181, 3) := by decide +kernel
theorem dX7_checkState_13 : decode cX7_checkState 13 = .ok (.dup, 1) := by decide +kernel
theorem dX7_checkState_14 : decode cX7_checkState 14 = .ok (.ldc 244, 2) := by decide +kernel
theorem dX7_checkState_16 : decode cX7_checkState 16 = .ok (.invokespecial 185, 3) := by decide +kernel
theorem dX7_checkState_19 : decode cX7_checkState 19 = .ok (.athrow, 1) := by decide +kernel
theorem dX7_checkState_20 : decode cX7_checkState 20 = .ok (.return_, 1) := by decide +kernel
