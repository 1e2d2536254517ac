section
-- ===== PART A: goes FIRST, ahead of the names: the tables' words, and 'selects' of the private methods out of them =====
/-- a private method of a class that the tables say can be made, by its rows of tables_1 -/
def lw_okq (q : MethodName × Nat) : Prop := (q.1.cls ≠ "java/lang/invoke/MethodHandle" ∧ q.1.cls ≠ "java/lang/invoke/VarHandle") ∧ Cond.instantiable q.1.cls q.2 ∈ tables_1 ∧ Cond.privateMethod q.1 ∈ tables_1 ∧ Cond.instanceMethod q.1 ∈ tables_1
theorem lw_p0 : lw_okq (⟨"java/lang/Throwable", "fillInStackTrace", "(I)Ljava/lang/Throwable;"⟩, 6) := ⟨⟨by decide +kernel, by decide +kernel⟩, List.mem_of_getElem? (i := 366) (by decide +kernel), List.mem_of_getElem? (i := 364) (by decide +kernel), List.mem_of_getElem? (i := 365) (by decide +kernel)⟩
theorem lw_p1 : lw_okq (⟨"ChargebackProcessor$Tokens", "endOfDigits", "(I)I"⟩, 6) := ⟨⟨by decide +kernel, by decide +kernel⟩, List.mem_of_getElem? (i := 397) (by decide +kernel), List.mem_of_getElem? (i := 478) (by decide +kernel), List.mem_of_getElem? (i := 479) (by decide +kernel)⟩
theorem lw_p2 : lw_okq (⟨"ChargebackProcessor$Tokens", "valueOfDigits", "(II)I"⟩, 6) := ⟨⟨by decide +kernel, by decide +kernel⟩, List.mem_of_getElem? (i := 397) (by decide +kernel), List.mem_of_getElem? (i := 482) (by decide +kernel), List.mem_of_getElem? (i := 483) (by decide +kernel)⟩
theorem lw_p3 : lw_okq (⟨"ChargebackProcessor$Tokens", "add", "(III)V"⟩, 6) := ⟨⟨by decide +kernel, by decide +kernel⟩, List.mem_of_getElem? (i := 397) (by decide +kernel), List.mem_of_getElem? (i := 487) (by decide +kernel), List.mem_of_getElem? (i := 488) (by decide +kernel)⟩
theorem lw_p4 : lw_okq (⟨"ChargebackProcessor$Tokens", "endOfLetters", "(I)I"⟩, 6) := ⟨⟨by decide +kernel, by decide +kernel⟩, List.mem_of_getElem? (i := 397) (by decide +kernel), List.mem_of_getElem? (i := 494) (by decide +kernel), List.mem_of_getElem? (i := 495) (by decide +kernel)⟩
theorem lw_p5 : lw_okq (⟨"ChargebackProcessor$Tokens", "kindOfWord", "(II)I"⟩, 6) := ⟨⟨by decide +kernel, by decide +kernel⟩, List.mem_of_getElem? (i := 397) (by decide +kernel), List.mem_of_getElem? (i := 498) (by decide +kernel), List.mem_of_getElem? (i := 499) (by decide +kernel)⟩
theorem lw_p6 : lw_okq (⟨"ChargebackProcessor$Tokens", "isWord", "(Ljava/lang/String;II)Z"⟩, 6) := ⟨⟨by decide +kernel, by decide +kernel⟩, List.mem_of_getElem? (i := 397) (by decide +kernel), List.mem_of_getElem? (i := 503) (by decide +kernel), List.mem_of_getElem? (i := 504) (by decide +kernel)⟩
theorem lw_p7 : lw_okq (⟨"ChargebackProcessor$SetupReader", "isFine", "()Z"⟩, 9) := ⟨⟨by decide +kernel, by decide +kernel⟩, List.mem_of_getElem? (i := 395) (by decide +kernel), List.mem_of_getElem? (i := 564) (by decide +kernel), List.mem_of_getElem? (i := 565) (by decide +kernel)⟩
theorem lw_p8 : lw_okq (⟨"ChargebackProcessor$SetupReader", "kind", "()I"⟩, 9) := ⟨⟨by decide +kernel, by decide +kernel⟩, List.mem_of_getElem? (i := 395) (by decide +kernel), List.mem_of_getElem? (i := 568) (by decide +kernel), List.mem_of_getElem? (i := 569) (by decide +kernel)⟩
theorem lw_p9 : lw_okq (⟨"ChargebackProcessor$SetupReader", "readParties", "()V"⟩, 9) := ⟨⟨by decide +kernel, by decide +kernel⟩, List.mem_of_getElem? (i := 395) (by decide +kernel), List.mem_of_getElem? (i := 572) (by decide +kernel), List.mem_of_getElem? (i := 573) (by decide +kernel)⟩
theorem lw_p10 : lw_okq (⟨"ChargebackProcessor$SetupReader", "takeOnce", "(Z)V"⟩, 9) := ⟨⟨by decide +kernel, by decide +kernel⟩, List.mem_of_getElem? (i := 395) (by decide +kernel), List.mem_of_getElem? (i := 576) (by decide +kernel), List.mem_of_getElem? (i := 577) (by decide +kernel)⟩
theorem lw_p11 : lw_okq (⟨"ChargebackProcessor$SetupReader", "fail", "(I)V"⟩, 9) := ⟨⟨by decide +kernel, by decide +kernel⟩, List.mem_of_getElem? (i := 395) (by decide +kernel), List.mem_of_getElem? (i := 580) (by decide +kernel), List.mem_of_getElem? (i := 581) (by decide +kernel)⟩
theorem lw_p12 : lw_okq (⟨"ChargebackProcessor$SetupReader", "step", "()V"⟩, 9) := ⟨⟨by decide +kernel, by decide +kernel⟩, List.mem_of_getElem? (i := 395) (by decide +kernel), List.mem_of_getElem? (i := 584) (by decide +kernel), List.mem_of_getElem? (i := 585) (by decide +kernel)⟩
theorem lw_p13 : lw_okq (⟨"ChargebackProcessor$SetupReader", "takeNumber", "(II)I"⟩, 9) := ⟨⟨by decide +kernel, by decide +kernel⟩, List.mem_of_getElem? (i := 395) (by decide +kernel), List.mem_of_getElem? (i := 588) (by decide +kernel), List.mem_of_getElem? (i := 589) (by decide +kernel)⟩
theorem lw_p14 : lw_okq (⟨"ChargebackProcessor$SetupReader", "value", "()I"⟩, 9) := ⟨⟨by decide +kernel, by decide +kernel⟩, List.mem_of_getElem? (i := 395) (by decide +kernel), List.mem_of_getElem? (i := 592) (by decide +kernel), List.mem_of_getElem? (i := 593) (by decide +kernel)⟩
theorem lw_p15 : lw_okq (⟨"ChargebackProcessor$SetupReader", "readReason", "()V"⟩, 9) := ⟨⟨by decide +kernel, by decide +kernel⟩, List.mem_of_getElem? (i := 395) (by decide +kernel), List.mem_of_getElem? (i := 596) (by decide +kernel), List.mem_of_getElem? (i := 597) (by decide +kernel)⟩
def lw_privs_1 : List (MethodName × Nat) := [(⟨"java/lang/Throwable", "fillInStackTrace", "(I)Ljava/lang/Throwable;"⟩, 6), (⟨"ChargebackProcessor$Tokens", "endOfDigits", "(I)I"⟩, 6), (⟨"ChargebackProcessor$Tokens", "valueOfDigits", "(II)I"⟩, 6), (⟨"ChargebackProcessor$Tokens", "add", "(III)V"⟩, 6), (⟨"ChargebackProcessor$Tokens", "endOfLetters", "(I)I"⟩, 6), (⟨"ChargebackProcessor$Tokens", "kindOfWord", "(II)I"⟩, 6), (⟨"ChargebackProcessor$Tokens", "isWord", "(Ljava/lang/String;II)Z"⟩, 6), (⟨"ChargebackProcessor$SetupReader", "isFine", "()Z"⟩, 9), (⟨"ChargebackProcessor$SetupReader", "kind", "()I"⟩, 9), (⟨"ChargebackProcessor$SetupReader", "readParties", "()V"⟩, 9), (⟨"ChargebackProcessor$SetupReader", "takeOnce", "(Z)V"⟩, 9), (⟨"ChargebackProcessor$SetupReader", "fail", "(I)V"⟩, 9), (⟨"ChargebackProcessor$SetupReader", "step", "()V"⟩, 9), (⟨"ChargebackProcessor$SetupReader", "takeNumber", "(II)I"⟩, 9), (⟨"ChargebackProcessor$SetupReader", "value", "()I"⟩, 9), (⟨"ChargebackProcessor$SetupReader", "readReason", "()V"⟩, 9)]
theorem lw_r1 : ∀ q ∈ lw_privs_1, lw_okq q := List.forall_mem_cons.mpr ⟨lw_p0, List.forall_mem_cons.mpr ⟨lw_p1, List.forall_mem_cons.mpr ⟨lw_p2, List.forall_mem_cons.mpr ⟨lw_p3, List.forall_mem_cons.mpr ⟨lw_p4, List.forall_mem_cons.mpr ⟨lw_p5, List.forall_mem_cons.mpr ⟨lw_p6, List.forall_mem_cons.mpr ⟨lw_p7, List.forall_mem_cons.mpr ⟨lw_p8, List.forall_mem_cons.mpr ⟨lw_p9, List.forall_mem_cons.mpr ⟨lw_p10, List.forall_mem_cons.mpr ⟨lw_p11, List.forall_mem_cons.mpr ⟨lw_p12, List.forall_mem_cons.mpr ⟨lw_p13, List.forall_mem_cons.mpr ⟨lw_p14, List.forall_mem_cons.mpr ⟨lw_p15, fun _ h => absurd h List.not_mem_nil⟩⟩⟩⟩⟩⟩⟩⟩⟩⟩⟩⟩⟩⟩⟩⟩
theorem lw_p16 : lw_okq (⟨"ChargebackProcessor$SetupReader", "takeCode", "()I"⟩, 9) := ⟨⟨by decide +kernel, by decide +kernel⟩, List.mem_of_getElem? (i := 395) (by decide +kernel), List.mem_of_getElem? (i := 600) (by decide +kernel), List.mem_of_getElem? (i := 601) (by decide +kernel)⟩
theorem lw_p17 : lw_okq (⟨"ChargebackProcessor$SetupReader", "takeTypes", "()I"⟩, 9) := ⟨⟨by decide +kernel, by decide +kernel⟩, List.mem_of_getElem? (i := 395) (by decide +kernel), List.mem_of_getElem? (i := 605) (by decide +kernel), List.mem_of_getElem? (i := 606) (by decide +kernel)⟩
theorem lw_p18 : lw_okq (⟨"ChargebackProcessor$SetupReader", "readFees", "()V"⟩, 9) := ⟨⟨by decide +kernel, by decide +kernel⟩, List.mem_of_getElem? (i := 395) (by decide +kernel), List.mem_of_getElem? (i := 613) (by decide +kernel), List.mem_of_getElem? (i := 614) (by decide +kernel)⟩
theorem lw_p19 : lw_okq (⟨"ChargebackProcessor$SetupReader", "readScore", "()V"⟩, 9) := ⟨⟨by decide +kernel, by decide +kernel⟩, List.mem_of_getElem? (i := 395) (by decide +kernel), List.mem_of_getElem? (i := 617) (by decide +kernel), List.mem_of_getElem? (i := 618) (by decide +kernel)⟩
theorem lw_p20 : lw_okq (⟨"ChargebackProcessor$SetupReader", "readSum", "(I)V"⟩, 9) := ⟨⟨by decide +kernel, by decide +kernel⟩, List.mem_of_getElem? (i := 395) (by decide +kernel), List.mem_of_getElem? (i := 623) (by decide +kernel), List.mem_of_getElem? (i := 624) (by decide +kernel)⟩
theorem lw_p21 : lw_okq (⟨"ChargebackProcessor$SetupReader", "readTerm", "(I)V"⟩, 9) := ⟨⟨by decide +kernel, by decide +kernel⟩, List.mem_of_getElem? (i := 395) (by decide +kernel), List.mem_of_getElem? (i := 627) (by decide +kernel), List.mem_of_getElem? (i := 628) (by decide +kernel)⟩
theorem lw_p22 : lw_okq (⟨"ChargebackProcessor$SetupReader", "readFactor", "(I)V"⟩, 9) := ⟨⟨by decide +kernel, by decide +kernel⟩, List.mem_of_getElem? (i := 395) (by decide +kernel), List.mem_of_getElem? (i := 631) (by decide +kernel), List.mem_of_getElem? (i := 632) (by decide +kernel)⟩
theorem lw_p23 : lw_okq (⟨"ChargebackProcessor$SetupReader", "takeName", "(I)V"⟩, 9) := ⟨⟨by decide +kernel, by decide +kernel⟩, List.mem_of_getElem? (i := 395) (by decide +kernel), List.mem_of_getElem? (i := 636) (by decide +kernel), List.mem_of_getElem? (i := 637) (by decide +kernel)⟩
theorem lw_p24 : lw_okq (⟨"ChargebackProcessor$SetupReader", "readParentheses", "(I)V"⟩, 9) := ⟨⟨by decide +kernel, by decide +kernel⟩, List.mem_of_getElem? (i := 395) (by decide +kernel), List.mem_of_getElem? (i := 640) (by decide +kernel), List.mem_of_getElem? (i := 641) (by decide +kernel)⟩
theorem lw_p25 : lw_okq (⟨"ChargebackProcessor$SetupReader", "take", "(I)V"⟩, 9) := ⟨⟨by decide +kernel, by decide +kernel⟩, List.mem_of_getElem? (i := 395) (by decide +kernel), List.mem_of_getElem? (i := 644) (by decide +kernel), List.mem_of_getElem? (i := 645) (by decide +kernel)⟩
theorem lw_p26 : lw_okq (⟨"ChargebackProcessor$SetupReader", "readLimit", "()V"⟩, 9) := ⟨⟨by decide +kernel, by decide +kernel⟩, List.mem_of_getElem? (i := 395) (by decide +kernel), List.mem_of_getElem? (i := 648) (by decide +kernel), List.mem_of_getElem? (i := 649) (by decide +kernel)⟩
theorem lw_p27 : lw_okq (⟨"ChargebackProcessor", "bookWithMerchant", "(I)LChargebackProcessor$Book;"⟩, 3) := ⟨⟨by decide +kernel, by decide +kernel⟩, List.mem_of_getElem? (i := 25) (by decide +kernel), List.mem_of_getElem? (i := 709) (by decide +kernel), List.mem_of_getElem? (i := 710) (by decide +kernel)⟩
theorem lw_p28 : lw_okq (⟨"ChargebackProcessor", "bookWithDispute", "(I)LChargebackProcessor$Book;"⟩, 3) := ⟨⟨by decide +kernel, by decide +kernel⟩, List.mem_of_getElem? (i := 25) (by decide +kernel), List.mem_of_getElem? (i := 727) (by decide +kernel), List.mem_of_getElem? (i := 728) (by decide +kernel)⟩
theorem lw_p29 : lw_okq (⟨"ChargebackProcessor$Book", "scoreWith", "(II)I"⟩, 18) := ⟨⟨by decide +kernel, by decide +kernel⟩, List.mem_of_getElem? (i := 143) (by decide +kernel), List.mem_of_getElem? (i := 767) (by decide +kernel), List.mem_of_getElem? (i := 768) (by decide +kernel)⟩
theorem lw_p30 : lw_okq (⟨"ChargebackProcessor$Book", "isRecent", "(I)Z"⟩, 18) := ⟨⟨by decide +kernel, by decide +kernel⟩, List.mem_of_getElem? (i := 143) (by decide +kernel), List.mem_of_getElem? (i := 833) (by decide +kernel), List.mem_of_getElem? (i := 834) (by decide +kernel)⟩
theorem lw_p31 : lw_okq (⟨"ChargebackProcessor$Book", "merchantOf", "(I)I"⟩, 18) := ⟨⟨by decide +kernel, by decide +kernel⟩, List.mem_of_getElem? (i := 143) (by decide +kernel), List.mem_of_getElem? (i := 837) (by decide +kernel), List.mem_of_getElem? (i := 838) (by decide +kernel)⟩
def lw_privs_2 : List (MethodName × Nat) := [(⟨"ChargebackProcessor$SetupReader", "takeCode", "()I"⟩, 9), (⟨"ChargebackProcessor$SetupReader", "takeTypes", "()I"⟩, 9), (⟨"ChargebackProcessor$SetupReader", "readFees", "()V"⟩, 9), (⟨"ChargebackProcessor$SetupReader", "readScore", "()V"⟩, 9), (⟨"ChargebackProcessor$SetupReader", "readSum", "(I)V"⟩, 9), (⟨"ChargebackProcessor$SetupReader", "readTerm", "(I)V"⟩, 9), (⟨"ChargebackProcessor$SetupReader", "readFactor", "(I)V"⟩, 9), (⟨"ChargebackProcessor$SetupReader", "takeName", "(I)V"⟩, 9), (⟨"ChargebackProcessor$SetupReader", "readParentheses", "(I)V"⟩, 9), (⟨"ChargebackProcessor$SetupReader", "take", "(I)V"⟩, 9), (⟨"ChargebackProcessor$SetupReader", "readLimit", "()V"⟩, 9), (⟨"ChargebackProcessor", "bookWithMerchant", "(I)LChargebackProcessor$Book;"⟩, 3), (⟨"ChargebackProcessor", "bookWithDispute", "(I)LChargebackProcessor$Book;"⟩, 3), (⟨"ChargebackProcessor$Book", "scoreWith", "(II)I"⟩, 18), (⟨"ChargebackProcessor$Book", "isRecent", "(I)Z"⟩, 18), (⟨"ChargebackProcessor$Book", "merchantOf", "(I)I"⟩, 18)]
theorem lw_r2 : ∀ q ∈ lw_privs_2, lw_okq q := List.forall_mem_cons.mpr ⟨lw_p16, List.forall_mem_cons.mpr ⟨lw_p17, List.forall_mem_cons.mpr ⟨lw_p18, List.forall_mem_cons.mpr ⟨lw_p19, List.forall_mem_cons.mpr ⟨lw_p20, List.forall_mem_cons.mpr ⟨lw_p21, List.forall_mem_cons.mpr ⟨lw_p22, List.forall_mem_cons.mpr ⟨lw_p23, List.forall_mem_cons.mpr ⟨lw_p24, List.forall_mem_cons.mpr ⟨lw_p25, List.forall_mem_cons.mpr ⟨lw_p26, List.forall_mem_cons.mpr ⟨lw_p27, List.forall_mem_cons.mpr ⟨lw_p28, List.forall_mem_cons.mpr ⟨lw_p29, List.forall_mem_cons.mpr ⟨lw_p30, List.forall_mem_cons.mpr ⟨lw_p31, fun _ h => absurd h List.not_mem_nil⟩⟩⟩⟩⟩⟩⟩⟩⟩⟩⟩⟩⟩⟩⟩⟩
theorem lw_p32 : lw_okq (⟨"ChargebackProcessor$Book", "merchantGain", "(II)I"⟩, 18) := ⟨⟨by decide +kernel, by decide +kernel⟩, List.mem_of_getElem? (i := 143) (by decide +kernel), List.mem_of_getElem? (i := 874) (by decide +kernel), List.mem_of_getElem? (i := 875) (by decide +kernel)⟩
theorem lw_p33 : lw_okq (⟨"ChargebackProcessor$Book", "moveMoney", "(III)V"⟩, 18) := ⟨⟨by decide +kernel, by decide +kernel⟩, List.mem_of_getElem? (i := 143) (by decide +kernel), List.mem_of_getElem? (i := 908) (by decide +kernel), List.mem_of_getElem? (i := 909) (by decide +kernel)⟩
theorem lw_p34 : lw_okq (⟨"ChargebackProcessorModel", "fails", "(ZI)Z"⟩, 17) := ⟨⟨by decide +kernel, by decide +kernel⟩, List.mem_of_getElem? (i := 993) (by decide +kernel), List.mem_of_getElem? (i := 1072) (by decide +kernel), List.mem_of_getElem? (i := 1073) (by decide +kernel)⟩
theorem lw_p35 : lw_okq (⟨"ChargebackProcessorModel", "isGood", "()Z"⟩, 17) := ⟨⟨by decide +kernel, by decide +kernel⟩, List.mem_of_getElem? (i := 993) (by decide +kernel), List.mem_of_getElem? (i := 1076) (by decide +kernel), List.mem_of_getElem? (i := 1077) (by decide +kernel)⟩
theorem lw_p36 : lw_okq (⟨"ChargebackProcessorModel", "next", "()I"⟩, 17) := ⟨⟨by decide +kernel, by decide +kernel⟩, List.mem_of_getElem? (i := 993) (by decide +kernel), List.mem_of_getElem? (i := 1080) (by decide +kernel), List.mem_of_getElem? (i := 1081) (by decide +kernel)⟩
theorem lw_p37 : lw_okq (⟨"ChargebackProcessorModel", "byteAt", "(I)I"⟩, 17) := ⟨⟨by decide +kernel, by decide +kernel⟩, List.mem_of_getElem? (i := 993) (by decide +kernel), List.mem_of_getElem? (i := 1084) (by decide +kernel), List.mem_of_getElem? (i := 1085) (by decide +kernel)⟩
theorem lw_p38 : lw_okq (⟨"ChargebackProcessorModel", "statement", "()V"⟩, 17) := ⟨⟨by decide +kernel, by decide +kernel⟩, List.mem_of_getElem? (i := 993) (by decide +kernel), List.mem_of_getElem? (i := 1088) (by decide +kernel), List.mem_of_getElem? (i := 1089) (by decide +kernel)⟩
theorem lw_p39 : lw_okq (⟨"ChargebackProcessorModel", "takeWord", "(Ljava/lang/String;)Z"⟩, 17) := ⟨⟨by decide +kernel, by decide +kernel⟩, List.mem_of_getElem? (i := 993) (by decide +kernel), List.mem_of_getElem? (i := 1093) (by decide +kernel), List.mem_of_getElem? (i := 1094) (by decide +kernel)⟩
theorem lw_p40 : lw_okq (⟨"ChargebackProcessorModel", "once", "(II)V"⟩, 17) := ⟨⟨by decide +kernel, by decide +kernel⟩, List.mem_of_getElem? (i := 993) (by decide +kernel), List.mem_of_getElem? (i := 1099) (by decide +kernel), List.mem_of_getElem? (i := 1100) (by decide +kernel)⟩
theorem lw_p41 : lw_okq (⟨"ChargebackProcessorModel", "report", "(II)V"⟩, 17) := ⟨⟨by decide +kernel, by decide +kernel⟩, List.mem_of_getElem? (i := 993) (by decide +kernel), List.mem_of_getElem? (i := 1103) (by decide +kernel), List.mem_of_getElem? (i := 1104) (by decide +kernel)⟩
theorem lw_p42 : lw_okq (⟨"ChargebackProcessorModel", "number", "(II)I"⟩, 17) := ⟨⟨by decide +kernel, by decide +kernel⟩, List.mem_of_getElem? (i := 993) (by decide +kernel), List.mem_of_getElem? (i := 1107) (by decide +kernel), List.mem_of_getElem? (i := 1108) (by decide +kernel)⟩
theorem lw_p43 : lw_okq (⟨"ChargebackProcessorModel", "readReason", "(I)V"⟩, 17) := ⟨⟨by decide +kernel, by decide +kernel⟩, List.mem_of_getElem? (i := 993) (by decide +kernel), List.mem_of_getElem? (i := 1119) (by decide +kernel), List.mem_of_getElem? (i := 1120) (by decide +kernel)⟩
theorem lw_p44 : lw_okq (⟨"ChargebackProcessorModel", "readNeeds", "(I)V"⟩, 17) := ⟨⟨by decide +kernel, by decide +kernel⟩, List.mem_of_getElem? (i := 993) (by decide +kernel), List.mem_of_getElem? (i := 1127) (by decide +kernel), List.mem_of_getElem? (i := 1128) (by decide +kernel)⟩
theorem lw_p45 : lw_okq (⟨"ChargebackProcessorModel", "sum", "()V"⟩, 17) := ⟨⟨by decide +kernel, by decide +kernel⟩, List.mem_of_getElem? (i := 993) (by decide +kernel), List.mem_of_getElem? (i := 1133) (by decide +kernel), List.mem_of_getElem? (i := 1134) (by decide +kernel)⟩
theorem lw_p46 : lw_okq (⟨"ChargebackProcessorModel", "term", "()V"⟩, 17) := ⟨⟨by decide +kernel, by decide +kernel⟩, List.mem_of_getElem? (i := 993) (by decide +kernel), List.mem_of_getElem? (i := 1137) (by decide +kernel), List.mem_of_getElem? (i := 1138) (by decide +kernel)⟩
theorem lw_p47 : lw_okq (⟨"ChargebackProcessorModel", "factor", "()V"⟩, 17) := ⟨⟨by decide +kernel, by decide +kernel⟩, List.mem_of_getElem? (i := 993) (by decide +kernel), List.mem_of_getElem? (i := 1141) (by decide +kernel), List.mem_of_getElem? (i := 1142) (by decide +kernel)⟩
def lw_privs_3 : List (MethodName × Nat) := [(⟨"ChargebackProcessor$Book", "merchantGain", "(II)I"⟩, 18), (⟨"ChargebackProcessor$Book", "moveMoney", "(III)V"⟩, 18), (⟨"ChargebackProcessorModel", "fails", "(ZI)Z"⟩, 17), (⟨"ChargebackProcessorModel", "isGood", "()Z"⟩, 17), (⟨"ChargebackProcessorModel", "next", "()I"⟩, 17), (⟨"ChargebackProcessorModel", "byteAt", "(I)I"⟩, 17), (⟨"ChargebackProcessorModel", "statement", "()V"⟩, 17), (⟨"ChargebackProcessorModel", "takeWord", "(Ljava/lang/String;)Z"⟩, 17), (⟨"ChargebackProcessorModel", "once", "(II)V"⟩, 17), (⟨"ChargebackProcessorModel", "report", "(II)V"⟩, 17), (⟨"ChargebackProcessorModel", "number", "(II)I"⟩, 17), (⟨"ChargebackProcessorModel", "readReason", "(I)V"⟩, 17), (⟨"ChargebackProcessorModel", "readNeeds", "(I)V"⟩, 17), (⟨"ChargebackProcessorModel", "sum", "()V"⟩, 17), (⟨"ChargebackProcessorModel", "term", "()V"⟩, 17), (⟨"ChargebackProcessorModel", "factor", "()V"⟩, 17)]
theorem lw_r3 : ∀ q ∈ lw_privs_3, lw_okq q := List.forall_mem_cons.mpr ⟨lw_p32, List.forall_mem_cons.mpr ⟨lw_p33, List.forall_mem_cons.mpr ⟨lw_p34, List.forall_mem_cons.mpr ⟨lw_p35, List.forall_mem_cons.mpr ⟨lw_p36, List.forall_mem_cons.mpr ⟨lw_p37, List.forall_mem_cons.mpr ⟨lw_p38, List.forall_mem_cons.mpr ⟨lw_p39, List.forall_mem_cons.mpr ⟨lw_p40, List.forall_mem_cons.mpr ⟨lw_p41, List.forall_mem_cons.mpr ⟨lw_p42, List.forall_mem_cons.mpr ⟨lw_p43, List.forall_mem_cons.mpr ⟨lw_p44, List.forall_mem_cons.mpr ⟨lw_p45, List.forall_mem_cons.mpr ⟨lw_p46, List.forall_mem_cons.mpr ⟨lw_p47, fun _ h => absurd h List.not_mem_nil⟩⟩⟩⟩⟩⟩⟩⟩⟩⟩⟩⟩⟩⟩⟩⟩
theorem lw_p48 : lw_okq (⟨"ChargebackProcessorModel", "expect", "(I)V"⟩, 17) := ⟨⟨by decide +kernel, by decide +kernel⟩, List.mem_of_getElem? (i := 993) (by decide +kernel), List.mem_of_getElem? (i := 1145) (by decide +kernel), List.mem_of_getElem? (i := 1146) (by decide +kernel)⟩
theorem lw_p49 : lw_okq (⟨"ChargebackProcessorModel", "emit", "(I)V"⟩, 17) := ⟨⟨by decide +kernel, by decide +kernel⟩, List.mem_of_getElem? (i := 993) (by decide +kernel), List.mem_of_getElem? (i := 1153) (by decide +kernel), List.mem_of_getElem? (i := 1154) (by decide +kernel)⟩
theorem lw_p50 : lw_okq (⟨"ChargebackProcessorModel", "remember", "()V"⟩, 17) := ⟨⟨by decide +kernel, by decide +kernel⟩, List.mem_of_getElem? (i := 993) (by decide +kernel), List.mem_of_getElem? (i := 1158) (by decide +kernel), List.mem_of_getElem? (i := 1159) (by decide +kernel)⟩
theorem lw_p51 : lw_okq (⟨"ChargebackProcessorModel", "noIssuer", "(I)Z"⟩, 17) := ⟨⟨by decide +kernel, by decide +kernel⟩, List.mem_of_getElem? (i := 993) (by decide +kernel), List.mem_of_getElem? (i := 1201) (by decide +kernel), List.mem_of_getElem? (i := 1202) (by decide +kernel)⟩
theorem lw_p52 : lw_okq (⟨"ChargebackProcessorModel", "noMerchant", "(I)Z"⟩, 17) := ⟨⟨by decide +kernel, by decide +kernel⟩, List.mem_of_getElem? (i := 993) (by decide +kernel), List.mem_of_getElem? (i := 1209) (by decide +kernel), List.mem_of_getElem? (i := 1210) (by decide +kernel)⟩
theorem lw_p53 : lw_okq (⟨"ChargebackProcessorModel", "noPurchase", "(I)Z"⟩, 17) := ⟨⟨by decide +kernel, by decide +kernel⟩, List.mem_of_getElem? (i := 993) (by decide +kernel), List.mem_of_getElem? (i := 1221) (by decide +kernel), List.mem_of_getElem? (i := 1222) (by decide +kernel)⟩
theorem lw_p54 : lw_okq (⟨"ChargebackProcessorModel", "disputedOf", "(I)I"⟩, 17) := ⟨⟨by decide +kernel, by decide +kernel⟩, List.mem_of_getElem? (i := 993) (by decide +kernel), List.mem_of_getElem? (i := 1225) (by decide +kernel), List.mem_of_getElem? (i := 1226) (by decide +kernel)⟩
theorem lw_p55 : lw_okq (⟨"ChargebackProcessorModel", "noDispute", "(I)Z"⟩, 17) := ⟨⟨by decide +kernel, by decide +kernel⟩, List.mem_of_getElem? (i := 993) (by decide +kernel), List.mem_of_getElem? (i := 1236) (by decide +kernel), List.mem_of_getElem? (i := 1237) (by decide +kernel)⟩
theorem lw_p56 : lw_okq (⟨"ChargebackProcessorModel", "scoreOf", "([III)I"⟩, 17) := ⟨⟨by decide +kernel, by decide +kernel⟩, List.mem_of_getElem? (i := 993) (by decide +kernel), List.mem_of_getElem? (i := 1256) (by decide +kernel), List.mem_of_getElem? (i := 1257) (by decide +kernel)⟩
theorem lw_p57 : lw_okq (⟨"ChargebackProcessorModel", "wins", "([III)Z"⟩, 17) := ⟨⟨by decide +kernel, by decide +kernel⟩, List.mem_of_getElem? (i := 993) (by decide +kernel), List.mem_of_getElem? (i := 1281) (by decide +kernel), List.mem_of_getElem? (i := 1282) (by decide +kernel)⟩
theorem lw_p58 : lw_okq (⟨"ChargebackProcessorModel", "rateOf", "(I)I"⟩, 17) := ⟨⟨by decide +kernel, by decide +kernel⟩, List.mem_of_getElem? (i := 993) (by decide +kernel), List.mem_of_getElem? (i := 1300) (by decide +kernel), List.mem_of_getElem? (i := 1301) (by decide +kernel)⟩
theorem lw_p59 : lw_okq (⟨"ChargebackProcessorModel", "isLate", "(I)Z"⟩, 17) := ⟨⟨by decide +kernel, by decide +kernel⟩, List.mem_of_getElem? (i := 993) (by decide +kernel), List.mem_of_getElem? (i := 1304) (by decide +kernel), List.mem_of_getElem? (i := 1305) (by decide +kernel)⟩
theorem lw_p60 : lw_okq (⟨"ChargebackProcessorModel", "isAnyOpen", "([I)Z"⟩, 17) := ⟨⟨by decide +kernel, by decide +kernel⟩, List.mem_of_getElem? (i := 993) (by decide +kernel), List.mem_of_getElem? (i := 1323) (by decide +kernel), List.mem_of_getElem? (i := 1324) (by decide +kernel)⟩
theorem lw_p61 : lw_okq (⟨"ChargebackProcessorModel", "passDay", "([I)I"⟩, 17) := ⟨⟨by decide +kernel, by decide +kernel⟩, List.mem_of_getElem? (i := 993) (by decide +kernel), List.mem_of_getElem? (i := 1327) (by decide +kernel), List.mem_of_getElem? (i := 1328) (by decide +kernel)⟩
theorem lw_p62 : lw_okq (⟨"ChargebackProcessorModel", "goOn", "(III)V"⟩, 17) := ⟨⟨by decide +kernel, by decide +kernel⟩, List.mem_of_getElem? (i := 993) (by decide +kernel), List.mem_of_getElem? (i := 1356) (by decide +kernel), List.mem_of_getElem? (i := 1357) (by decide +kernel)⟩
def lw_privs_4 : List (MethodName × Nat) := [(⟨"ChargebackProcessorModel", "expect", "(I)V"⟩, 17), (⟨"ChargebackProcessorModel", "emit", "(I)V"⟩, 17), (⟨"ChargebackProcessorModel", "remember", "()V"⟩, 17), (⟨"ChargebackProcessorModel", "noIssuer", "(I)Z"⟩, 17), (⟨"ChargebackProcessorModel", "noMerchant", "(I)Z"⟩, 17), (⟨"ChargebackProcessorModel", "noPurchase", "(I)Z"⟩, 17), (⟨"ChargebackProcessorModel", "disputedOf", "(I)I"⟩, 17), (⟨"ChargebackProcessorModel", "noDispute", "(I)Z"⟩, 17), (⟨"ChargebackProcessorModel", "scoreOf", "([III)I"⟩, 17), (⟨"ChargebackProcessorModel", "wins", "([III)Z"⟩, 17), (⟨"ChargebackProcessorModel", "rateOf", "(I)I"⟩, 17), (⟨"ChargebackProcessorModel", "isLate", "(I)Z"⟩, 17), (⟨"ChargebackProcessorModel", "isAnyOpen", "([I)Z"⟩, 17), (⟨"ChargebackProcessorModel", "passDay", "([I)I"⟩, 17), (⟨"ChargebackProcessorModel", "goOn", "(III)V"⟩, 17)]
theorem lw_r4 : ∀ q ∈ lw_privs_4, lw_okq q := List.forall_mem_cons.mpr ⟨lw_p48, List.forall_mem_cons.mpr ⟨lw_p49, List.forall_mem_cons.mpr ⟨lw_p50, List.forall_mem_cons.mpr ⟨lw_p51, List.forall_mem_cons.mpr ⟨lw_p52, List.forall_mem_cons.mpr ⟨lw_p53, List.forall_mem_cons.mpr ⟨lw_p54, List.forall_mem_cons.mpr ⟨lw_p55, List.forall_mem_cons.mpr ⟨lw_p56, List.forall_mem_cons.mpr ⟨lw_p57, List.forall_mem_cons.mpr ⟨lw_p58, List.forall_mem_cons.mpr ⟨lw_p59, List.forall_mem_cons.mpr ⟨lw_p60, List.forall_mem_cons.mpr ⟨lw_p61, List.forall_mem_cons.mpr ⟨lw_p62, fun _ h => absurd h List.not_mem_nil⟩⟩⟩⟩⟩⟩⟩⟩⟩⟩⟩⟩⟩⟩⟩
def lw_privs : List (MethodName × Nat) := lw_privs_1 ++ (lw_privs_2 ++ (lw_privs_3 ++ (lw_privs_4)))
def lw_tbl : List Cond := k2_sels lw_privs ++ tables_1
theorem lw_privs_ok : ∀ q ∈ lw_privs, lw_okq q := by
  show ∀ q ∈ lw_privs_1 ++ (lw_privs_2 ++ (lw_privs_3 ++ (lw_privs_4))), lw_okq q
  exact List.forall_mem_append.mpr ⟨lw_r1, List.forall_mem_append.mpr ⟨lw_r2, List.forall_mem_append.mpr ⟨lw_r3, lw_r4⟩⟩⟩
-- ===== end of PART A; then your names; then what follows =====
end
section
/-! ===== BEGIN words of one list among another's, by their places ===== -/
theorem goodIn_r {big : List Cond} (ws : List Cond) (ps : List Nat) (hp : ws = ps.filterMap (fun i => big[i]?)) (h : ws.all goodWord = true) : GoodIn big ws := by
  intro w hw
  have h1 := List.all_eq_true.mp h w hw
  rw [hp] at hw
  obtain ⟨i, -, hi⟩ := List.mem_filterMap.mp hw
  have hm : w ∈ big := by first | exact List.mem_of_getElem? hi | exact List.getElem?_mem hi
  exact ⟨hm, good_of_word h1⟩
theorem goodIn_app {big a b : List Cond} (ha : GoodIn big a) (hb : GoodIn big b) : GoodIn big (a ++ b) := fun w h => (List.mem_append.mp h).elim (ha w) (hb w)
theorem goodIn_ca {big a b : List Cond} {c : Cond} (ha : GoodIn big (c :: a)) (hb : GoodIn big b) : GoodIn big (c :: (a ++ b)) := fun w h => (List.mem_cons.mp h).elim (fun e => ha w (List.mem_cons.mpr (Or.inl e))) (fun h => (List.mem_append.mp h).elim (fun h => ha w (List.mem_cons.mpr (Or.inr h))) (hb w))
theorem goodIn_sub {big ws : List Cond} (hm : ∀ w ∈ ws, w ∈ big) (h : ws.all goodWord = true) : GoodIn big ws := fun w hw => ⟨hm w hw, good_of_word (List.all_eq_true.mp h w hw)⟩
/-! ===== END ===== -/



/-! ===== BEGIN exceptions that leave a method, and their catching by the caller (launches without stack traces) ===== -/
section VXA
/-! The laws vx_back, vx_callV, vx_callS, vx_callSW, vx_throw0, vx_throwS follow proofs of the library, with one case more: JvmDerived/Free/Laws.lean (Back.of_free), Shelf42/LK1.lean (callV, callS), Shelf/KitTraced.lean (throwNew0V, throwNewS). -/
/-- where a method has thrown q: the class by its name, the cell, what was written, the world -/
def vx_T (XC : String → State → State → Prop) (st : State) (q : Addr) (t : State) (mc ms : Nat) (free : Addr → Prop) : Prop :=
  ∃ (E : String) (ce : Cell) (L : List Loc), XC E st t ∧ t.heap[q]? = some ce ∧ ce.vm = .none ∧ st.vm.findClass E = some ce.cls ∧ st.WarmedH t.vm ∧ st.sameButNew ({ t with vm := st.vm } : State) L mc ms ∧ ∀ z ∈ L, free z.base
def vx_Q (Qc : Array Value → State → Outcome → State → Prop) (XC : String → State → State → Prop) (mc ms : Nat) (free : Addr → Prop) : Array Value → State → Outcome → State → Prop := fun a st o t =>
  (Qc a st o t ∧ ∃ L, FrameEnd st o t L mc ms ∧ ∀ q ∈ L, free q.base) ∨ ∃ q, o = .threw q ∧ vx_T XC st q t mc ms free
/-- a callee that returns or throws -/
def vx_Met (l : Launch) (y : MethodName) (ws : List Cond) (rm : Room) (Pc : Array Value → State → Prop) (Qc : Array Value → State → Outcome → State → Prop) (XC : String → State → State → Prop) (mc ms : Nat) (free : Addr → Prop) : Prop :=
  MetFree l y (headSpec ws rm) Pc (fun _ _ _ _ _ => True) (vx_Q Qc XC mc ms free)
def vx_Post (XC : String → State → State → Prop) (mc ms : Nat) (free : Addr → Prop) : Pt → Array Value → Addr → Pt → Prop := fun A a q B =>
  ∃ (g : JFrame) (mk : MethodId) (t : State) (L : List Loc) (E : String) (ce : Cell), B.U.heap = t.heap ∧ B.U.vm = t.vm ∧ XC E (A.U.calling g mk a) t ∧ t.heap[q]? = some ce ∧ ce.vm = .none ∧ A.U.vm.findClass E = some ce.cls ∧ B.locs = A.locs ++ L ∧ (∀ z ∈ L, free z.base) ∧ B.cells = A.cells + mc ∧ B.slots = A.slots + ms
def vx_Back (l : Launch) (R : Room) (p : Program) (e : Env) (below : List Frame) (s : State) (sargs : Array Value) (y : MethodName) (len W9 : Nat)
    (Pre : Pt → Array Value → Prop) (Post : Pt → Array Value → Option Value → Pt → Prop) (PostX : Pt → Array Value → Addr → Pt → Prop) : Prop :=
  ∀ (m : MethodId) (meth : Method) (c : Code) (A : Pt) (g : JFrame) (ig : Instr) (mk : MethodId) (a : Array Value),
    Stand p l e R s m sargs below meth c A.U A.locs A.cells A.slots → g.method = m → g.locals.size = c.maxLocals → decode c.code g.pc = .ok (ig, len) →
    2 * g.monitorRoom + (g.stack.map fun v => v.category).sum ≤ W9 → A.U.methodNamed? y = some mk → Pre A a →
    (∃ (v : Option Value) (B : Pt), Stand p l e R s m sargs below meth c B.U B.locs B.cells B.slots ∧ Post A a v B ∧
      Steps p.tables e below (doInvoke e (A.U.setTop g) [] mk a).1 (B.U.setTop { g with pc := g.pc + len, stack := v.toList ++ g.stack })) ∨
    (∃ (q : Addr) (B : Pt), Stand p l e R s m sargs below meth c B.U B.locs B.cells B.slots ∧ PostX A a q B ∧
      Steps p.tables e below (doInvoke e (A.U.setTop g) [] mk a).1 ((B.U.setTop g).pushFrame (.throwing q)))
section Payer
variable {l : Launch} {R : Room} {p : Program} {e : Env} {below : List Frame} {s : State} {sargs : Array Value} {y : MethodName} {len W9 : Nat}
theorem vx_back {ws : List Cond} {rm : Room} {Pc : Array Value → State → Prop} {Qc : Array Value → State → Outcome → State → Prop} {XC : String → State → State → Prop} {mc ms : Nat} {free : Addr → Prop} {bytes : ByteArray} {maxL : Nat} {ret : Option FieldType}
    (hM : vx_Met l y ws rm Pc Qc XC mc ms free) (hblind : FrameBlind Pc) (hrc : rm.cells = mc) (hrs : rm.slots = ms)
    (hframes : rm.frames + 1 ≤ R.frames) (hlocals : W9 + (maxL + 11) + rm.locals ≤ R.locals)
    (hws : ∀ w ∈ ws, ∀ a' U, s.WarmedH U.vm → w.before a' U = true) (hcode : Cond.code y bytes maxL ret ∈ ws) (hinit : ∀ a' U, s.WarmedH U.vm → (Cond.initialized y.cls).before a' U = true) :
    vx_Back l R p e below s sargs y len W9 (PreOf R mc ms Pc) (PostOf Qc mc ms free) (vx_Post XC mc ms free) := by
  intro m meth c A g ig mk a X hg hsize hdg hW hn hp
  have h1 : (headSpec ws rm).pre.before a A.U = true := atoms_intro fun w hw => hws w hw _ _ X.warmed
  have h2 : (Cond.code y bytes maxL ret).before a A.U = true := hws _ hcode _ _ X.warmed
  have h3 : (Cond.initialized y.cls).before a A.U = true := hinit _ _ X.warmed
  have h4 : A.cells + (headSpec ws rm).room.cells ≤ R.cells := by rw [show (headSpec ws rm).room.cells = mc from hrc]; exact hp.1
  have h5 : A.slots + (headSpec ws rm).room.slots ≤ R.slots := by rw [show (headSpec ws rm).room.slots = ms from hrs]; exact hp.2.1
  have hPc : Pc a (A.U.calling g mk a) := hblind _ _ _ _ hp.2.2
  obtain ⟨U, Ls, c0, s0⟩ := A
  dsimp only [Pt.U, Pt.locs, Pt.cells, Pt.slots] at h1 h2 h3 h4 h5 X hn hPc ⊢
  obtain ⟨methY, cY, hmY, hcY, -, hlY, -, -, -, -⟩ := Cond.code_spec hn h2
  obtain ⟨kY, hkY, -⟩ := className_of_methodNamed hn
  have hinitY : kY.init = .initialized := Cond.initialized_spec (findClass_of_methodNamed hn) hkY h3
  have h : At U g.method c below := by rw [hg]; exact X.here
  have hlocals9 : W9 + (maxL + 11) + (headSpec ws rm).room.locals ≤ R.locals := hlocals
  have happ : (headSpec ws rm).appliesLoose y e.platform (U.calling g mk a) = true :=
    Spec.appliesLoose_calling (g := g) h hdg hn hkY hinitY
      (X.room_calling (g := g) (R' := (headSpec ws rm).room) hsize hmY hcY hframes (by rw [hlY]; omega) h4 h5) h1
  obtain ⟨mid, hmid⟩ := h.above
  have hfr : (U.setTop g).frames = (.java g :: mid) ++ below := by rw [State.frames_setTop' g h.top, hmid]; rfl
  obtain ⟨o, s₂, hsteps, -, hend, hq⟩ := Steps.callFree hM p X.admits X.cas X.clock (acts := []) hfr happ hPc trivial
  have hq' : vx_Q Qc XC mc ms free a (U.calling g mk a) o s₂ := hq
  rw [State.frames_setTop' g h.top] at hend
  obtain ⟨g₀, hg0⟩ := Option.isSome_iff_exists.mp h.top
  obtain ⟨r, hr⟩ := State.topJava?_eq_some.mp hg0
  have hr' : (({ U with heap := s₂.heap, slotsUsed := s₂.slotsUsed } : State).setVm s₂.vm).frames = .java g₀ :: r := hr
  rcases hq' with ⟨hqc, L, hfe, hL⟩ | ⟨q, rfl, E, ce, L, hx, hce, hcv, hcl, hW₂, hsm, hL⟩
  · obtain ⟨⟨v, rfl⟩, hW₂, e2, q2, q3, q4, q5, q6⟩ := id hfe
    have e3 : s₂ = ({ (U.calling g mk a).setFrames s₂.frames with heap := s₂.heap, slotsUsed := s₂.slotsUsed } : State).setVm s₂.vm := by
      have : s₂ = ({ s₂ with vm := (U.calling g mk a).vm } : State).setVm s₂.vm := rfl
      rw [e2] at this
      exact this
    obtain ⟨c₂, i₂, len₂, hc₂, hd₂, hf₂⟩ := hend
    have hW' : U.WarmedH s₂.vm := hW₂
    have hcc : c₂ = c := by
      have h1 : s₂.code? g.method = U.code? g.method := by
        rw [State.code?_eq, State.code?_eq, hW'.alike.method?]
      exact Option.some.inj (hc₂.symm.trans (h1.trans h.code))
    subst hcc
    have hlen : len₂ = len := by rw [hdg] at hd₂; cases hd₂; rfl
    subst hlen
    have hs₂ : s₂ = (({ U with heap := s₂.heap, slotsUsed := s₂.slotsUsed } : State).setVm s₂.vm).setTop { g with pc := g.pc + len₂, stack := v.toList ++ g.stack } := by
      refine e3.trans ?_
      rw [hf₂, State.calling_eq h.top, State.setFrames_setFrames, State.setTop_of_frames _ hr', hr]
      rfl
    have hsame : U.sameButNew ({ U with heap := s₂.heap, slotsUsed := s₂.slotsUsed } : State) L mc ms := by
      refine ⟨?_, q2, q3, q4, q5, q6⟩
      obtain ⟨t, ht, -⟩ := State.frames_cons hr
      show ({ U with heap := s₂.heap, slotsUsed := s₂.slotsUsed } : State) = { U.setFrames U.frames with heap := s₂.heap, slotsUsed := s₂.slotsUsed }
      rw [State.setFrames_self ht]
    subst hg
    refine Or.inl ⟨v, ⟨(({ U with heap := s₂.heap, slotsUsed := s₂.slotsUsed } : State).setVm s₂.vm), Ls ++ L, c0 + mc, s0 + ms⟩,
      ⟨X.admits, X.cas, X.clock, X.frames, X.room, X.hears, X.method, X.code, (X.here.setHeapUsed s₂.heap s₂.slotsUsed).setVm hW'.alike, X.tail, State.WarmedH.trans X.warmed hW', X.limits, X.bytes, X.same.trans (hsame.setVm s.vm)⟩,
      ⟨g, mk, s₂, L, rfl, rfl, hqc, rfl, hL, rfl, rfl⟩, ?_⟩
    show Steps p.tables e below _ ((({ U with heap := s₂.heap, slotsUsed := s₂.slotsUsed } : State).setVm s₂.vm).setTop { g with pc := g.pc + len₂, stack := v.toList ++ g.stack })
    rw [← hs₂]
    exact hsteps
  · obtain ⟨e2, q2, q3, q4, q5, q6⟩ := id hsm
    have e3 : s₂ = ({ (U.calling g mk a).setFrames s₂.frames with heap := s₂.heap, slotsUsed := s₂.slotsUsed } : State).setVm s₂.vm := by
      have : s₂ = ({ s₂ with vm := (U.calling g mk a).vm } : State).setVm s₂.vm := rfl
      rw [e2] at this
      exact this
    have hf₂ : s₂.frames = .throwing q :: .java g :: U.frames.tail := hend
    have hW' : U.WarmedH s₂.vm := hW₂
    have hs₂ : s₂ = ((({ U with heap := s₂.heap, slotsUsed := s₂.slotsUsed } : State).setVm s₂.vm).setTop g).pushFrame (.throwing q) := by
      refine e3.trans ?_
      rw [hf₂, State.calling_eq h.top, State.setFrames_setFrames, State.pushFrame, State.frames_setTop _ hr', State.setTop_of_frames _ hr', State.setFrames_setFrames, hr]
      rfl
    have hsame : U.sameButNew ({ U with heap := s₂.heap, slotsUsed := s₂.slotsUsed } : State) L mc ms := by
      refine ⟨?_, q2, q3, q4, q5, q6⟩
      obtain ⟨t, ht, -⟩ := State.frames_cons hr
      show ({ U with heap := s₂.heap, slotsUsed := s₂.slotsUsed } : State) = { U.setFrames U.frames with heap := s₂.heap, slotsUsed := s₂.slotsUsed }
      rw [State.setFrames_self ht]
    subst hg
    refine Or.inr ⟨q, ⟨(({ U with heap := s₂.heap, slotsUsed := s₂.slotsUsed } : State).setVm s₂.vm), Ls ++ L, c0 + mc, s0 + ms⟩,
      ⟨X.admits, X.cas, X.clock, X.frames, X.room, X.hears, X.method, X.code, (X.here.setHeapUsed s₂.heap s₂.slotsUsed).setVm hW'.alike, X.tail, State.WarmedH.trans X.warmed hW', X.limits, X.bytes, X.same.trans (hsame.setVm s.vm)⟩,
      ⟨g, mk, s₂, L, E, ce, rfl, rfl, hx, hce, hcv, hcl, rfl, hL, rfl, rfl⟩, ?_⟩
    show Steps p.tables e below _ (((({ U with heap := s₂.heap, slotsUsed := s₂.slotsUsed } : State).setVm s₂.vm).setTop g).pushFrame (.throwing q))
    rw [← hs₂]
    exact hsteps
end Payer
section Calls
variable {p : Program} {l : Launch} {e : Env} {R : Room} {s : State} {m : MethodId} {args : Array Value} {below : List Frame} {meth : Method} {c : Code} {T : State} {locs : List Loc} {cells slots : Nat}
theorem vx_callV (X : Stand p l e R s m args below meth c T locs cells slots) (hexec : p.tables.exec = Jvm.exec) {own C : String} {index : Nat} {y : MethodName} {bytes : ByteArray} {maxL : Nat} {ret : Option FieldType}
    (hown : s.vm.findClass own = some m.cls) (hlink : (Cond.methodLink own index y).before args s = true) (hinst : (Cond.instanceMethod y).before args s = true) (hsel : (Cond.selects C y y).before args s = true)
    (hcode : (Cond.code y bytes maxL ret).before args s = true) (hy : y.cls ≠ "java/lang/invoke/MethodHandle" ∧ y.cls ≠ "java/lang/invoke/VarHandle")
    {W9 : Nat} {Pre : Pt → Array Value → Prop} {Post : Pt → Array Value → Option Value → Pt → Prop} {PostX : Pt → Array Value → Addr → Pt → Prop} (hK : vx_Back l R p e below s args y 3 W9 Pre Post PostX)
    {b : Addr} {cellB : Cell} (hcell : T.heap[b]? = some cellB) (hobj : cellB.vm.isStatics = false) (hcls : s.vm.findClass C = some cellB.cls)
    {g : JFrame} (hg : g.method = m) (hsize : g.locals.size = c.maxLocals) {argsL rest : List Value} (hlen : ∀ sig, parseMethodDescriptor y.desc = some sig → argsL.length = sig.parameters.length)
    (hstack : g.stack = argsL.reverse ++ .ref b :: rest) (hW : 2 * g.monitorRoom + (rest.map fun v => v.category).sum ≤ W9) (hdg : decode c.code g.pc = .ok (.invokevirtual index, 3))
    (hpre : ∀ vm₁, s.WarmedH vm₁ → Pre ⟨T.setVm vm₁, locs, cells, slots⟩ (Value.ref b :: argsL).toArray) :
    (∃ (v : Option Value) (vm₁ : Vm) (B : Pt), s.WarmedH vm₁ ∧ Stand p l e R s m args below meth c B.U B.locs B.cells B.slots ∧ Post ⟨T.setVm vm₁, locs, cells, slots⟩ (Value.ref b :: argsL).toArray v B ∧
      ∀ target, Steps p.tables e below (B.U.setTop { g with pc := g.pc + 3, stack := v.toList ++ rest }) target → Steps p.tables e below (T.setTop g) target) ∨
    (∃ (q : Addr) (vm₁ : Vm) (B : Pt), s.WarmedH vm₁ ∧ Stand p l e R s m args below meth c B.U B.locs B.cells B.slots ∧ PostX ⟨T.setVm vm₁, locs, cells, slots⟩ (Value.ref b :: argsL).toArray q B ∧
      Steps p.tables e below (T.setTop g) ((B.U.setTop { g with stack := rest }).pushFrame (.throwing q))) := by
  obtain ⟨mk, methM, hnamed, hmethM, hstM, habM⟩ := Cond.instanceMethod_spec hinst
  obtain ⟨methM', cM, hmethM', -, -, -, -, -, -, hsigM⟩ := Cond.code_spec hnamed hcode
  cases hmethM.symm.trans hmethM'
  obtain ⟨c2, r2, m2, q1, q2, q3, q4, kP, hkP, hkPi⟩ := Cond.selects_spec hsel
  cases hcls.symm.trans q1
  cases (State.methodFound?_of_named hnamed hy).symm.trans q2
  cases hnamed.symm.trans q3
  have hselP : selectMethod e.platform s.vm cellB.cls mk = .method mk := by rw [Launch.admits_selectMethod X.admits]; exact q4
  obtain ⟨vm₁, X₁, hstep₁⟩ := X.invokevirtual hexec hown hlink hnamed hmethM hstM hkP hkPi hy (a := b) (cell := cellB) hcell
    (fun z h => by rw [h] at hobj; cases hobj) hselP hmethM habM hkP hkPi (g := g) hg (argsL := argsL) (rest := rest) (hlen _ hsigM) hstack hdg
  rcases hK m meth c ⟨T.setVm vm₁, locs, cells, slots⟩ { g with stack := rest } (.invokevirtual index) mk (Value.ref b :: argsL).toArray X₁ hg hsize hdg hW (X₁.named hnamed) (hpre vm₁ X₁.warmed) with ⟨v, B, X', hpost, hsteps⟩ | ⟨q, B, X', hpost, hsteps⟩
  · exact Or.inl ⟨v, vm₁, B, X₁.warmed, X', hpost, fun target h => hstep₁ _ fun acts => by rw [doInvoke_state]; exact hsteps.trans h⟩
  · exact Or.inr ⟨q, vm₁, B, X₁.warmed, X', hpost, hstep₁ _ fun acts => by rw [doInvoke_state]; exact hsteps⟩
theorem vx_callS (X : Stand p l e R s m args below meth c T locs cells slots) (hexec : p.tables.exec = Jvm.exec) {own : String} {index : Nat} {y : MethodName} {bytes : ByteArray} {maxL : Nat} {ret : Option FieldType}
    (hown : s.vm.findClass own = some m.cls) (hlink : (Cond.methodLink own index y).before args s = true) (hstat : (Cond.static y).before args s = true) (hinit : (Cond.initialized y.cls).before args s = true)
    (hcode : (Cond.code y bytes maxL ret).before args s = true) (hy : y.cls ≠ "java/lang/invoke/MethodHandle" ∧ y.cls ≠ "java/lang/invoke/VarHandle")
    {W9 : Nat} {Pre : Pt → Array Value → Prop} {Post : Pt → Array Value → Option Value → Pt → Prop} {PostX : Pt → Array Value → Addr → Pt → Prop} (hK : vx_Back l R p e below s args y 3 W9 Pre Post PostX)
    {g : JFrame} (hg : g.method = m) (hsize : g.locals.size = c.maxLocals) {argsL rest : List Value} (hlen : ∀ sig, parseMethodDescriptor y.desc = some sig → argsL.length = sig.parameters.length)
    (hstack : g.stack = argsL.reverse ++ rest) (hW : 2 * g.monitorRoom + (rest.map fun v => v.category).sum ≤ W9) (hdg : decode c.code g.pc = .ok (.invokestatic index, 3))
    (hpre : ∀ vm₁, s.WarmedH vm₁ → Pre ⟨T.setVm vm₁, locs, cells, slots⟩ argsL.toArray) :
    (∃ (v : Option Value) (vm₁ : Vm) (B : Pt), s.WarmedH vm₁ ∧ Stand p l e R s m args below meth c B.U B.locs B.cells B.slots ∧ Post ⟨T.setVm vm₁, locs, cells, slots⟩ argsL.toArray v B ∧
      ∀ target, Steps p.tables e below (B.U.setTop { g with pc := g.pc + 3, stack := v.toList ++ rest }) target → Steps p.tables e below (T.setTop g) target) ∨
    (∃ (q : Addr) (vm₁ : Vm) (B : Pt), s.WarmedH vm₁ ∧ Stand p l e R s m args below meth c B.U B.locs B.cells B.slots ∧ PostX ⟨T.setVm vm₁, locs, cells, slots⟩ argsL.toArray q B ∧
      Steps p.tables e below (T.setTop g) ((B.U.setTop { g with stack := rest }).pushFrame (.throwing q))) := by
  obtain ⟨mk, hnamed⟩ := Cond.code_named hcode
  obtain ⟨methM, cM, hmethM, -, -, -, -, -, -, hsigM⟩ := Cond.code_spec hnamed hcode
  have hstatic : methM.isStatic = true := Cond.static_spec hnamed hmethM hstat
  obtain ⟨kP, hkP, -⟩ := className_of_methodNamed hnamed
  have hinitP : kP.init = .initialized := Cond.initialized_spec (findClass_of_methodNamed hnamed) hkP hinit
  obtain ⟨vm₁, X₁, hstep₁⟩ := X.invokestatic hexec hown hlink hnamed hmethM hstatic hkP hinitP hy (g := g) hg (argsL := argsL) (rest := rest) (hlen _ hsigM) hstack hdg
  rcases hK m meth c ⟨T.setVm vm₁, locs, cells, slots⟩ { g with stack := rest } (.invokestatic index) mk argsL.toArray X₁ hg hsize hdg hW (X₁.named hnamed) (hpre vm₁ X₁.warmed) with ⟨v, B, X', hpost, hsteps⟩ | ⟨q, B, X', hpost, hsteps⟩
  · exact Or.inl ⟨v, vm₁, B, X₁.warmed, X', hpost, fun target h => hstep₁ _ fun acts => by rw [doInvoke_state]; exact hsteps.trans h⟩
  · exact Or.inr ⟨q, vm₁, B, X₁.warmed, X', hpost, hstep₁ _ fun acts => by rw [doInvoke_state]; exact hsteps⟩
end Calls
theorem vx_cls {s : State} {T : State} {vm₁ : Vm} {E : String} {k : ClassId} (hW : s.WarmedH vm₁) (h : (T.setVm vm₁).vm.findClass E = some k) : s.vm.findClass E = some k := by
  have h1 : vm₁.findClass E = some k := h
  rw [hW.alike.findClass] at h1
  exact h1
/-- the method's frame g, with q thrown over it -/
def vx_W (p : Program) (l : Launch) (e : Env) (R : Room) (s : State) (m : MethodId) (args : Array Value) (below : List Frame) (meth : Method) (c : Code) (H : Heap) (locs : List Loc) (cells slots : Nat) (Q : State → Prop) (g : JFrame) (q : Addr) : Prop :=
  ∀ T : State, T.heap = H → Stand p l e R s m args below meth c T locs cells slots → ∃ t, Steps p.tables e below ((T.setTop g).pushFrame (.throwing q)) t ∧ Q t
def vx_Run (p : Program) (l : Launch) (e : Env) (R : Room) (s : State) (m : MethodId) (args : Array Value) (below : List Frame) (meth : Method) (c : Code) (H : Heap) (locs : List Loc) (cells slots mc ms : Nat) (g : JFrame) (rest : List Value) (Qa : State → Outcome → State → Prop) (XC : String → State → State → Prop) (free : Addr → Prop) : Prop :=
  ∀ T : State, T.heap = H → Stand p l e R s m args below meth c T locs cells slots →
    (∃ (v : Option Value) (st₀ t T' : State) (L : List Loc), st₀.heap = H ∧ Stand p l e R s m args below meth c T' (locs ++ L) (cells + mc) (slots + ms) ∧ (∀ q ∈ L, free q.base) ∧ T'.heap = t.heap ∧ T'.vm = t.vm ∧ Qa st₀ (.returned v) t ∧
      Goes p e below T g T' { g with pc := g.pc + 3, stack := v.toList ++ rest }) ∨
    (∃ (q : Addr) (st₀ t T' : State) (L : List Loc) (E : String) (ce : Cell), st₀.heap = H ∧ Stand p l e R s m args below meth c T' (locs ++ L) (cells + mc) (slots + ms) ∧ (∀ z ∈ L, free z.base) ∧ T'.heap = t.heap ∧ T'.vm = t.vm ∧ XC E st₀ t ∧ t.heap[q]? = some ce ∧ ce.vm = .none ∧ s.vm.findClass E = some ce.cls ∧
      Steps p.tables e below (T.setTop g) ((T'.setTop { g with stack := rest }).pushFrame (.throwing q)))
def vx_X {S : Type} (px : S → Prop) (B : String → S → State → Prop) (A : Nat → Prop) : String → State → State → Prop := fun E st t => ∃ u : S, px u ∧ B E u t ∧ va_F A st t
section Runs
variable {p : Program} {l : Launch} {e : Env} {R : Room} {s : State} {m : MethodId} {args : Array Value} {below : List Frame} {meth : Method} {c : Code} {H : Heap} {locs : List Loc} {cells slots : Nat}
variable {y : MethodName} {bytes cc : ByteArray} {maxL nL mc ms n index : Nat} {ret : Option FieldType} {ws : List Cond} {rm : Room} {Pc : Array Value → State → Prop} {Qc : Array Value → State → Outcome → State → Prop} {XC : String → State → State → Prop} {free : Addr → Prop} {Ts : List Cond} {own C : String} {b : Addr} {As rest : List Value} {g : JFrame}
theorem vx_callBack (cb : CallB R s args own index y bytes maxL ret ws rm mc ms n) (hM : vx_Met l y ws rm Pc Qc XC mc ms free) (hbl : FrameBlind Pc) : vx_Back l R p e below s args y 3 8 (PreOf R mc ms Pc) (PostOf Qc mc ms free) (vx_Post XC mc ms free) := by
  obtain ⟨hrc, hrs, hfr, hlo, hws, hcw, -, hini, -⟩ := cb
  exact vx_back (bytes := bytes) (maxL := maxL) (ret := ret) hM hbl hrc hrs hfr hlo hws hcw (fun a' U hW => word_at hW (Or.inl (by first | rfl | simp [Cond.onTables, Cond.keeps, Cond.steady])) hini)
theorem vx_runV (S : CallFix p m c cc nL s args Ts own) (hM : vx_Met l y ws rm Pc Qc XC mc ms free) (cw : CallW R s args own C index y bytes maxL ret ws rm mc ms n) (hp : PreV s H C b Pc As)
    (hg : g.method = m) (hn : As.length = n) (hsize : g.locals.size = nL) (hstack : g.stack = As.reverse ++ .ref b :: rest) (hW : 2 * g.monitorRoom + (rest.map fun v => v.category).sum ≤ 8) (hdg : decode cc g.pc = .ok (.invokevirtual index, 3)) (hf : cells + mc ≤ R.cells ∧ slots + ms ≤ R.slots) :
    vx_Run p l e R s m args below meth c H locs cells slots mc ms g rest (Qc (Value.ref b :: As).toArray) XC free := by
  have hK : vx_Back l R p e below s args y 3 8 (PreOf R mc ms Pc) (PostOf Qc mc ms free) (vx_Post XC mc ms free) := vx_callBack cw.1 hM hp.1
  obtain ⟨⟨-, -, -, -, -, -, hcode, -, hy, hlen, hl⟩, hin, hse⟩ := cw
  obtain ⟨hx, hb, hml, ho, -⟩ := S
  obtain ⟨-, ⟨cellB, hcB, hoB, hclB⟩, hPc⟩ := hp
  intro T hT X
  rcases vx_callV X hx (C := C) (bytes := bytes) (maxL := maxL) (ret := ret) ho hl hin hse hcode hy hK (by rw [hT]; exact hcB) hoB hclB hg (hsize.trans hml.symm) (argsL := As) (rest := rest) (fun sig h => hn.trans (hlen sig h)) hstack hW (by rw [hb]; exact hdg)
    (fun vm₁ hW₁ => ⟨hf.1, hf.2, hPc (T.setVm vm₁) hT hW₁⟩) with ⟨v, vm₁, ⟨U', l2, c2, s2⟩, hW₁, X', ⟨g', mk, t, L, e1, e2, hq, h1, hL, h2, h3⟩, st⟩ | ⟨q, vm₁, ⟨U', l2, c2, s2⟩, hW₁, X', ⟨g', mk, t, L, E, ce, e1, e2, hq, hce, hcv, hcl, h1, hL, h2, h3⟩, st⟩
  · dsimp only [Pt.U, Pt.locs, Pt.cells, Pt.slots] at X' e1 e2 h1 h2 h3 st
    subst h1; subst h2; subst h3
    exact Or.inl ⟨v, (T.setVm vm₁).calling g' mk (Value.ref b :: As).toArray, t, U', L, hT, X', hL, e1, e2, hq, st⟩
  · dsimp only [Pt.U, Pt.locs, Pt.cells, Pt.slots] at X' e1 e2 h1 h2 h3 st hcl
    subst h1; subst h2; subst h3
    exact Or.inr ⟨q, (T.setVm vm₁).calling g' mk (Value.ref b :: As).toArray, t, U', L, E, ce, hT, X', hL, e1, e2, hq, hce, hcv, vx_cls hW₁ hcl, st⟩
theorem vx_runS (S : CallFix p m c cc nL s args Ts own) (hM : vx_Met l y ws rm Pc Qc XC mc ms free) (cw : CallB R s args own index y bytes maxL ret ws rm mc ms n ∧ (Cond.static y).before args s = true) (hp : PreS s H Pc As)
    (hg : g.method = m) (hn : As.length = n) (hsize : g.locals.size = nL) (hstack : g.stack = As.reverse ++ rest) (hW : 2 * g.monitorRoom + (rest.map fun v => v.category).sum ≤ 8) (hdg : decode cc g.pc = .ok (.invokestatic index, 3)) (hf : cells + mc ≤ R.cells ∧ slots + ms ≤ R.slots) :
    vx_Run p l e R s m args below meth c H locs cells slots mc ms g rest (Qc As.toArray) XC free := by
  have hK : vx_Back l R p e below s args y 3 8 (PreOf R mc ms Pc) (PostOf Qc mc ms free) (vx_Post XC mc ms free) := vx_callBack cw.1 hM hp.1
  obtain ⟨⟨-, -, -, -, -, -, hcode, hini, hy, hlen, hl⟩, hstt⟩ := cw
  obtain ⟨hx, hb, hml, ho, -⟩ := S
  intro T hT X
  rcases vx_callS X hx (bytes := bytes) (maxL := maxL) (ret := ret) ho hl hstt hini hcode hy hK hg (hsize.trans hml.symm) (argsL := As) (rest := rest) (fun sig h => hn.trans (hlen sig h)) hstack hW (by rw [hb]; exact hdg)
    (fun vm₁ hW₁ => ⟨hf.1, hf.2, hp.2 (T.setVm vm₁) hT hW₁⟩) with ⟨v, vm₁, ⟨U', l2, c2, s2⟩, hW₁, X', ⟨g', mk, t, L, e1, e2, hq, h1, hL, h2, h3⟩, st⟩ | ⟨q, vm₁, ⟨U', l2, c2, s2⟩, hW₁, X', ⟨g', mk, t, L, E, ce, e1, e2, hq, hce, hcv, hcl, h1, hL, h2, h3⟩, st⟩
  · dsimp only [Pt.U, Pt.locs, Pt.cells, Pt.slots] at X' e1 e2 h1 h2 h3 st
    subst h1; subst h2; subst h3
    exact Or.inl ⟨v, (T.setVm vm₁).calling g' mk As.toArray, t, U', L, hT, X', hL, e1, e2, hq, st⟩
  · dsimp only [Pt.U, Pt.locs, Pt.cells, Pt.slots] at X' e1 e2 h1 h2 h3 st hcl
    subst h1; subst h2; subst h3
    exact Or.inr ⟨q, (T.setVm vm₁).calling g' mk As.toArray, t, U', L, E, ce, hT, X', hL, e1, e2, hq, hce, hcv, vx_cls hW₁ hcl, st⟩
end Runs
section Rows
variable {p : Program} {l : Launch} {e : Env} {R : Room} {s : State} {m : MethodId} {args : Array Value} {below : List Frame} {meth : Method} {c : Code} {H : Heap} {locs : List Loc} {cells slots : Nat} {Q : State → Prop}
variable {mc ms : Nat} {free : Addr → Prop} {A0 A1 : Nat → Prop} {H0 : Heap} {a : Array Value} {pc : Nat} {ls : Array Slot} {st0 rest : List Value}
theorem vx_keep {st₀ t T' : State} {L : List Loc} (h0 : st₀.heap = H) (e1 : T'.heap = t.heap) (hS : va_S A0 H0 H locs) (hA : ∀ q, q < H.size → A1 q → A0 q) (hf : ∀ q, free q → A0 q) (hL : ∀ q ∈ L, free q.base) (hF : va_F A1 st₀ t) :
    H.size ≤ T'.heap.size ∧ (∀ q : Nat, q < H.size → ¬ A1 q → T'.heap[q]? = H[q]?) ∧ va_S A0 H0 T'.heap (locs ++ L) := by
  obtain ⟨hz, hk⟩ := hF
  rw [h0] at hz hk
  exact ⟨by rw [e1]; exact hz, fun q h1 h2 => by rw [e1]; exact hk q h1 h2,
    ⟨Nat.le_trans hS.1 (by rw [e1]; exact hz), fun q h1 h2 => by rw [e1, hk q (Nat.lt_of_lt_of_le h1 hS.1) (fun z => h2 (hA q (Nat.lt_of_lt_of_le h1 hS.1) z))]; exact hS.2.1 q h1 h2, fun q hq => by
      rcases List.mem_append.mp hq with h | h
      · exact hS.2.2 q h
      · exact hf _ (hL q h)⟩⟩
theorem vx_calli {S SX : Type} {post : Int32 → S → Prop} {px : SX → Prop} {B : S → State → Prop} {BX : String → SX → State → Prop} {AX : Nat → Prop} (hr : vx_Run p l e R s m args below meth c H locs cells slots mc ms (F0 m pc ls st0) rest (va_Qi post B A1 a) (vx_X px BX AX) free) (hS : va_S A0 H0 H locs) (hA : ∀ q, q < H.size → A1 q → A0 q) (hf : ∀ q, free q → A0 q) (hAX : ∀ q, q < H.size → AX q → A0 q)
    (kx : ∀ (E : String) (ce : Cell) (q9 : Addr) (u : SX) (t : State) (H1 : Heap) (locs1 : List Loc), t.heap = H1 → s.vm.Alike t.vm → px u → BX E u t → H.size ≤ H1.size → (∀ q : Nat, q < H.size → ¬ AX q → H1[q]? = H[q]?) → va_S A0 H0 H1 locs1 → H1[q9]? = some ce → ce.vm = .none → s.vm.findClass E = some ce.cls → vx_W p l e R s m args below meth c H1 locs1 (cells + mc) (slots + ms) Q (F0 m pc ls rest) q9)
    (kk : ∀ (r : Int32) (u : S) (t : State) (H1 : Heap) (locs1 : List Loc), t.heap = H1 → s.vm.Alike t.vm → post r u → B u t → H.size ≤ H1.size → (∀ q : Nat, q < H.size → ¬ A1 q → H1[q]? = H[q]?) → va_S A0 H0 H1 locs1 → W p l e R s m args below meth c H1 locs1 (cells + mc) (slots + ms) Q (F0 m (pc + 3) ls (.int r :: rest))) : W p l e R s m args below meth c H locs cells slots Q (F0 m pc ls st0) := by
  intro T hT X
  rcases hr T hT X with ⟨v, st₀, t, T', L, h0, X', hL, e1, e2, ⟨⟨r, u, hv, hp, hb⟩, hF⟩, st⟩ | ⟨q, st₀, t, T', L, E, ce, h0, X', hL, e1, e2, ⟨u, hp, hb, hF⟩, hce, hcv, hcl, st⟩
  · cases hv
    obtain ⟨k1, k2, k3⟩ := vx_keep h0 e1 hS hA hf hL hF
    obtain ⟨t2, a1, b1⟩ := kk r u t T'.heap (locs ++ L) e1.symm (by rw [← e2]; exact X'.warmed.alike) hp hb k1 k2 k3 T' rfl X'
    exact ⟨t2, st t2 a1, b1⟩
  · obtain ⟨k1, k2, k3⟩ := vx_keep h0 e1 hS hAX hf hL hF
    obtain ⟨t2, a1, b1⟩ := kx E ce q u t T'.heap (locs ++ L) e1.symm (by rw [← e2]; exact X'.warmed.alike) hp hb k1 k2 k3 (by rw [e1]; exact hce) hcv hcl T' rfl X'
    exact ⟨t2, st.trans a1, b1⟩
theorem vx_calll {S SX : Type} {post : Int64 → S → Prop} {px : SX → Prop} {B : S → State → Prop} {BX : String → SX → State → Prop} {AX : Nat → Prop} (hr : vx_Run p l e R s m args below meth c H locs cells slots mc ms (F0 m pc ls st0) rest (va_Ql post B A1 a) (vx_X px BX AX) free) (hS : va_S A0 H0 H locs) (hA : ∀ q, q < H.size → A1 q → A0 q) (hf : ∀ q, free q → A0 q) (hAX : ∀ q, q < H.size → AX q → A0 q)
    (kx : ∀ (E : String) (ce : Cell) (q9 : Addr) (u : SX) (t : State) (H1 : Heap) (locs1 : List Loc), t.heap = H1 → s.vm.Alike t.vm → px u → BX E u t → H.size ≤ H1.size → (∀ q : Nat, q < H.size → ¬ AX q → H1[q]? = H[q]?) → va_S A0 H0 H1 locs1 → H1[q9]? = some ce → ce.vm = .none → s.vm.findClass E = some ce.cls → vx_W p l e R s m args below meth c H1 locs1 (cells + mc) (slots + ms) Q (F0 m pc ls rest) q9)
    (kk : ∀ (r : Int64) (u : S) (t : State) (H1 : Heap) (locs1 : List Loc), t.heap = H1 → s.vm.Alike t.vm → post r u → B u t → H.size ≤ H1.size → (∀ q : Nat, q < H.size → ¬ A1 q → H1[q]? = H[q]?) → va_S A0 H0 H1 locs1 → W p l e R s m args below meth c H1 locs1 (cells + mc) (slots + ms) Q (F0 m (pc + 3) ls (.long r :: rest))) : W p l e R s m args below meth c H locs cells slots Q (F0 m pc ls st0) := by
  intro T hT X
  rcases hr T hT X with ⟨v, st₀, t, T', L, h0, X', hL, e1, e2, ⟨⟨r, u, hv, hp, hb⟩, hF⟩, st⟩ | ⟨q, st₀, t, T', L, E, ce, h0, X', hL, e1, e2, ⟨u, hp, hb, hF⟩, hce, hcv, hcl, st⟩
  · cases hv
    obtain ⟨k1, k2, k3⟩ := vx_keep h0 e1 hS hA hf hL hF
    obtain ⟨t2, a1, b1⟩ := kk r u t T'.heap (locs ++ L) e1.symm (by rw [← e2]; exact X'.warmed.alike) hp hb k1 k2 k3 T' rfl X'
    exact ⟨t2, st t2 a1, b1⟩
  · obtain ⟨k1, k2, k3⟩ := vx_keep h0 e1 hS hAX hf hL hF
    obtain ⟨t2, a1, b1⟩ := kx E ce q u t T'.heap (locs ++ L) e1.symm (by rw [← e2]; exact X'.warmed.alike) hp hb k1 k2 k3 (by rw [e1]; exact hce) hcv hcl T' rfl X'
    exact ⟨t2, st.trans a1, b1⟩
theorem vx_callf {S SX : Type} {post : UInt32 → S → Prop} {px : SX → Prop} {B : S → State → Prop} {BX : String → SX → State → Prop} {AX : Nat → Prop} (hr : vx_Run p l e R s m args below meth c H locs cells slots mc ms (F0 m pc ls st0) rest (va_Qf post B A1 a) (vx_X px BX AX) free) (hS : va_S A0 H0 H locs) (hA : ∀ q, q < H.size → A1 q → A0 q) (hf : ∀ q, free q → A0 q) (hAX : ∀ q, q < H.size → AX q → A0 q)
    (kx : ∀ (E : String) (ce : Cell) (q9 : Addr) (u : SX) (t : State) (H1 : Heap) (locs1 : List Loc), t.heap = H1 → s.vm.Alike t.vm → px u → BX E u t → H.size ≤ H1.size → (∀ q : Nat, q < H.size → ¬ AX q → H1[q]? = H[q]?) → va_S A0 H0 H1 locs1 → H1[q9]? = some ce → ce.vm = .none → s.vm.findClass E = some ce.cls → vx_W p l e R s m args below meth c H1 locs1 (cells + mc) (slots + ms) Q (F0 m pc ls rest) q9)
    (kk : ∀ (r : UInt32) (u : S) (t : State) (H1 : Heap) (locs1 : List Loc), t.heap = H1 → s.vm.Alike t.vm → post r u → B u t → H.size ≤ H1.size → (∀ q : Nat, q < H.size → ¬ A1 q → H1[q]? = H[q]?) → va_S A0 H0 H1 locs1 → W p l e R s m args below meth c H1 locs1 (cells + mc) (slots + ms) Q (F0 m (pc + 3) ls (.float r :: rest))) : W p l e R s m args below meth c H locs cells slots Q (F0 m pc ls st0) := by
  intro T hT X
  rcases hr T hT X with ⟨v, st₀, t, T', L, h0, X', hL, e1, e2, ⟨⟨r, u, hv, hp, hb⟩, hF⟩, st⟩ | ⟨q, st₀, t, T', L, E, ce, h0, X', hL, e1, e2, ⟨u, hp, hb, hF⟩, hce, hcv, hcl, st⟩
  · cases hv
    obtain ⟨k1, k2, k3⟩ := vx_keep h0 e1 hS hA hf hL hF
    obtain ⟨t2, a1, b1⟩ := kk r u t T'.heap (locs ++ L) e1.symm (by rw [← e2]; exact X'.warmed.alike) hp hb k1 k2 k3 T' rfl X'
    exact ⟨t2, st t2 a1, b1⟩
  · obtain ⟨k1, k2, k3⟩ := vx_keep h0 e1 hS hAX hf hL hF
    obtain ⟨t2, a1, b1⟩ := kx E ce q u t T'.heap (locs ++ L) e1.symm (by rw [← e2]; exact X'.warmed.alike) hp hb k1 k2 k3 (by rw [e1]; exact hce) hcv hcl T' rfl X'
    exact ⟨t2, st.trans a1, b1⟩
theorem vx_calld {S SX : Type} {post : UInt64 → S → Prop} {px : SX → Prop} {B : S → State → Prop} {BX : String → SX → State → Prop} {AX : Nat → Prop} (hr : vx_Run p l e R s m args below meth c H locs cells slots mc ms (F0 m pc ls st0) rest (va_Qd post B A1 a) (vx_X px BX AX) free) (hS : va_S A0 H0 H locs) (hA : ∀ q, q < H.size → A1 q → A0 q) (hf : ∀ q, free q → A0 q) (hAX : ∀ q, q < H.size → AX q → A0 q)
    (kx : ∀ (E : String) (ce : Cell) (q9 : Addr) (u : SX) (t : State) (H1 : Heap) (locs1 : List Loc), t.heap = H1 → s.vm.Alike t.vm → px u → BX E u t → H.size ≤ H1.size → (∀ q : Nat, q < H.size → ¬ AX q → H1[q]? = H[q]?) → va_S A0 H0 H1 locs1 → H1[q9]? = some ce → ce.vm = .none → s.vm.findClass E = some ce.cls → vx_W p l e R s m args below meth c H1 locs1 (cells + mc) (slots + ms) Q (F0 m pc ls rest) q9)
    (kk : ∀ (r : UInt64) (u : S) (t : State) (H1 : Heap) (locs1 : List Loc), t.heap = H1 → s.vm.Alike t.vm → post r u → B u t → H.size ≤ H1.size → (∀ q : Nat, q < H.size → ¬ A1 q → H1[q]? = H[q]?) → va_S A0 H0 H1 locs1 → W p l e R s m args below meth c H1 locs1 (cells + mc) (slots + ms) Q (F0 m (pc + 3) ls (.double r :: rest))) : W p l e R s m args below meth c H locs cells slots Q (F0 m pc ls st0) := by
  intro T hT X
  rcases hr T hT X with ⟨v, st₀, t, T', L, h0, X', hL, e1, e2, ⟨⟨r, u, hv, hp, hb⟩, hF⟩, st⟩ | ⟨q, st₀, t, T', L, E, ce, h0, X', hL, e1, e2, ⟨u, hp, hb, hF⟩, hce, hcv, hcl, st⟩
  · cases hv
    obtain ⟨k1, k2, k3⟩ := vx_keep h0 e1 hS hA hf hL hF
    obtain ⟨t2, a1, b1⟩ := kk r u t T'.heap (locs ++ L) e1.symm (by rw [← e2]; exact X'.warmed.alike) hp hb k1 k2 k3 T' rfl X'
    exact ⟨t2, st t2 a1, b1⟩
  · obtain ⟨k1, k2, k3⟩ := vx_keep h0 e1 hS hAX hf hL hF
    obtain ⟨t2, a1, b1⟩ := kx E ce q u t T'.heap (locs ++ L) e1.symm (by rw [← e2]; exact X'.warmed.alike) hp hb k1 k2 k3 (by rw [e1]; exact hce) hcv hcl T' rfl X'
    exact ⟨t2, st.trans a1, b1⟩
theorem vx_callv {S SX : Type} {post : S → Prop} {px : SX → Prop} {B : S → State → Prop} {BX : String → SX → State → Prop} {AX : Nat → Prop} (hr : vx_Run p l e R s m args below meth c H locs cells slots mc ms (F0 m pc ls st0) rest (va_Qv post B A1 a) (vx_X px BX AX) free) (hS : va_S A0 H0 H locs) (hA : ∀ q, q < H.size → A1 q → A0 q) (hf : ∀ q, free q → A0 q) (hAX : ∀ q, q < H.size → AX q → A0 q)
    (kx : ∀ (E : String) (ce : Cell) (q9 : Addr) (u : SX) (t : State) (H1 : Heap) (locs1 : List Loc), t.heap = H1 → s.vm.Alike t.vm → px u → BX E u t → H.size ≤ H1.size → (∀ q : Nat, q < H.size → ¬ AX q → H1[q]? = H[q]?) → va_S A0 H0 H1 locs1 → H1[q9]? = some ce → ce.vm = .none → s.vm.findClass E = some ce.cls → vx_W p l e R s m args below meth c H1 locs1 (cells + mc) (slots + ms) Q (F0 m pc ls rest) q9)
    (kk : ∀ (u : S) (t : State) (H1 : Heap) (locs1 : List Loc), t.heap = H1 → s.vm.Alike t.vm → post u → B u t → H.size ≤ H1.size → (∀ q : Nat, q < H.size → ¬ A1 q → H1[q]? = H[q]?) → va_S A0 H0 H1 locs1 → W p l e R s m args below meth c H1 locs1 (cells + mc) (slots + ms) Q (F0 m (pc + 3) ls (rest))) : W p l e R s m args below meth c H locs cells slots Q (F0 m pc ls st0) := by
  intro T hT X
  rcases hr T hT X with ⟨v, st₀, t, T', L, h0, X', hL, e1, e2, ⟨⟨u, hv, hp, hb⟩, hF⟩, st⟩ | ⟨q, st₀, t, T', L, E, ce, h0, X', hL, e1, e2, ⟨u, hp, hb, hF⟩, hce, hcv, hcl, st⟩
  · cases hv
    obtain ⟨k1, k2, k3⟩ := vx_keep h0 e1 hS hA hf hL hF
    obtain ⟨t2, a1, b1⟩ := kk u t T'.heap (locs ++ L) e1.symm (by rw [← e2]; exact X'.warmed.alike) hp hb k1 k2 k3 T' rfl X'
    exact ⟨t2, st t2 a1, b1⟩
  · obtain ⟨k1, k2, k3⟩ := vx_keep h0 e1 hS hAX hf hL hF
    obtain ⟨t2, a1, b1⟩ := kx E ce q u t T'.heap (locs ++ L) e1.symm (by rw [← e2]; exact X'.warmed.alike) hp hb k1 k2 k3 (by rw [e1]; exact hce) hcv hcl T' rfl X'
    exact ⟨t2, st.trans a1, b1⟩
/-- caught by the row x of this method's table; the rows ahead don't take it -/
theorem vx_catch {own name : String} {E : String} {ce : Cell} {q : Addr} (hown : s.vm.findClass own = some m.cls) (pre : List ExceptionTableEntry) (x : ExceptionTableEntry) (suf : List ExceptionTableEntry) (hsplit : c.exceptionTable.toList = pre ++ x :: suf)
    (hpass : ∀ z ∈ pre, covers z pc = false ∨ (z.catchType ≠ 0 ∧ ∃ nm : String, (Cond.classLink own z.catchType nm).before args s = true ∧ va_Nc E nm s)) (hx : covers x pc = true) (h0 : x.catchType ≠ 0)
    (hlink : (Cond.classLink own x.catchType name).before args s = true) (hcast : (Cond.castable E name).before args s = true) (hcell : H[q]? = some ce) (hv : ce.vm = .none) (hcl : s.vm.findClass E = some ce.cls)
    (kk : W p l e R s m args below meth c H locs cells slots Q (F0 m x.handlerPc ls [.ref q])) : vx_W p l e R s m args below meth c H locs cells slots Q (F0 m pc ls rest) q := by
  intro T hT X
  have hpl : e.platform.magicAccessors = ({} : Platform).magicAccessors := by rw [X.admits.platform]
  obtain ⟨c3, c4, hc3, hc4, hasg⟩ := Cond.castable_spec hcast
  cases Option.some.inj (hc3.symm.trans hcl)
  obtain ⟨c5, hc5, hcl5⟩ := Cond.classLink_spec hown hlink e.platform hpl
  cases Option.some.inj (hc4.symm.trans hc5)
  obtain ⟨vm', X', st⟩ := X.thenCaughtThrough q (g := F0 m pc ls rest) rfl (Steps.refl _) (by rw [hT]; exact hcell) (by rw [hv]; rfl) (by obtain ⟨k9, h9, -⟩ := Vm.findClass_spec hcl; exact ⟨k9, h9⟩) pre x suf hsplit
    (fun z hz => by
      rcases hpass z hz with h | ⟨hz0, nm, hl1, hn1⟩
      · exact Or.inl h
      · obtain ⟨c6, hc6, hcl6⟩ := Cond.classLink_spec hown hl1 e.platform hpl
        obtain ⟨a8, b8, h1, h2, h3⟩ := hn1
        cases Option.some.inj (h1.symm.trans hcl)
        cases Option.some.inj (h2.symm.trans hc6)
        exact Or.inr ⟨hz0, _, hcl6, h3⟩) hx (Or.inr ⟨h0, c4, hcl5, hasg⟩)
  obtain ⟨t, a1, b1⟩ := kk (T.setVm vm') hT X'
  exact ⟨t, st.trans a1, b1⟩
end Rows
section Ends
variable {p : Program} {l : Launch} {e : Env} {R : Room} {s : State} {m : MethodId} {args : Array Value} {below : List Frame} {meth : Method} {c : Code} {H : Heap} {locs : List Loc} {cells slots : Nat} {Q : State → Prop}
variable {mc ms : Nat} {free : Addr → Prop} {A0 A1 : Nat → Prop} {H0 : Heap} {a : Array Value} {ls : Array Slot} {st0 rest : List Value}
variable {Qc : Array Value → State → Outcome → State → Prop} {XC : String → State → State → Prop}
/-- what a body that may throw owes at its end -/
def vx_MQ (below : List Frame) (Qc : Array Value → State → Outcome → State → Prop) (XC : String → State → State → Prop) (a : Array Value) (s : State) (mc ms : Nat) (free : Addr → Prop) : State → Prop := fun t =>
  ∃ o, t.status = .running ∧ Ended t below o ∧ vx_Q Qc XC mc ms free a s o t
theorem vx_ret {g : JFrame} {mc ms : Nat} (k : W p l e R s m args below meth c H locs cells slots (MQ below Qc args s mc ms free) g) : W p l e R s m args below meth c H locs cells slots (vx_MQ below Qc XC args s mc ms free) g := by
  intro T hT X
  obtain ⟨t, a1, o, b1, b2, b3, b4⟩ := k T hT X
  exact ⟨t, a1, o, b1, b2, Or.inl ⟨b3, b4⟩⟩
/-- not caught here: it goes on to the caller -/
theorem vx_widen {g : JFrame} {q : Addr} {k n : Nat} (h1 : cells ≤ k) (h2 : slots ≤ n) (kk : vx_W p l e R s m args below meth c H locs k n Q g q) : vx_W p l e R s m args below meth c H locs cells slots Q g q := fun T hT X => kk T hT (stand_widen X h1 h2)
theorem vx_out {pc : Nat} {E : String} {ce : Cell} {q : Addr} {mc ms : Nat} (hout : ∀ x ∈ c.exceptionTable.toList, covers x pc = false) (hlocks : meth.locks = false) (hcell : H[q]? = some ce) (hv : ce.vm = .none) (hcl : s.vm.findClass E = some ce.cls)
    (hx : ∀ t : State, t.heap = H → s.vm.Alike t.vm → XC E s t) (hf : ∀ z ∈ locs, free z.base) (hc : cells ≤ mc) (hs : slots ≤ ms) :
    vx_W p l e R s m args below meth c H locs cells slots (vx_MQ below Qc XC args s mc ms free) (F0 m pc ls rest) q := by
  intro T hT X
  obtain ⟨st1, hrun, hend, hW, hsm⟩ := X.leaveThrown q (g := F0 m pc ls rest) rfl rfl rfl hout hlocks
  have hcell9 : (T.setFrames (.throwing q :: below)).heap[q]? = some ce := by
    show T.heap[q]? = some ce
    rw [hT]; exact hcell
  exact ⟨_, st1, .threw q, hrun, hend, Or.inr ⟨q, rfl, E, ce, locs, hx _ hT hW.alike, hcell9, hv, hcl, hW, hsm.mono hc hs, hf⟩⟩
theorem vx_frame {U : State} {k n : Nat} (h : s.sameButNew ({ U with vm := s.vm } : State) locs k n) : s.heap.size ≤ U.heap.size ∧ ∀ q : Nat, q < s.heap.size → (∀ z ∈ locs, z.base ≠ q) → U.heap[q]? = s.heap[q]? := by
  obtain ⟨-, h2, -, -, -, h6⟩ := h
  refine ⟨h2, fun q hq hz => ?_⟩
  obtain ⟨c9, e1, e2, e3, e4⟩ := h6 q _ (Array.getElem?_eq_getElem hq)
  have hs : c9.slots = (s.heap[q]).slots := Array.ext_getElem? fun i => e4 i fun hm => hz _ hm rfl
  have h9 : c9 = s.heap[q] := by
    rw [hs] at e2
    exact e2
  have e5 : U.heap[q]? = some c9 := e1
  rw [e5, h9, Array.getElem?_eq_getElem hq]
/-- the words of a throw but the four that speak of the heap -/
def vx_no (w : Cond) : Bool := decide (w ≠ .isRef (.static Bundle.tN "UNASSIGNED_STACK" Bundle.steD)) && decide (w ≠ .isRef (.static Bundle.tN "SUPPRESSED_SENTINEL" Bundle.listD)) && decide (w ≠ .laysStatic Bundle.tN "UNASSIGNED_STACK" Bundle.steD) && decide (w ≠ .laysStatic Bundle.tN "SUPPRESSED_SENTINEL" Bundle.listD)
def vx_at0 (own : String) (ic : Nat) (X : String) (names : List String) : List Cond := (Bundle.ownAtoms0 own ic X names).filter vx_no
def vx_atS (own : String) (ic : Nat) (X : String) (names : List String) : List Cond := (Bundle.ownAtoms own ic X names).filter vx_no
/-- a word that the tables alone decide, or a good one -/
def vx_ot (w : Cond) : Bool := w.onTables || goodWord w
theorem vx_ot_at {args a' : Array Value} {s U : State} {w : Cond} (hW : s.WarmedH U.vm) (hvm : s.vm = U.vm) (hg : vx_ot w = true) (h : w.before args s = true) : w.before a' U = true := by
  simp only [vx_ot, Bool.or_eq_true] at hg
  rcases hg with hg | hg
  · exact va_tabs hg hvm h
  · exact word_at hW (good_of_word hg) h
/-- a list's words: the good ones out of the method's own list, the others by premises of their own -/
theorem vx_hat {args : Array Value} {s : State} {L B : List Cond} (h1 : ∀ w ∈ L.filter goodWord, w.before args s = true) (h2 : ∀ w ∈ L.filter (fun w => !goodWord w), w ∈ B) (h3 : ∀ w ∈ B, w.before args s = true) : ∀ w ∈ L, w.before args s = true := by
  intro w hw
  by_cases g : goodWord w = true
  · exact h1 w (List.mem_filter.mpr ⟨hw, g⟩)
  · refine h3 w (h2 w (List.mem_filter.mpr ⟨hw, ?_⟩))
    show (!goodWord w) = true
    cases hgw : goodWord w
    · rfl
    · exact absurd hgw g
theorem vx_c {args : Array Value} {s : State} {w : Cond} {B : List Cond} (h : w.before args s = true) (t : ∀ w ∈ B, w.before args s = true) : ∀ w' ∈ w :: B, w'.before args s = true := fun w' h' => (List.mem_cons.mp h').elim (fun e => by rw [e]; exact h) (t w')
theorem vx_n {args : Array Value} {s : State} : ∀ w ∈ ([] : List Cond), w.before args s = true := fun _ h => nomatch h
theorem vx_own {args : Array Value} {s : State} {L : List Cond} (h1 : ∀ w ∈ L.filter vx_no, w.before args s = true)
    (hU : (Cond.isRef (.static Bundle.tN "UNASSIGNED_STACK" Bundle.steD)).before args s = true) (hN : (Cond.isRef (.static Bundle.tN "SUPPRESSED_SENTINEL" Bundle.listD)).before args s = true)
    (lU : (Cond.laysStatic Bundle.tN "UNASSIGNED_STACK" Bundle.steD).before args s = true) (lN : (Cond.laysStatic Bundle.tN "SUPPRESSED_SENTINEL" Bundle.listD).before args s = true) : ∀ w ∈ L, w.before args s = true := by
  intro w hw
  by_cases e1 : w = .isRef (.static Bundle.tN "UNASSIGNED_STACK" Bundle.steD)
  · rw [e1]; exact hU
  · by_cases e2 : w = .isRef (.static Bundle.tN "SUPPRESSED_SENTINEL" Bundle.listD)
    · rw [e2]; exact hN
    · by_cases e3 : w = .laysStatic Bundle.tN "UNASSIGNED_STACK" Bundle.steD
      · rw [e3]; exact lU
      · by_cases e4 : w = .laysStatic Bundle.tN "SUPPRESSED_SENTINEL" Bundle.listD
        · rw [e4]; exact lN
        · exact h1 w (List.mem_filter.mpr ⟨hw, by unfold vx_no; rw [decide_eq_true e1, decide_eq_true e2, decide_eq_true e3, decide_eq_true e4]; rfl⟩)
/-- where a static field lies, its class's statics cell in H -/
def vx_L (C n d : String) (A : Nat → Prop) (U : State) (H : Heap) : Prop := ∃ (c : ClassId) (k : Class) (i : Nat) (f : Field) (a : Nat) (cell : Cell), U.vm.findClass C = some c ∧ U.fieldFound? C n d = some (c, k, i, f) ∧ f.isStatic = true ∧ k.statics = some a ∧ H[a]? = some cell ∧ cell.vm.isStatics = true ∧ cell.cls = c ∧ f.slot < cell.slots.size ∧ k.staticTypes[f.slot]? = some f.type ∧ ¬ A a
theorem vx_L.moved {C n d : String} {A : Nat → Prop} {u U : State} {H : Heap} (hvm : u.vm.Alike U.vm) (h : vx_L C n d A u H) : vx_L C n d A U H := by
  obtain ⟨c, k, i, f, a, cell, h1, h2, h3, h4, h5, h6, h7, h8, h9, h10⟩ := h
  obtain ⟨k', hi', he⟩ := State.fieldFound?_setVm hvm h2
  exact ⟨c, k', i, f, a, cell, by rw [hvm.findClass]; exact h1, hi', h3, by rw [he]; exact h4, h5, h6, h7, h8, by rw [he]; exact h9, h10⟩
theorem vx_L.kept {C n d : String} {A : Nat → Prop} {U : State} {H H1 : Heap} (h : vx_L C n d A U H) (hq : ∀ a : Nat, a < H.size → ¬ A a → H1[a]? = H[a]?) : vx_L C n d A U H1 := by
  obtain ⟨c, k, i, f, a, cell, h1, h2, h3, h4, h5, h6, h7, h8, h9, h10⟩ := h
  exact ⟨c, k, i, f, a, cell, h1, h2, h3, h4, by rw [hq a (Array.getElem?_eq_some_iff.mp h5).1 h10]; exact h5, h6, h7, h8, h9, h10⟩
theorem vx_L.narrow {C n d : String} {A B : Nat → Prop} {U : State} {H : Heap} (h : vx_L C n d A U H) (hAB : ∀ q, B q → A q) : vx_L C n d B U H := by
  obtain ⟨c, k, i, f, a, cell, h1, h2, h3, h4, h5, h6, h7, h8, h9, h10⟩ := h
  exact ⟨c, k, i, f, a, cell, h1, h2, h3, h4, h5, h6, h7, h8, h9, fun z => h10 (hAB _ z)⟩
theorem vx_L.word {C n d : String} {A : Nat → Prop} {s : State} {args : Array Value} (h : vx_L C n d A s s.heap) : (Cond.laysStatic C n d).before args s = true := by
  obtain ⟨c, k, i, f, a, cell, h1, h2, h3, h4, h5, h6, h7, h8, h9, -⟩ := h
  show (Cond.laysStatic C n d).holds args s none s [] = true
  exact Cond.laysStatic_of h1 h2 h3 h4 h5 h6 h7 h8 h9
/-- .. and what it holds: null or some reference -/
def vx_Zq (C n d : String) (A : Nat → Prop) (U : State) (H : Heap) : Prop := va_Zq C n d A U H ∧ vx_L C n d A U H
theorem vx_Zq.moved {C n d : String} {A : Nat → Prop} {u U : State} {H : Heap} (hvm : u.vm.Alike U.vm) (h : vx_Zq C n d A u H) : vx_Zq C n d A U H := ⟨va_Zq.moved hvm h.1, vx_L.moved hvm h.2⟩
theorem vx_Zq.kept {C n d : String} {A : Nat → Prop} {U : State} {H H1 : Heap} (h : vx_Zq C n d A U H) (hq : ∀ a : Nat, a < H.size → ¬ A a → H1[a]? = H[a]?) : vx_Zq C n d A U H1 := ⟨va_Zq.kept h.1 hq, vx_L.kept h.2 hq⟩
theorem vx_Zq.narrow {C n d : String} {A B : Nat → Prop} {U : State} {H : Heap} (h : vx_Zq C n d A U H) (hAB : ∀ q, B q → A q) : vx_Zq C n d B U H := ⟨va_Zq.narrow h.1 hAB, vx_L.narrow h.2 hAB⟩
theorem vx_Zqof {args : Array Value} {s : State} {C n d : String} {A : Nat → Prop} (hl : (Cond.laysStatic C n d).before args s = true) (hini : (Cond.initialized C).before args s = true) (h : (Cond.isRef (.static C n d)).before args s = true) (hA : ∀ a : Nat, a < s.heap.size → ¬ A a) : vx_Zq C n d A s s.heap := by
  refine ⟨va_Zqof hl hini h hA, ?_⟩
  obtain ⟨c, k, i, f, a, cell, h1, h2, h3, h4, h5, h6, h7, h8, h9⟩ := Cond.laysStatic_spec hl
  exact ⟨c, k, i, f, a, cell, h1, h2, h3, h4, h5, h6, h7, h8, h9, hA a (Array.getElem?_eq_some_iff.mp h5).1⟩
theorem vx_isRef {C n d : String} {v : Value} {A : Nat → Prop} {s : State} {args : Array Value} (h : va_Z C n d v A s s.heap) (hv : v.isRef = true) : (Cond.isRef (.static C n d)).before args s = true := by
  obtain ⟨cf, kf, fi, f, a, cell, h1, h2, h3, h4, h5, h6, h7, -⟩ := h
  have he : (Term.static C n d).eval args s none [] s = some v := by
    simp [Term.eval, State.fieldNamed?, h1, h2, h4, h5, h6, h7]
  simp only [Cond.before, Cond.holds, Cond.value, he]
  cases v <;> simp_all [Value.isRef]
theorem vx_isRefq {C n d : String} {A : Nat → Prop} {s : State} {args : Array Value} (h : va_Zq C n d A s s.heap) : (Cond.isRef (.static C n d)).before args s = true := by
  rcases h with h | ⟨t, h⟩
  · exact vx_isRef h rfl
  · exact vx_isRef h rfl
/-- the same frame, seen from here: as if the method were called anew in this heap -/
theorem vx_rebase {T : State} (X : Stand p l e R s m args below meth c T locs cells slots) {R' : Room} (hf : R'.frames ≤ R.frames) (hl : R'.locals ≤ R.locals) (hc : cells + R'.cells ≤ R.cells) (hs : slots + R'.slots ≤ R.slots) :
    Stand p l e R' ((T.setVm s.vm).setFrames (.invoking m args :: below)) m args below meth c T [] 0 0 := by
  have htop : (T.setVm s.vm).topJava?.isSome := X.here.top
  have hF : ((T.setVm s.vm).setFrames (.invoking m args :: below)).frames = .invoking m args :: below := State.frames_setFrames _ (State.cur_lt_of_top htop)
  obtain ⟨g₀, hg0⟩ := Option.isSome_iff_exists.mp htop
  obtain ⟨r, hr⟩ := State.topJava?_eq_some.mp hg0
  have hl9 : e.platform.stackLimits (T.setVm s.vm).me = e.platform.stackLimits s.me := X.limits
  have hb9 : (T.setVm s.vm).me.stackBytes = s.me.stackBytes := X.bytes
  refine ⟨X.admits, X.cas, X.clock, hF, ?_, X.hears, X.method, X.code, X.here, X.tail, X.warmed, ?_, ?_, ?_⟩
  · have h := X.room
    have hU : ((T.setVm s.vm).setFrames (.invoking m args :: below)).localsInUse = s.localsInUse := by
      rw [State.localsInUse_invoking hF (meth := meth) (c := c) X.method X.code, State.localsInUse_invoking X.frames X.method X.code]
    simp only [State.hasRoom, Bool.and_eq_true, decide_eq_true_eq] at h ⊢
    obtain ⟨⟨⟨⟨h1, h2, h3, h4, h5, h6⟩, h7⟩, h8⟩, h9⟩ := h
    rw [X.frames, List.length_cons] at h2 h3
    have q1 := X.heapSize
    have q2 := X.used
    simp only [hF, hU, List.length_cons, State.stackLimits_setFrames, State.stackBytes_setFrames, hl9, hb9]
    refine ⟨⟨⟨⟨by omega, by omega, by omega, by omega, by omega, h6⟩, ?_⟩, ?_⟩, X.book⟩
    · show T.heap.size + R'.cells ≤ e.platform.maxCells
      omega
    · show T.slotsUsed + R'.slots ≤ e.platform.maxSlots
      omega
  · rw [State.stackLimits_setFrames]; rfl
  · rw [State.stackBytes_setFrames]; rfl
  · refine ⟨?_, Nat.le_refl _, Nat.le_refl _, ?_, ?_, fun a c9 h9 => ⟨c9, h9, rfl, rfl, fun _ _ => rfl⟩⟩
    · obtain ⟨t, ht, -⟩ := State.frames_cons hr
      show T.setVm s.vm = { ((T.setVm s.vm).setFrames (.invoking m args :: below)).setFrames (T.setVm s.vm).frames with heap := T.heap, slotsUsed := T.slotsUsed }
      rw [State.setFrames_setFrames, State.setFrames_self ht]
      rfl
    · show T.slotsUsed = T.slotsUsed + ((T.heap.toList.drop T.heap.size).map (·.slots.size)).sum
      rw [List.drop_eq_nil_of_le (Nat.le_of_eq Array.length_toList)]
      rfl
    · show ((T.heap.toList.drop T.heap.size).map (·.slots.size)).sum ≤ 0
      rw [List.drop_eq_nil_of_le (Nat.le_of_eq Array.length_toList)]
      exact Nat.le_refl _
/-- 'throw new E()': new; dup; invokespecial; athrow -/
theorem vx_throw0 {cc : ByteArray} {pc : Nat} (hexec : p.tables.exec = Jvm.exec) (hb : c.code = cc) (hl : l.stackTraces = false) {own cls : String} {names : List String} {ik ic mc ms : Nat} {A : Nat → Prop}
    (hown : s.vm.findClass own = some m.cls) (hcls : Bundle.fit cls = true) (hnames : ∀ n ∈ names, Bundle.fit n = true)
    (hk : (Cond.classLink own ik cls).before args s = true) (hini : (Cond.initialized cls).before args s = true) (hat : ∀ w ∈ vx_at0 own ic cls names, w.before args s = true)
    (hgood : ∀ w ∈ Cond.classLink own ik cls :: Cond.initialized cls :: vx_at0 own ic cls names, vx_ot w = true)
    (hU : vx_Zq Bundle.tN "UNASSIGNED_STACK" Bundle.steD A s s.heap) (hN : vx_Zq Bundle.tN "SUPPRESSED_SENTINEL" Bundle.listD A s s.heap) (hS : va_S A s.heap H locs) (hsize : ls.size = c.maxLocals)
    (d0 : decode cc pc = .ok (.new ik, 3)) (d3 : decode cc (pc + 3) = .ok (.dup, 1)) (d4 : decode cc (pc + 4) = .ok (.invokespecial ic, 3)) (d7 : decode cc (pc + 7) = .ok (.athrow, 1))
    (hout : ∀ x ∈ c.exceptionTable.toList, covers x (pc + 7) = false)
    (hRframes : names.length + 3 < R.frames) (hRlocals : (rest.map fun v => v.category).sum + (13 * (names.length + 1) + 42) ≤ R.locals) (hRcells : cells + 1 ≤ R.cells) (hRslots : slots + 6 ≤ R.slots) (hlocks : meth.locks = false)
    (hx : ∀ t : State, s.vm.Alike t.vm → H.size ≤ t.heap.size → (∀ q : Nat, q < H.size → t.heap[q]? = H[q]?) → XC cls s t)
    (hf : ∀ z ∈ locs, free z.base) (hc : cells + 1 ≤ mc) (hs : slots + 6 ≤ ms) :
    W p l e R s m args below meth c H locs cells slots (vx_MQ below Qc XC args s mc ms free) (F0 m pc ls rest) := by
  intro T hT X
  have htr : e.platform.stackTraces = false := (show e.platform.stackTraces = l.stackTraces by rw [X.admits.platform]).trans hl
  have Y := vx_rebase X (R' := { frames := R.frames, locals := R.locals, cells := 1, slots := 6 }) (Nat.le_refl _) (Nat.le_refl _) hRcells hRslots
  obtain ⟨s', hA⟩ : ∃ z, z = (T.setVm s.vm).setFrames (.invoking m args :: below) := ⟨_, rfl⟩
  rw [← hA] at Y
  have hvm : s'.vm = s.vm := by rw [hA]; rfl
  have hhp : s'.heap = H := by rw [hA]; exact hT
  have hW0 : s.WarmedH s'.vm := by rw [hvm]; exact State.WarmedH.refl s
  have hat' : ∀ w ∈ vx_at0 own ic cls names, w.before args s' = true := fun w hw => vx_ot_at hW0 hvm.symm (hgood w (List.mem_cons_of_mem _ (List.mem_cons_of_mem _ hw))) (hat w hw)
  have hk' : (Cond.classLink own ik cls).before args s' = true := vx_ot_at hW0 hvm.symm (hgood _ List.mem_cons_self) hk
  have hini' : (Cond.initialized cls).before args s' = true := vx_ot_at hW0 hvm.symm (hgood _ (List.mem_cons_of_mem _ List.mem_cons_self)) hini
  have hU' : vx_Zq Bundle.tN "UNASSIGNED_STACK" Bundle.steD A s' s'.heap := by rw [hhp]; exact vx_Zq.moved hW0.alike (hU.kept hS.2.1)
  have hN' : vx_Zq Bundle.tN "SUPPRESSED_SENTINEL" Bundle.listD A s' s'.heap := by rw [hhp]; exact vx_Zq.moved hW0.alike (hN.kept hS.2.1)
  have h : ∀ w ∈ Bundle.ownAtoms0 own ic cls names, w.before args s' = true := vx_own hat' (vx_isRefq hU'.1) (vx_isRefq hN'.1) hU'.2.word hN'.2.word
  have hown' : s'.vm.findClass own = some m.cls := by rw [hvm]; exact hown
  have hins : (Cond.instantiable cls 6).before args s' = true := h _ (by simp [Bundle.ownAtoms0])
  obtain ⟨vm₁, cX, kX, hfX, hkX, -, -, X₁, st1⟩ := Y.newCold hexec (own := own) (C := cls) (index := ik) (n := 6) hown' hk' hins hini'
    (g := F0 m pc ls rest) rfl (by rw [hb]; exact d0) (Nat.le_refl _) (Nat.le_refl _)
  generalize hT1 : (T.setVm vm₁).pushCell { cls := cX, slots := kX.instanceTypes.map defaultValue, vm := .none } = T1 at X₁ st1
  have hcat : (Value.ref T.heap.size).category = 1 := rfl
  have hcellA : T1.heap[T.heap.size]? = some (freshCell cX kX) := by rw [← hT1]; exact State.heap_pushCell_size _ _
  have d3' : decode c.code (pc + 3) = .ok (.dup, 1) := by rw [hb]; exact d3
  obtain ⟨U, hsteps, hrun, hend, hW, hsame, ce, hce, hO⟩ := X₁.ctorThrow0 hexec htr (own := own) (cls := cls) (names := names) (ic := ic) hown' hcls hnames h (fun x hx => nomatch hx) hfX hkX hcellA (by rw [hhp, hT]; exact Nat.le_refl _)
    (g := { method := m, pc := pc + 4, locals := ls, stack := .ref T.heap.size :: .ref T.heap.size :: rest, locked := none }) rfl hsize rfl rfl (rest := rest) rfl
    (by rw [hb]; exact d4) (by rw [hb]; exact d7) hout hRframes (by simp only [List.map_cons, List.sum_cons, hcat]; omega) hlocks
  obtain ⟨f1, f2⟩ := vx_frame hsame
  rw [hhp] at f1 f2
  have hWs : s.WarmedH U.vm := State.WarmedH.trans hW0 hW
  have hcl : s.vm.findClass cls = some ce.cls := by
    have h9 := hO.cls
    rw [hvm] at h9
    exact h9
  have hall : s.sameButNew ({ U with vm := s.vm } : State) locs mc ms := by
    subst hA
    obtain ⟨e1, e2⟩ := hsame
    rw [State.setFrames_setFrames] at e1
    have h2 : (T.setVm s.vm).sameButNew ({ U with vm := s.vm } : State) [] (0 + 1) (0 + 6) := ⟨e1, e2⟩
    have h3 := X.same.trans h2
    rw [List.append_nil] at h3
    exact h3.mono hc hs
  refine ⟨U, ?_, .threw T.heap.size, hrun, hend, Or.inr ⟨T.heap.size, rfl, cls, ce, locs, hx U hWs.alike f1 (fun q hq => f2 q hq (fun z hz => nomatch hz)), hce, hO.vm, hcl, hWs, hall, hf⟩⟩
  refine st1 _ ?_
  show Steps p.tables e below (T1.setTop { method := m, pc := pc + 3, locals := ls, stack := .ref T.heap.size :: rest, locked := none }) _
  jvm_step X₁.here [X₁.here.top, hexec, d3', Value.category]
  exact hsteps
/-- 'throw new E("text")': new; dup; ldc; invokespecial; athrow -/
theorem vx_throwS {cc : ByteArray} {pc : Nat} (hexec : p.tables.exec = Jvm.exec) (hb : c.code = cc) (hl : l.stackTraces = false) {own cls text : String} {names : List String} {ik is ic mc ms sa : Nat} {A : Nat → Prop}
    (hown : s.vm.findClass own = some m.cls) (hcls : Bundle.fit cls = true) (hnames : ∀ n ∈ names, Bundle.fit n = true)
    (hk : (Cond.classLink own ik cls).before args s = true) (hini : (Cond.initialized cls).before args s = true) (hstr : vk_R own is text sa s) (hat : ∀ w ∈ vx_atS own ic cls names, w.before args s = true)
    (hgood : ∀ w ∈ Cond.classLink own ik cls :: Cond.initialized cls :: vx_atS own ic cls names, vx_ot w = true)
    (hU : vx_Zq Bundle.tN "UNASSIGNED_STACK" Bundle.steD A s s.heap) (hN : vx_Zq Bundle.tN "SUPPRESSED_SENTINEL" Bundle.listD A s s.heap) (hS : va_S A s.heap H locs) (hsize : ls.size = c.maxLocals)
    (d0 : decode cc pc = .ok (.new ik, 3)) (d3 : decode cc (pc + 3) = .ok (.dup, 1)) (d4 : decode cc (pc + 4) = .ok (.ldc is, 2)) (d6 : decode cc (pc + 6) = .ok (.invokespecial ic, 3)) (d9 : decode cc (pc + 9) = .ok (.athrow, 1))
    (hout : ∀ x ∈ c.exceptionTable.toList, covers x (pc + 9) = false)
    (hRframes : names.length + 3 < R.frames) (hRlocals : (rest.map fun v => v.category).sum + (13 * (names.length + 1) + 43) ≤ R.locals) (hRcells : cells + 1 ≤ R.cells) (hRslots : slots + 6 ≤ R.slots) (hlocks : meth.locks = false)
    (hx : ∀ t : State, s.vm.Alike t.vm → H.size ≤ t.heap.size → (∀ q : Nat, q < H.size → t.heap[q]? = H[q]?) → XC cls s t)
    (hf : ∀ z ∈ locs, free z.base) (hc : cells + 1 ≤ mc) (hs : slots + 6 ≤ ms) :
    W p l e R s m args below meth c H locs cells slots (vx_MQ below Qc XC args s mc ms free) (F0 m pc ls rest) := by
  intro T hT X
  have htr : e.platform.stackTraces = false := (show e.platform.stackTraces = l.stackTraces by rw [X.admits.platform]).trans hl
  have Y := vx_rebase X (R' := { frames := R.frames, locals := R.locals, cells := 1, slots := 6 }) (Nat.le_refl _) (Nat.le_refl _) hRcells hRslots
  obtain ⟨s', hA⟩ : ∃ z, z = (T.setVm s.vm).setFrames (.invoking m args :: below) := ⟨_, rfl⟩
  rw [← hA] at Y
  have hvm : s'.vm = s.vm := by rw [hA]; rfl
  have hhp : s'.heap = H := by rw [hA]; exact hT
  have hW0 : s.WarmedH s'.vm := by rw [hvm]; exact State.WarmedH.refl s
  have hat' : ∀ w ∈ vx_atS own ic cls names, w.before args s' = true := fun w hw => vx_ot_at hW0 hvm.symm (hgood w (List.mem_cons_of_mem _ (List.mem_cons_of_mem _ hw))) (hat w hw)
  have hk' : (Cond.classLink own ik cls).before args s' = true := vx_ot_at hW0 hvm.symm (hgood _ List.mem_cons_self) hk
  have hini' : (Cond.initialized cls).before args s' = true := vx_ot_at hW0 hvm.symm (hgood _ (List.mem_cons_of_mem _ List.mem_cons_self)) hini
  have hU' : vx_Zq Bundle.tN "UNASSIGNED_STACK" Bundle.steD A s' s'.heap := by rw [hhp]; exact vx_Zq.moved hW0.alike (hU.kept hS.2.1)
  have hN' : vx_Zq Bundle.tN "SUPPRESSED_SENTINEL" Bundle.listD A s' s'.heap := by rw [hhp]; exact vx_Zq.moved hW0.alike (hN.kept hS.2.1)
  have h : ∀ w ∈ Bundle.ownAtoms own ic cls names, w.before args s' = true := vx_own hat' (vx_isRefq hU'.1) (vx_isRefq hN'.1) hU'.2.word hN'.2.word
  have hown' : s'.vm.findClass own = some m.cls := by rw [hvm]; exact hown
  have hins : (Cond.instantiable cls 6).before args s' = true := h _ (by simp [Bundle.ownAtoms])
  obtain ⟨vm₁, cX, kX, hfX, hkX, -, -, X₁, st1⟩ := Y.newCold hexec (own := own) (C := cls) (index := ik) (n := 6) hown' hk' hins hini'
    (g := F0 m pc ls rest) rfl (by rw [hb]; exact d0) (Nat.le_refl _) (Nat.le_refl _)
  generalize hT1 : (T.setVm vm₁).pushCell { cls := cX, slots := kX.instanceTypes.map defaultValue, vm := .none } = T1 at X₁ st1
  have hcat : (Value.ref T.heap.size).category = 1 := rfl
  have hcellA : T1.heap[T.heap.size]? = some (freshCell cX kX) := by rw [← hT1]; exact State.heap_pushCell_size _ _
  have d3' : decode c.code (pc + 3) = .ok (.dup, 1) := by rw [hb]; exact d3
  have d4' : decode c.code (pc + 4) = .ok (.ldc is, 2) := by rw [hb]; exact d4
  have hstr' : vk_R own is text sa s' := vk_R.warm hW0 hstr
  obtain ⟨U, hsteps, hrun, hend, hW, hsame, ce, hce, hO⟩ := X₁.ctorThrowS hexec htr (own := own) (cls := cls) (names := names) (ic := ic) hown' hcls hnames h (fun x hx => nomatch hx) hfX hkX hcellA (by rw [hhp, hT]; exact Nat.le_refl _) (msg := .ref sa) rfl
    (g := { method := m, pc := pc + 6, locals := ls, stack := .ref sa :: .ref T.heap.size :: .ref T.heap.size :: rest, locked := none }) rfl hsize rfl rfl (rest := rest) rfl
    (by rw [hb]; exact d6) (by rw [hb]; exact d9) hout hRframes (by simp only [List.map_cons, List.sum_cons, hcat]; omega) hlocks
  obtain ⟨f1, f2⟩ := vx_frame hsame
  rw [hhp] at f1 f2
  have hWs : s.WarmedH U.vm := State.WarmedH.trans hW0 hW
  have hcl : s.vm.findClass cls = some ce.cls := by
    have h9 := hO.cls
    rw [hvm] at h9
    exact h9
  have hall : s.sameButNew ({ U with vm := s.vm } : State) locs mc ms := by
    subst hA
    obtain ⟨e1, e2⟩ := hsame
    rw [State.setFrames_setFrames] at e1
    have h2 : (T.setVm s.vm).sameButNew ({ U with vm := s.vm } : State) [] (0 + 1) (0 + 6) := ⟨e1, e2⟩
    have h3 := X.same.trans h2
    rw [List.append_nil] at h3
    exact h3.mono hc hs
  refine ⟨U, ?_, .threw T.heap.size, hrun, hend, Or.inr ⟨T.heap.size, rfl, cls, ce, locs, hx U hWs.alike f1 (fun q hq => f2 q hq (fun z hz => nomatch hz)), hce, hO.vm, hcl, hWs, hall, hf⟩⟩
  refine st1 _ ?_
  show Steps p.tables e below (T1.setTop { method := m, pc := pc + 3, locals := ls, stack := .ref T.heap.size :: rest, locked := none }) _
  jvm_step X₁.here [X₁.here.top, hexec, d3', Value.category]
  exact X₁.ldcString hexec (own := own) (text := text) (index := is) (a := sa) hown' hstr'.1 hstr'.2
    (g := { method := m, pc := pc + 4, locals := ls, stack := .ref T.heap.size :: .ref T.heap.size :: rest, locked := none }) rfl d4' _ hsteps
/-- 'throw new E("text")', the text by a wide index -/
theorem vx_throwSW {cc : ByteArray} {pc : Nat} (hexec : p.tables.exec = Jvm.exec) (hb : c.code = cc) (hl : l.stackTraces = false) {own cls text : String} {names : List String} {ik is ic mc ms sa : Nat} {A : Nat → Prop}
    (hown : s.vm.findClass own = some m.cls) (hcls : Bundle.fit cls = true) (hnames : ∀ n ∈ names, Bundle.fit n = true)
    (hk : (Cond.classLink own ik cls).before args s = true) (hini : (Cond.initialized cls).before args s = true) (hstr : vk_R own is text sa s) (hat : ∀ w ∈ vx_atS own ic cls names, w.before args s = true)
    (hgood : ∀ w ∈ Cond.classLink own ik cls :: Cond.initialized cls :: vx_atS own ic cls names, vx_ot w = true)
    (hU : vx_Zq Bundle.tN "UNASSIGNED_STACK" Bundle.steD A s s.heap) (hN : vx_Zq Bundle.tN "SUPPRESSED_SENTINEL" Bundle.listD A s s.heap) (hS : va_S A s.heap H locs) (hsize : ls.size = c.maxLocals)
    (d0 : decode cc pc = .ok (.new ik, 3)) (d3 : decode cc (pc + 3) = .ok (.dup, 1)) (d4 : decode cc (pc + 4) = .ok (.ldc_w is, 3)) (d7 : decode cc (pc + 7) = .ok (.invokespecial ic, 3)) (d10 : decode cc (pc + 10) = .ok (.athrow, 1))
    (hout : ∀ x ∈ c.exceptionTable.toList, covers x (pc + 10) = false)
    (hRframes : names.length + 3 < R.frames) (hRlocals : (rest.map fun v => v.category).sum + (13 * (names.length + 1) + 43) ≤ R.locals) (hRcells : cells + 1 ≤ R.cells) (hRslots : slots + 6 ≤ R.slots) (hlocks : meth.locks = false)
    (hx : ∀ t : State, s.vm.Alike t.vm → H.size ≤ t.heap.size → (∀ q : Nat, q < H.size → t.heap[q]? = H[q]?) → XC cls s t)
    (hf : ∀ z ∈ locs, free z.base) (hc : cells + 1 ≤ mc) (hs : slots + 6 ≤ ms) :
    W p l e R s m args below meth c H locs cells slots (vx_MQ below Qc XC args s mc ms free) (F0 m pc ls rest) := by
  intro T hT X
  have htr : e.platform.stackTraces = false := (show e.platform.stackTraces = l.stackTraces by rw [X.admits.platform]).trans hl
  have Y := vx_rebase X (R' := { frames := R.frames, locals := R.locals, cells := 1, slots := 6 }) (Nat.le_refl _) (Nat.le_refl _) hRcells hRslots
  obtain ⟨s', hA⟩ : ∃ z, z = (T.setVm s.vm).setFrames (.invoking m args :: below) := ⟨_, rfl⟩
  rw [← hA] at Y
  have hvm : s'.vm = s.vm := by rw [hA]; rfl
  have hhp : s'.heap = H := by rw [hA]; exact hT
  have hW0 : s.WarmedH s'.vm := by rw [hvm]; exact State.WarmedH.refl s
  have hat' : ∀ w ∈ vx_atS own ic cls names, w.before args s' = true := fun w hw => vx_ot_at hW0 hvm.symm (hgood w (List.mem_cons_of_mem _ (List.mem_cons_of_mem _ hw))) (hat w hw)
  have hk' : (Cond.classLink own ik cls).before args s' = true := vx_ot_at hW0 hvm.symm (hgood _ List.mem_cons_self) hk
  have hini' : (Cond.initialized cls).before args s' = true := vx_ot_at hW0 hvm.symm (hgood _ (List.mem_cons_of_mem _ List.mem_cons_self)) hini
  have hU' : vx_Zq Bundle.tN "UNASSIGNED_STACK" Bundle.steD A s' s'.heap := by rw [hhp]; exact vx_Zq.moved hW0.alike (hU.kept hS.2.1)
  have hN' : vx_Zq Bundle.tN "SUPPRESSED_SENTINEL" Bundle.listD A s' s'.heap := by rw [hhp]; exact vx_Zq.moved hW0.alike (hN.kept hS.2.1)
  have h : ∀ w ∈ Bundle.ownAtoms own ic cls names, w.before args s' = true := vx_own hat' (vx_isRefq hU'.1) (vx_isRefq hN'.1) hU'.2.word hN'.2.word
  have hown' : s'.vm.findClass own = some m.cls := by rw [hvm]; exact hown
  have hins : (Cond.instantiable cls 6).before args s' = true := h _ (by simp [Bundle.ownAtoms])
  obtain ⟨vm₁, cX, kX, hfX, hkX, -, -, X₁, st1⟩ := Y.newCold hexec (own := own) (C := cls) (index := ik) (n := 6) hown' hk' hins hini'
    (g := F0 m pc ls rest) rfl (by rw [hb]; exact d0) (Nat.le_refl _) (Nat.le_refl _)
  generalize hT1 : (T.setVm vm₁).pushCell { cls := cX, slots := kX.instanceTypes.map defaultValue, vm := .none } = T1 at X₁ st1
  have hcat : (Value.ref T.heap.size).category = 1 := rfl
  have hcellA : T1.heap[T.heap.size]? = some (freshCell cX kX) := by rw [← hT1]; exact State.heap_pushCell_size _ _
  have d3' : decode c.code (pc + 3) = .ok (.dup, 1) := by rw [hb]; exact d3
  have d4' : decode c.code (pc + 4) = .ok (.ldc_w is, 3) := by rw [hb]; exact d4
  have hstr' : vk_R own is text sa s' := vk_R.warm hW0 hstr
  obtain ⟨U, hsteps, hrun, hend, hW, hsame, ce, hce, hO⟩ := X₁.ctorThrowS hexec htr (own := own) (cls := cls) (names := names) (ic := ic) hown' hcls hnames h (fun x hx => nomatch hx) hfX hkX hcellA (by rw [hhp, hT]; exact Nat.le_refl _) (msg := .ref sa) rfl
    (g := { method := m, pc := pc + 7, locals := ls, stack := .ref sa :: .ref T.heap.size :: .ref T.heap.size :: rest, locked := none }) rfl hsize rfl rfl (rest := rest) rfl
    (by rw [hb]; exact d7) (by rw [hb]; exact d10) hout hRframes (by simp only [List.map_cons, List.sum_cons, hcat]; omega) hlocks
  obtain ⟨f1, f2⟩ := vx_frame hsame
  rw [hhp] at f1 f2
  have hWs : s.WarmedH U.vm := State.WarmedH.trans hW0 hW
  have hcl : s.vm.findClass cls = some ce.cls := by
    have h9 := hO.cls
    rw [hvm] at h9
    exact h9
  have hall : s.sameButNew ({ U with vm := s.vm } : State) locs mc ms := by
    subst hA
    obtain ⟨e1, e2⟩ := hsame
    rw [State.setFrames_setFrames] at e1
    have h2 : (T.setVm s.vm).sameButNew ({ U with vm := s.vm } : State) [] (0 + 1) (0 + 6) := ⟨e1, e2⟩
    have h3 := X.same.trans h2
    rw [List.append_nil] at h3
    exact h3.mono hc hs
  refine ⟨U, ?_, .threw T.heap.size, hrun, hend, Or.inr ⟨T.heap.size, rfl, cls, ce, locs, hx U hWs.alike f1 (fun q hq => f2 q hq (fun z hz => nomatch hz)), hce, hO.vm, hcl, hWs, hall, hf⟩⟩
  refine st1 _ ?_
  show Steps p.tables e below (T1.setTop { method := m, pc := pc + 3, locals := ls, stack := .ref T.heap.size :: rest, locked := none }) _
  jvm_step X₁.here [X₁.here.top, hexec, d3', Value.category]
  exact X₁.ldcStringW hexec (own := own) (text := text) (index := is) (a := sa) hown' hstr'.1 hstr'.2
    (g := { method := m, pc := pc + 4, locals := ls, stack := .ref T.heap.size :: .ref T.heap.size :: rest, locked := none }) rfl d4' _ hsteps
end Ends
section Bodies
variable {l : Launch}
theorem vx_ofW {y : MethodName} {ws ws' : List Cond} {rm : Room} {Pc : Array Value → State → Prop} {Qc : Array Value → State → Outcome → State → Prop} {XC : String → State → State → Prop} {mc ms : Nat} {free : Addr → Prop} {cc : ByteArray} {maxL : Nat} {ret : Option FieldType}
    (hy : plainName y.cls = true) (hw : ws = Cond.code y cc maxL ret :: ws')
    (body : ∀ p e s m args below meth c s₁, BodyLoose p l y (headSpec ws rm) cc maxL ret e s m args below meth c s₁ → c.maxLocals = maxL → (∀ x ∈ c.exceptionTable.toList, False) → Pc args s →
      W p l e (headSpec ws rm).room s m args below meth c s.heap [] 0 0 (vx_MQ below Qc XC args s mc ms free) (entryFrame m args maxL)) : vx_Met l y ws rm Pc Qc XC mc ms free := by
  refine MetFree.of_bodyS (code := cc) (maxLocals := maxL) (ret := ret) hy ?_ ?_
  · intro args s m h hn
    obtain ⟨meth, c, h1, h2, h3, h4, h5, h6, -, -⟩ := Cond.code_spec hn (atoms_spec (ws := ws) h _ (by rw [hw]; exact List.mem_cons_self))
    exact ⟨meth, c, h1, h2, h3, h4, h5, h6⟩
  · intro p e s m args below meth c s₁ B hml hP _
    have hh0 : s₁.heap = s.heap := by rw [B.state]; rfl
    have ht : ∀ x ∈ c.exceptionTable.toList, False := by
      obtain ⟨meth9, c9, h1, h2, -, -, -, -, h7, -⟩ := Cond.code_spec B.named (atoms_spec (ws := ws) B.pre _ (by rw [hw]; exact List.mem_cons_self))
      cases Option.some.inj (h1.symm.trans B.method)
      cases Option.some.inj (h2.symm.trans (Stand.of_body B).code)
      intro x hx
      rw [Array.isEmpty_iff.mp h7] at hx
      cases hx
    obtain ⟨t, a1, o, b1, b2, b3⟩ := body p e s m args below meth c s₁ B hml ht hP s₁ hh0 (Stand.of_body B)
    exact ⟨t, o, a1, b1, b2, b3⟩
/-- the table of a body with handlers -/
theorem vx_table {p : Program} {x y : MethodName} {S : Spec} {cc bytes : ByteArray} {maxL maxL' : Nat} {ret ret' : Option FieldType} {e : Env} {s s₁ : State} {m : MethodId} {args : Array Value} {below : List Frame} {meth : Method} {c : Code} {hh : List (Nat × Nat × Nat × Nat)}
    (B : BodyLoose p l y S cc maxL ret e s m args below meth c s₁) (h : (Cond.codeWith y bytes maxL' ret' hh).before args s = true) : c.exceptionTable.toList = tableOf hh := by
  obtain ⟨m9, meth9, c9, hn9, h1, h2, -, -, h6, -⟩ := Cond.codeWith_spec h
  cases Option.some.inj (hn9.symm.trans B.named)
  cases Option.some.inj (h1.symm.trans B.method)
  cases Option.some.inj (h2.symm.trans (Stand.of_body B).code)
  rw [← h6, table_eq]
end Bodies
end VXA
/-! ===== END ===== -/
/-! ===== BEGIN a static call of a method with an exception table ===== -/
section VXS
variable {p : Program} {l : Launch} {e : Env} {R : Room} {s : State} {m : MethodId} {args : Array Value} {below : List Frame} {meth : Method} {c : Code} {T : State} {H : Heap} {locs : List Loc} {cells slots : Nat}
abbrev vx_CSW (R : Room) (s : State) (args : Array Value) (own : String) (index : Nat) (y : MethodName) (bytes : ByteArray) (maxL : Nat) (ret : Option FieldType) (hh : List (Nat × Nat × Nat × Nat)) (ws : List Cond) (rm : Room) (mc ms n : Nat) : Prop :=
  (rm.cells = mc ∧ rm.slots = ms ∧ rm.frames + 1 ≤ R.frames ∧ 8 + (maxL + 11) + rm.locals ≤ R.locals ∧ (∀ w ∈ ws, ∀ (a' : Array Value) (U : State), s.WarmedH U.vm → w.before a' U = true) ∧ Cond.codeWith y bytes maxL ret hh ∈ ws) ∧
  (Cond.codeWith y bytes maxL ret hh).before args s = true ∧ (Cond.initialized y.cls).before args s = true ∧ (y.cls ≠ "java/lang/invoke/MethodHandle" ∧ y.cls ≠ "java/lang/invoke/VarHandle") ∧
  (∀ sig, parseMethodDescriptor y.desc = some sig → n = sig.parameters.length) ∧ (Cond.methodLink own index y).before args s = true ∧ (Cond.static y).before args s = true
theorem vx_cwSW {own : String} {index maxL mc ms : Nat} {y : MethodName} {bytes : ByteArray} {ret : Option FieldType} {hh : List (Nat × Nat × Nat × Nat)} {Ts ws ws' : List Cond} {rm : Room} (n : Nat) (ht : ∀ w ∈ Ts, w.before args s = true) (hT : GoodIn Ts (va_wsS own index y ws)) (hw : ws = Cond.codeWith y bytes maxL ret hh :: ws') (hrc : rm.cells = mc) (hrs : rm.slots = ms)
    (hd : y.cls ≠ "java/lang/invoke/MethodHandle" ∧ y.cls ≠ "java/lang/invoke/VarHandle" ∧ (parseMethodDescriptor y.desc).map (fun d => d.parameters.length) = some n) (hR : rm.frames + 1 ≤ R.frames ∧ 8 + (maxL + 11) + rm.locals ≤ R.locals) :
    vx_CSW R s args own index y bytes maxL ret hh ws rm mc ms n := by
  have ok : ∀ w ∈ va_wsS own index y ws, w.before args s = true := fun w h => ht w (hT w h).1
  have hG : GoodIn Ts ws := fun w h => hT w (by unfold va_wsS; exact List.mem_append_right _ h)
  have hc : Cond.codeWith y bytes maxL ret hh ∈ ws := by rw [hw]; exact List.mem_cons_self
  refine ⟨⟨hrc, hrs, hR.1, hR.2, pay_in ht hG, hc⟩, ht _ (hG _ hc).1, ok _ (by simp [va_wsS]), ⟨hd.1, hd.2.1⟩, fun sig h => ?_, ok _ (by simp [va_wsS]), ok _ (by simp [va_wsS])⟩
  have h2 := hd.2.2
  rw [h] at h2
  exact (Option.some.inj h2).symm
theorem vx_callSW (X : Stand p l e R s m args below meth c T locs cells slots) (hexec : p.tables.exec = Jvm.exec) {own : String} {index : Nat} {y : MethodName} {bytes : ByteArray} {maxL : Nat} {ret : Option FieldType} {hh : List (Nat × Nat × Nat × Nat)}
    (hown : s.vm.findClass own = some m.cls) (hlink : (Cond.methodLink own index y).before args s = true) (hstat : (Cond.static y).before args s = true) (hinit : (Cond.initialized y.cls).before args s = true)
    (hcode : (Cond.codeWith y bytes maxL ret hh).before args s = true) (hy : y.cls ≠ "java/lang/invoke/MethodHandle" ∧ y.cls ≠ "java/lang/invoke/VarHandle")
    {W9 : Nat} {Pre : Pt → Array Value → Prop} {Post : Pt → Array Value → Option Value → Pt → Prop} (hK : Back l R p e below s args y 3 W9 Pre Post)
    {g : JFrame} (hg : g.method = m) (hsize : g.locals.size = c.maxLocals) {argsL rest : List Value} (hlen : ∀ sig, parseMethodDescriptor y.desc = some sig → argsL.length = sig.parameters.length)
    (hstack : g.stack = argsL.reverse ++ rest) (hW : 2 * g.monitorRoom + (rest.map fun v => v.category).sum ≤ W9) (hdg : decode c.code g.pc = .ok (.invokestatic index, 3))
    (hpre : ∀ vm₁, s.WarmedH vm₁ → Pre ⟨T.setVm vm₁, locs, cells, slots⟩ argsL.toArray) :
    ∃ (v : Option Value) (vm₁ : Vm) (B : Pt), s.WarmedH vm₁ ∧ Stand p l e R s m args below meth c B.U B.locs B.cells B.slots ∧ Post ⟨T.setVm vm₁, locs, cells, slots⟩ argsL.toArray v B ∧
      ∀ target, Steps p.tables e below (B.U.setTop { g with pc := g.pc + 3, stack := v.toList ++ rest }) target → Steps p.tables e below (T.setTop g) target := by
  obtain ⟨mk, methM, cM, hnamed, hmethM, -, -, -, -, -, -, hsigM⟩ := Cond.codeWith_spec hcode
  have hstatic : methM.isStatic = true := Cond.static_spec hnamed hmethM hstat
  obtain ⟨kP, hkP, -⟩ := className_of_methodNamed hnamed
  have hinitP : kP.init = .initialized := Cond.initialized_spec (findClass_of_methodNamed hnamed) hkP hinit
  obtain ⟨vm₁, X₁, hstep₁⟩ := X.invokestatic hexec hown hlink hnamed hmethM hstatic hkP hinitP hy (g := g) hg (argsL := argsL) (rest := rest) (hlen _ hsigM) hstack hdg
  obtain ⟨v, B, X', hpost, hsteps⟩ := hK m meth c ⟨T.setVm vm₁, locs, cells, slots⟩ { g with stack := rest } (.invokestatic index) mk argsL.toArray X₁ hg hsize hdg hW (X₁.named hnamed) (hpre vm₁ X₁.warmed)
  exact ⟨v, vm₁, B, X₁.warmed, X', hpost, fun target h => hstep₁ _ fun acts => by rw [doInvoke_state]; exact hsteps.trans h⟩
theorem vx_runSW {y : MethodName} {bytes cc : ByteArray} {maxL nL mc ms n index : Nat} {ret : Option FieldType} {hh : List (Nat × Nat × Nat × Nat)} {ws : List Cond} {rm : Room} {Pc : Array Value → State → Prop} {Qc : Array Value → State → Outcome → State → Prop} {free : Addr → Prop} {Ts : List Cond} {own : String} {As rest : List Value} {g : JFrame}
    (S : CallFix p m c cc nL s args Ts own) (hM : Met l y ws rm Pc Qc mc ms free) (cw : vx_CSW R s args own index y bytes maxL ret hh ws rm mc ms n) (hp : PreS s H Pc As)
    (hg : g.method = m) (hn : As.length = n) (hsize : g.locals.size = nL) (hstack : g.stack = As.reverse ++ rest) (hW : 2 * g.monitorRoom + (rest.map fun v => v.category).sum ≤ 8) (hdg : decode cc g.pc = .ok (.invokestatic index, 3)) (hf : cells + mc ≤ R.cells ∧ slots + ms ≤ R.slots) :
    va_Run p l e R s m args below meth c H locs cells slots mc ms g rest (Qc As.toArray) (free) := by
  obtain ⟨⟨hrc, hrs, hfr, hlo, hws, hcw⟩, hcode, hini, hy, hlen, hl, hstt⟩ := cw
  have hK : Back l R p e below s args y 3 8 (PreOf R mc ms Pc) (PostOf Qc mc ms free) := va_backW (hh := hh) (bytes := bytes) (maxL := maxL) (ret := ret) hM hp.1 hrc hrs hfr hlo hws hcw (fun a' U hW => word_at hW (Or.inl (by first | rfl | simp [Cond.onTables, Cond.keeps, Cond.steady])) hini)
  obtain ⟨hx, hb, hml, ho, -⟩ := S
  intro T hT X
  obtain ⟨v, vm₁, ⟨U', l2, c2, s2⟩, hW₁, X', ⟨g', mk, t, L, e1, e2, hq, h1, hL, h2, h3⟩, st⟩ := vx_callSW X hx (hh := hh) (bytes := bytes) (maxL := maxL) (ret := ret) ho hl hstt hini hcode hy hK hg (hsize.trans hml.symm) (argsL := As) (rest := rest) (fun sig h => hn.trans (hlen sig h)) hstack hW (by rw [hb]; exact hdg)
    (fun vm₁ hW₁ => ⟨hf.1, hf.2, hp.2 (T.setVm vm₁) hT hW₁⟩)
  dsimp only [Pt.U, Pt.locs, Pt.cells, Pt.slots] at X' e1 e2 h1 h2 h3 st
  subst h1; subst h2; subst h3
  exact ⟨v, (T.setVm vm₁).calling g' mk As.toArray, t, U', L, hT, X', hL, e1, e2, hq, st⟩
/-- not caught here, past rows that name other classes: it goes on to the caller -/
theorem vx_outP {p : Program} {l : Launch} {e : Env} {R : Room} {s : State} {m : MethodId} {args : Array Value} {below : List Frame} {meth : Method} {c : Code} {H : Heap} {locs : List Loc} {cells slots : Nat} {free : Addr → Prop} {ls : Array Slot} {rest : List Value} {Qc : Array Value → State → Outcome → State → Prop} {XC : String → State → State → Prop}
    {pc : Nat} {own E : String} {ce : Cell} {q : Addr} {mc ms : Nat} (hown : s.vm.findClass own = some m.cls) (hlocks : meth.locks = false)
    (hpass : ∀ z ∈ c.exceptionTable.toList, covers z pc = false ∨ (z.catchType ≠ 0 ∧ ∃ nm : String, (Cond.classLink own z.catchType nm).before args s = true ∧ va_Nc E nm s)) (hcell : H[q]? = some ce) (hv : ce.vm = .none) (hcl : s.vm.findClass E = some ce.cls)
    (hx : ∀ t : State, t.heap = H → s.vm.Alike t.vm → XC E s t) (hf : ∀ z ∈ locs, free z.base) (hc : cells ≤ mc) (hs : slots ≤ ms) :
    vx_W p l e R s m args below meth c H locs cells slots (vx_MQ below Qc XC args s mc ms free) (F0 m pc ls rest) q := by
  intro T hT X
  have hpl : e.platform.magicAccessors = ({} : Platform).magicAccessors := by rw [X.admits.platform]
  obtain ⟨vm', hW', X', st⟩ := X.outThrough hlocks q (g := F0 m pc ls rest) rfl rfl rfl (cell := ce) (by rw [hT]; exact hcell) (by rw [hv]; rfl)
    (by obtain ⟨k9, h9, -⟩ := Vm.findClass_spec hcl; exact ⟨k9, h9⟩) (fun z hz => by
      rcases hpass z hz with h | ⟨hz0, nm, hl1, hn1⟩
      · exact Or.inl h
      · obtain ⟨c6, hc6, hcl6⟩ := Cond.classLink_spec hown hl1 e.platform hpl
        obtain ⟨a8, b8, h1, h2, h3⟩ := hn1
        cases Option.some.inj (h1.symm.trans hcl)
        cases Option.some.inj (h2.symm.trans hc6)
        exact Or.inr ⟨hz0, _, hcl6, h3⟩)
  obtain ⟨g₀, hfr⟩ := X'.frames_eq
  have hcell9 : ((T.setVm vm').setFrames (.throwing q :: below)).heap[q]? = some ce := by
    show T.heap[q]? = some ce
    rw [hT]; exact hcell
  have hend : Ended ((T.setVm vm').setFrames (.throwing q :: below)) below (.threw q) := State.frames_setFrames _ (State.cur_lt_of_frames hfr)
  refine ⟨(T.setVm vm').setFrames (.throwing q :: below), ?_, .threw q, X'.here.running, hend, Or.inr ⟨q, rfl, E, ce, locs, hx _ hT (X'.ends _).1.alike, hcell9, hv, hcl, (X'.ends _).1, (X'.ends _).2.mono hc hs, hf⟩⟩
  rw [X.pushThrowing_eq]
  exact st
/-- a thing of a world lies in the heap -/
theorem vx_lt {D : va_G} {cl : List vw_C} {ws : va_W} {H1 : Heap} (h : va_P D cl ws H1) {k : Nat} {q : Nat × va_E} (hk : ws[k]? = some q) : q.1 < H1.size := (h k q hk).lt
end VXS
/-! ===== END ===== -/
/-! ===== BEGIN methods with a table of their own: called by a name, returning or throwing ===== -/
section VXH
/-! vx_backW, vx_callVX, vx_callSX, vx_callVW, vx_runVW, vx_runVX, vx_runSX, vx_ofWH follow the same proofs as their sisters above (Free/Laws.lean, Shelf42/LK1.lean); vx_outP calls Shelf42/NT130.lean (outThrough). -/
section
variable {l : Launch} {R : Room} {p : Program} {e : Env} {below : List Frame} {s : State} {sargs : Array Value} {y : MethodName} {len W9 : Nat}
theorem vx_backW {ws : List Cond} {rm : Room} {Pc : Array Value → State → Prop} {Qc : Array Value → State → Outcome → State → Prop} {XC : String → State → State → Prop} {mc ms : Nat} {free : Addr → Prop} {bytes : ByteArray} {maxL : Nat} {ret : Option FieldType} {hh : List (Nat × Nat × Nat × Nat)}
    (hM : vx_Met l y ws rm Pc Qc XC mc ms free) (hblind : FrameBlind Pc) (hrc : rm.cells = mc) (hrs : rm.slots = ms)
    (hframes : rm.frames + 1 ≤ R.frames) (hlocals : W9 + (maxL + 11) + rm.locals ≤ R.locals)
    (hws : ∀ w ∈ ws, ∀ a' U, s.WarmedH U.vm → w.before a' U = true) (hcode : Cond.codeWith y bytes maxL ret hh ∈ ws) (hinit : ∀ a' U, s.WarmedH U.vm → (Cond.initialized y.cls).before a' U = true) :
    vx_Back l R p e below s sargs y len W9 (PreOf R mc ms Pc) (PostOf Qc mc ms free) (vx_Post XC mc ms free) := by
  intro m meth c A g ig mk a X hg hsize hdg hW hn hp
  have h1 : (headSpec ws rm).pre.before a A.U = true := atoms_intro fun w hw => hws w hw _ _ X.warmed
  have h2 : (Cond.codeWith y bytes maxL ret hh).before a A.U = true := hws _ hcode _ _ X.warmed
  have h3 : (Cond.initialized y.cls).before a A.U = true := hinit _ _ X.warmed
  have h4 : A.cells + (headSpec ws rm).room.cells ≤ R.cells := by rw [show (headSpec ws rm).room.cells = mc from hrc]; exact hp.1
  have h5 : A.slots + (headSpec ws rm).room.slots ≤ R.slots := by rw [show (headSpec ws rm).room.slots = ms from hrs]; exact hp.2.1
  have hPc : Pc a (A.U.calling g mk a) := hblind _ _ _ _ hp.2.2
  obtain ⟨U, Ls, c0, s0⟩ := A
  dsimp only [Pt.U, Pt.locs, Pt.cells, Pt.slots] at h1 h2 h3 h4 h5 X hn hPc ⊢
  obtain ⟨m9, methY, cY, hn9, hmY, hcY, -, hlY, -⟩ := Cond.codeWith_spec h2
  cases Option.some.inj (hn9.symm.trans hn)
  obtain ⟨kY, hkY, -⟩ := className_of_methodNamed hn
  have hinitY : kY.init = .initialized := Cond.initialized_spec (findClass_of_methodNamed hn) hkY h3
  have h : At U g.method c below := by rw [hg]; exact X.here
  have hlocals9 : W9 + (maxL + 11) + (headSpec ws rm).room.locals ≤ R.locals := hlocals
  have happ : (headSpec ws rm).appliesLoose y e.platform (U.calling g mk a) = true :=
    Spec.appliesLoose_calling (g := g) h hdg hn hkY hinitY
      (X.room_calling (g := g) (R' := (headSpec ws rm).room) hsize hmY hcY hframes (by rw [hlY]; omega) h4 h5) h1
  obtain ⟨mid, hmid⟩ := h.above
  have hfr : (U.setTop g).frames = (.java g :: mid) ++ below := by rw [State.frames_setTop' g h.top, hmid]; rfl
  obtain ⟨o, s₂, hsteps, -, hend, hq⟩ := Steps.callFree hM p X.admits X.cas X.clock (acts := []) hfr happ hPc trivial
  have hq' : vx_Q Qc XC mc ms free a (U.calling g mk a) o s₂ := hq
  rw [State.frames_setTop' g h.top] at hend
  obtain ⟨g₀, hg0⟩ := Option.isSome_iff_exists.mp h.top
  obtain ⟨r, hr⟩ := State.topJava?_eq_some.mp hg0
  have hr' : (({ U with heap := s₂.heap, slotsUsed := s₂.slotsUsed } : State).setVm s₂.vm).frames = .java g₀ :: r := hr
  rcases hq' with ⟨hqc, L, hfe, hL⟩ | ⟨q, rfl, E, ce, L, hx, hce, hcv, hcl, hW₂, hsm, hL⟩
  · obtain ⟨⟨v, rfl⟩, hW₂, e2, q2, q3, q4, q5, q6⟩ := id hfe
    have e3 : s₂ = ({ (U.calling g mk a).setFrames s₂.frames with heap := s₂.heap, slotsUsed := s₂.slotsUsed } : State).setVm s₂.vm := by
      have : s₂ = ({ s₂ with vm := (U.calling g mk a).vm } : State).setVm s₂.vm := rfl
      rw [e2] at this
      exact this
    obtain ⟨c₂, i₂, len₂, hc₂, hd₂, hf₂⟩ := hend
    have hW' : U.WarmedH s₂.vm := hW₂
    have hcc : c₂ = c := by
      have h1 : s₂.code? g.method = U.code? g.method := by
        rw [State.code?_eq, State.code?_eq, hW'.alike.method?]
      exact Option.some.inj (hc₂.symm.trans (h1.trans h.code))
    subst hcc
    have hlen : len₂ = len := by rw [hdg] at hd₂; cases hd₂; rfl
    subst hlen
    have hs₂ : s₂ = (({ U with heap := s₂.heap, slotsUsed := s₂.slotsUsed } : State).setVm s₂.vm).setTop { g with pc := g.pc + len₂, stack := v.toList ++ g.stack } := by
      refine e3.trans ?_
      rw [hf₂, State.calling_eq h.top, State.setFrames_setFrames, State.setTop_of_frames _ hr', hr]
      rfl
    have hsame : U.sameButNew ({ U with heap := s₂.heap, slotsUsed := s₂.slotsUsed } : State) L mc ms := by
      refine ⟨?_, q2, q3, q4, q5, q6⟩
      obtain ⟨t, ht, -⟩ := State.frames_cons hr
      show ({ U with heap := s₂.heap, slotsUsed := s₂.slotsUsed } : State) = { U.setFrames U.frames with heap := s₂.heap, slotsUsed := s₂.slotsUsed }
      rw [State.setFrames_self ht]
    subst hg
    refine Or.inl ⟨v, ⟨(({ U with heap := s₂.heap, slotsUsed := s₂.slotsUsed } : State).setVm s₂.vm), Ls ++ L, c0 + mc, s0 + ms⟩,
      ⟨X.admits, X.cas, X.clock, X.frames, X.room, X.hears, X.method, X.code, (X.here.setHeapUsed s₂.heap s₂.slotsUsed).setVm hW'.alike, X.tail, State.WarmedH.trans X.warmed hW', X.limits, X.bytes, X.same.trans (hsame.setVm s.vm)⟩,
      ⟨g, mk, s₂, L, rfl, rfl, hqc, rfl, hL, rfl, rfl⟩, ?_⟩
    show Steps p.tables e below _ ((({ U with heap := s₂.heap, slotsUsed := s₂.slotsUsed } : State).setVm s₂.vm).setTop { g with pc := g.pc + len₂, stack := v.toList ++ g.stack })
    rw [← hs₂]
    exact hsteps
  · obtain ⟨e2, q2, q3, q4, q5, q6⟩ := id hsm
    have e3 : s₂ = ({ (U.calling g mk a).setFrames s₂.frames with heap := s₂.heap, slotsUsed := s₂.slotsUsed } : State).setVm s₂.vm := by
      have : s₂ = ({ s₂ with vm := (U.calling g mk a).vm } : State).setVm s₂.vm := rfl
      rw [e2] at this
      exact this
    have hf₂ : s₂.frames = .throwing q :: .java g :: U.frames.tail := hend
    have hW' : U.WarmedH s₂.vm := hW₂
    have hs₂ : s₂ = ((({ U with heap := s₂.heap, slotsUsed := s₂.slotsUsed } : State).setVm s₂.vm).setTop g).pushFrame (.throwing q) := by
      refine e3.trans ?_
      rw [hf₂, State.calling_eq h.top, State.setFrames_setFrames, State.pushFrame, State.frames_setTop _ hr', State.setTop_of_frames _ hr', State.setFrames_setFrames, hr]
      rfl
    have hsame : U.sameButNew ({ U with heap := s₂.heap, slotsUsed := s₂.slotsUsed } : State) L mc ms := by
      refine ⟨?_, q2, q3, q4, q5, q6⟩
      obtain ⟨t, ht, -⟩ := State.frames_cons hr
      show ({ U with heap := s₂.heap, slotsUsed := s₂.slotsUsed } : State) = { U.setFrames U.frames with heap := s₂.heap, slotsUsed := s₂.slotsUsed }
      rw [State.setFrames_self ht]
    subst hg
    refine Or.inr ⟨q, ⟨(({ U with heap := s₂.heap, slotsUsed := s₂.slotsUsed } : State).setVm s₂.vm), Ls ++ L, c0 + mc, s0 + ms⟩,
      ⟨X.admits, X.cas, X.clock, X.frames, X.room, X.hears, X.method, X.code, (X.here.setHeapUsed s₂.heap s₂.slotsUsed).setVm hW'.alike, X.tail, State.WarmedH.trans X.warmed hW', X.limits, X.bytes, X.same.trans (hsame.setVm s.vm)⟩,
      ⟨g, mk, s₂, L, E, ce, rfl, rfl, hx, hce, hcv, hcl, rfl, hL, rfl, rfl⟩, ?_⟩
    show Steps p.tables e below _ (((({ U with heap := s₂.heap, slotsUsed := s₂.slotsUsed } : State).setVm s₂.vm).setTop g).pushFrame (.throwing q))
    rw [← hs₂]
    exact hsteps
end
variable {p : Program} {l : Launch} {e : Env} {R : Room} {s : State} {m : MethodId} {args : Array Value} {below : List Frame} {meth : Method} {c : Code} {T : State} {H : Heap} {locs : List Loc} {cells slots : Nat}
theorem vx_callVX (X : Stand p l e R s m args below meth c T locs cells slots) (hexec : p.tables.exec = Jvm.exec) {own C : String} {index : Nat} {y : MethodName} {bytes : ByteArray} {maxL : Nat} {ret : Option FieldType} {hh : List (Nat × Nat × Nat × Nat)}
    (hown : s.vm.findClass own = some m.cls) (hlink : (Cond.methodLink own index y).before args s = true) (hinst : (Cond.instanceMethod y).before args s = true) (hsel : (Cond.selects C y y).before args s = true)
    (hcode : (Cond.codeWith y bytes maxL ret hh).before args s = true) (hy : y.cls ≠ "java/lang/invoke/MethodHandle" ∧ y.cls ≠ "java/lang/invoke/VarHandle")
    {W9 : Nat} {Pre : Pt → Array Value → Prop} {Post : Pt → Array Value → Option Value → Pt → Prop} {PostX : Pt → Array Value → Addr → Pt → Prop} (hK : vx_Back l R p e below s args y 3 W9 Pre Post PostX)
    {b : Addr} {cellB : Cell} (hcell : T.heap[b]? = some cellB) (hobj : cellB.vm.isStatics = false) (hcls : s.vm.findClass C = some cellB.cls)
    {g : JFrame} (hg : g.method = m) (hsize : g.locals.size = c.maxLocals) {argsL rest : List Value} (hlen : ∀ sig, parseMethodDescriptor y.desc = some sig → argsL.length = sig.parameters.length)
    (hstack : g.stack = argsL.reverse ++ .ref b :: rest) (hW : 2 * g.monitorRoom + (rest.map fun v => v.category).sum ≤ W9) (hdg : decode c.code g.pc = .ok (.invokevirtual index, 3))
    (hpre : ∀ vm₁, s.WarmedH vm₁ → Pre ⟨T.setVm vm₁, locs, cells, slots⟩ (Value.ref b :: argsL).toArray) :
    (∃ (v : Option Value) (vm₁ : Vm) (B : Pt), s.WarmedH vm₁ ∧ Stand p l e R s m args below meth c B.U B.locs B.cells B.slots ∧ Post ⟨T.setVm vm₁, locs, cells, slots⟩ (Value.ref b :: argsL).toArray v B ∧
      ∀ target, Steps p.tables e below (B.U.setTop { g with pc := g.pc + 3, stack := v.toList ++ rest }) target → Steps p.tables e below (T.setTop g) target) ∨
    (∃ (q : Addr) (vm₁ : Vm) (B : Pt), s.WarmedH vm₁ ∧ Stand p l e R s m args below meth c B.U B.locs B.cells B.slots ∧ PostX ⟨T.setVm vm₁, locs, cells, slots⟩ (Value.ref b :: argsL).toArray q B ∧
      Steps p.tables e below (T.setTop g) ((B.U.setTop { g with stack := rest }).pushFrame (.throwing q))) := by
  obtain ⟨mk, methM, hnamed, hmethM, hstM, habM⟩ := Cond.instanceMethod_spec hinst
  obtain ⟨m8, methM', cM, hn8, hmethM', -, -, -, -, -, -, hsigM⟩ := Cond.codeWith_spec hcode
  cases Option.some.inj (hn8.symm.trans hnamed)
  cases hmethM.symm.trans hmethM'
  obtain ⟨c2, r2, m2, q1, q2, q3, q4, kP, hkP, hkPi⟩ := Cond.selects_spec hsel
  cases hcls.symm.trans q1
  cases (State.methodFound?_of_named hnamed hy).symm.trans q2
  cases hnamed.symm.trans q3
  have hselP : selectMethod e.platform s.vm cellB.cls mk = .method mk := by rw [Launch.admits_selectMethod X.admits]; exact q4
  obtain ⟨vm₁, X₁, hstep₁⟩ := X.invokevirtual hexec hown hlink hnamed hmethM hstM hkP hkPi hy (a := b) (cell := cellB) hcell
    (fun z h => by rw [h] at hobj; cases hobj) hselP hmethM habM hkP hkPi (g := g) hg (argsL := argsL) (rest := rest) (hlen _ hsigM) hstack hdg
  rcases hK m meth c ⟨T.setVm vm₁, locs, cells, slots⟩ { g with stack := rest } (.invokevirtual index) mk (Value.ref b :: argsL).toArray X₁ hg hsize hdg hW (X₁.named hnamed) (hpre vm₁ X₁.warmed) with ⟨v, B, X', hpost, hsteps⟩ | ⟨q, B, X', hpost, hsteps⟩
  · exact Or.inl ⟨v, vm₁, B, X₁.warmed, X', hpost, fun target h => hstep₁ _ fun acts => by rw [doInvoke_state]; exact hsteps.trans h⟩
  · exact Or.inr ⟨q, vm₁, B, X₁.warmed, X', hpost, hstep₁ _ fun acts => by rw [doInvoke_state]; exact hsteps⟩
theorem vx_callSX (X : Stand p l e R s m args below meth c T locs cells slots) (hexec : p.tables.exec = Jvm.exec) {own : String} {index : Nat} {y : MethodName} {bytes : ByteArray} {maxL : Nat} {ret : Option FieldType} {hh : List (Nat × Nat × Nat × Nat)}
    (hown : s.vm.findClass own = some m.cls) (hlink : (Cond.methodLink own index y).before args s = true) (hstat : (Cond.static y).before args s = true) (hinit : (Cond.initialized y.cls).before args s = true)
    (hcode : (Cond.codeWith y bytes maxL ret hh).before args s = true) (hy : y.cls ≠ "java/lang/invoke/MethodHandle" ∧ y.cls ≠ "java/lang/invoke/VarHandle")
    {W9 : Nat} {Pre : Pt → Array Value → Prop} {Post : Pt → Array Value → Option Value → Pt → Prop} {PostX : Pt → Array Value → Addr → Pt → Prop} (hK : vx_Back l R p e below s args y 3 W9 Pre Post PostX)
    {g : JFrame} (hg : g.method = m) (hsize : g.locals.size = c.maxLocals) {argsL rest : List Value} (hlen : ∀ sig, parseMethodDescriptor y.desc = some sig → argsL.length = sig.parameters.length)
    (hstack : g.stack = argsL.reverse ++ rest) (hW : 2 * g.monitorRoom + (rest.map fun v => v.category).sum ≤ W9) (hdg : decode c.code g.pc = .ok (.invokestatic index, 3))
    (hpre : ∀ vm₁, s.WarmedH vm₁ → Pre ⟨T.setVm vm₁, locs, cells, slots⟩ argsL.toArray) :
    (∃ (v : Option Value) (vm₁ : Vm) (B : Pt), s.WarmedH vm₁ ∧ Stand p l e R s m args below meth c B.U B.locs B.cells B.slots ∧ Post ⟨T.setVm vm₁, locs, cells, slots⟩ argsL.toArray v B ∧
      ∀ target, Steps p.tables e below (B.U.setTop { g with pc := g.pc + 3, stack := v.toList ++ rest }) target → Steps p.tables e below (T.setTop g) target) ∨
    (∃ (q : Addr) (vm₁ : Vm) (B : Pt), s.WarmedH vm₁ ∧ Stand p l e R s m args below meth c B.U B.locs B.cells B.slots ∧ PostX ⟨T.setVm vm₁, locs, cells, slots⟩ argsL.toArray q B ∧
      Steps p.tables e below (T.setTop g) ((B.U.setTop { g with stack := rest }).pushFrame (.throwing q))) := by
  obtain ⟨mk, methM, cM, hnamed, hmethM, -, -, -, -, -, -, hsigM⟩ := Cond.codeWith_spec hcode
  have hstatic : methM.isStatic = true := Cond.static_spec hnamed hmethM hstat
  obtain ⟨kP, hkP, -⟩ := className_of_methodNamed hnamed
  have hinitP : kP.init = .initialized := Cond.initialized_spec (findClass_of_methodNamed hnamed) hkP hinit
  obtain ⟨vm₁, X₁, hstep₁⟩ := X.invokestatic hexec hown hlink hnamed hmethM hstatic hkP hinitP hy (g := g) hg (argsL := argsL) (rest := rest) (hlen _ hsigM) hstack hdg
  rcases hK m meth c ⟨T.setVm vm₁, locs, cells, slots⟩ { g with stack := rest } (.invokestatic index) mk argsL.toArray X₁ hg hsize hdg hW (X₁.named hnamed) (hpre vm₁ X₁.warmed) with ⟨v, B, X', hpost, hsteps⟩ | ⟨q, B, X', hpost, hsteps⟩
  · exact Or.inl ⟨v, vm₁, B, X₁.warmed, X', hpost, fun target h => hstep₁ _ fun acts => by rw [doInvoke_state]; exact hsteps.trans h⟩
  · exact Or.inr ⟨q, vm₁, B, X₁.warmed, X', hpost, hstep₁ _ fun acts => by rw [doInvoke_state]; exact hsteps⟩
theorem vx_callVW (X : Stand p l e R s m args below meth c T locs cells slots) (hexec : p.tables.exec = Jvm.exec) {own C : String} {index : Nat} {y : MethodName} {bytes : ByteArray} {maxL : Nat} {ret : Option FieldType} {hh : List (Nat × Nat × Nat × Nat)}
    (hown : s.vm.findClass own = some m.cls) (hlink : (Cond.methodLink own index y).before args s = true) (hinst : (Cond.instanceMethod y).before args s = true) (hsel : (Cond.selects C y y).before args s = true)
    (hcode : (Cond.codeWith y bytes maxL ret hh).before args s = true) (hy : y.cls ≠ "java/lang/invoke/MethodHandle" ∧ y.cls ≠ "java/lang/invoke/VarHandle")
    {W9 : Nat} {Pre : Pt → Array Value → Prop} {Post : Pt → Array Value → Option Value → Pt → Prop} (hK : Back l R p e below s args y 3 W9 Pre Post)
    {b : Addr} {cellB : Cell} (hcell : T.heap[b]? = some cellB) (hobj : cellB.vm.isStatics = false) (hcls : s.vm.findClass C = some cellB.cls)
    {g : JFrame} (hg : g.method = m) (hsize : g.locals.size = c.maxLocals) {argsL rest : List Value} (hlen : ∀ sig, parseMethodDescriptor y.desc = some sig → argsL.length = sig.parameters.length)
    (hstack : g.stack = argsL.reverse ++ .ref b :: rest) (hW : 2 * g.monitorRoom + (rest.map fun v => v.category).sum ≤ W9) (hdg : decode c.code g.pc = .ok (.invokevirtual index, 3))
    (hpre : ∀ vm₁, s.WarmedH vm₁ → Pre ⟨T.setVm vm₁, locs, cells, slots⟩ (Value.ref b :: argsL).toArray) :
    ∃ (v : Option Value) (vm₁ : Vm) (B : Pt), s.WarmedH vm₁ ∧ Stand p l e R s m args below meth c B.U B.locs B.cells B.slots ∧ Post ⟨T.setVm vm₁, locs, cells, slots⟩ (Value.ref b :: argsL).toArray v B ∧
      ∀ target, Steps p.tables e below (B.U.setTop { g with pc := g.pc + 3, stack := v.toList ++ rest }) target → Steps p.tables e below (T.setTop g) target := by
  obtain ⟨mk, methM, hnamed, hmethM, hstM, habM⟩ := Cond.instanceMethod_spec hinst
  obtain ⟨m8, methM', cM, hn8, hmethM', -, -, -, -, -, -, hsigM⟩ := Cond.codeWith_spec hcode
  cases Option.some.inj (hn8.symm.trans hnamed)
  cases hmethM.symm.trans hmethM'
  obtain ⟨c2, r2, m2, q1, q2, q3, q4, kP, hkP, hkPi⟩ := Cond.selects_spec hsel
  cases hcls.symm.trans q1
  cases (State.methodFound?_of_named hnamed hy).symm.trans q2
  cases hnamed.symm.trans q3
  have hselP : selectMethod e.platform s.vm cellB.cls mk = .method mk := by rw [Launch.admits_selectMethod X.admits]; exact q4
  obtain ⟨vm₁, X₁, hstep₁⟩ := X.invokevirtual hexec hown hlink hnamed hmethM hstM hkP hkPi hy (a := b) (cell := cellB) hcell
    (fun z h => by rw [h] at hobj; cases hobj) hselP hmethM habM hkP hkPi (g := g) hg (argsL := argsL) (rest := rest) (hlen _ hsigM) hstack hdg
  obtain ⟨v, B, X', hpost, hsteps⟩ := hK m meth c ⟨T.setVm vm₁, locs, cells, slots⟩ { g with stack := rest } (.invokevirtual index) mk (Value.ref b :: argsL).toArray X₁ hg hsize hdg hW (X₁.named hnamed) (hpre vm₁ X₁.warmed)
  exact ⟨v, vm₁, B, X₁.warmed, X', hpost, fun target h => hstep₁ _ fun acts => by rw [doInvoke_state]; exact hsteps.trans h⟩
abbrev vx_CVW (R : Room) (s : State) (args : Array Value) (own C : String) (index : Nat) (y : MethodName) (bytes : ByteArray) (maxL : Nat) (ret : Option FieldType) (hh : List (Nat × Nat × Nat × Nat)) (ws : List Cond) (rm : Room) (mc ms n : Nat) : Prop :=
  (rm.cells = mc ∧ rm.slots = ms ∧ rm.frames + 1 ≤ R.frames ∧ 8 + (maxL + 11) + rm.locals ≤ R.locals ∧ (∀ w ∈ ws, ∀ (a' : Array Value) (U : State), s.WarmedH U.vm → w.before a' U = true) ∧ Cond.codeWith y bytes maxL ret hh ∈ ws) ∧
  (Cond.codeWith y bytes maxL ret hh).before args s = true ∧ (Cond.initialized y.cls).before args s = true ∧ (y.cls ≠ "java/lang/invoke/MethodHandle" ∧ y.cls ≠ "java/lang/invoke/VarHandle") ∧
  (∀ sig, parseMethodDescriptor y.desc = some sig → n = sig.parameters.length) ∧ (Cond.methodLink own index y).before args s = true ∧ (Cond.instanceMethod y).before args s = true ∧ (Cond.selects C y y).before args s = true
theorem vx_cwVW {own C : String} {index maxL mc ms : Nat} {y : MethodName} {bytes : ByteArray} {ret : Option FieldType} {hh : List (Nat × Nat × Nat × Nat)} {Ts ws ws' : List Cond} {rm : Room} (n : Nat) (ht : ∀ w ∈ Ts, w.before args s = true) (hT : GoodIn Ts (wsV own index C y ws)) (hw : ws = Cond.codeWith y bytes maxL ret hh :: ws') (hrc : rm.cells = mc) (hrs : rm.slots = ms)
    (hd : y.cls = C ∧ y.cls ≠ "java/lang/invoke/MethodHandle" ∧ y.cls ≠ "java/lang/invoke/VarHandle" ∧ (parseMethodDescriptor y.desc).map (fun d => d.parameters.length) = some n) (hR : rm.frames + 1 ≤ R.frames ∧ 8 + (maxL + 11) + rm.locals ≤ R.locals) :
    vx_CVW R s args own C index y bytes maxL ret hh ws rm mc ms n := by
  obtain ⟨hC, hd⟩ := hd
  subst hC
  have ok : ∀ w ∈ wsV own index y.cls y ws, w.before args s = true := fun w h => ht w (hT w h).1
  have hG : GoodIn Ts ws := fun w h => hT w (by unfold wsV; exact List.mem_append_right _ h)
  have hc : Cond.codeWith y bytes maxL ret hh ∈ ws := by rw [hw]; exact List.mem_cons_self
  refine ⟨⟨hrc, hrs, hR.1, hR.2, pay_in ht hG, hc⟩, ht _ (hG _ hc).1, ok _ (by simp [wsV]), ⟨hd.1, hd.2.1⟩, fun sig h => ?_, ok _ (by simp [wsV]), ok _ (by simp [wsV]), ok _ (by simp [wsV])⟩
  have h2 := hd.2.2
  rw [h] at h2
  exact (Option.some.inj h2).symm
theorem vx_runVW {y : MethodName} {bytes cc : ByteArray} {maxL nL mc ms n index : Nat} {ret : Option FieldType} {hh : List (Nat × Nat × Nat × Nat)} {ws : List Cond} {rm : Room} {Pc : Array Value → State → Prop} {Qc : Array Value → State → Outcome → State → Prop} {free : Addr → Prop} {Ts : List Cond} {own C : String} {b : Addr} {As rest : List Value} {g : JFrame}
    (S : CallFix p m c cc nL s args Ts own) (hM : Met l y ws rm Pc Qc mc ms free) (cw : vx_CVW R s args own C index y bytes maxL ret hh ws rm mc ms n) (hp : PreV s H C b Pc As)
    (hg : g.method = m) (hn : As.length = n) (hsize : g.locals.size = nL) (hstack : g.stack = As.reverse ++ .ref b :: rest) (hW : 2 * g.monitorRoom + (rest.map fun v => v.category).sum ≤ 8) (hdg : decode cc g.pc = .ok (.invokevirtual index, 3)) (hf : cells + mc ≤ R.cells ∧ slots + ms ≤ R.slots) :
    va_Run p l e R s m args below meth c H locs cells slots mc ms g rest (Qc (Value.ref b :: As).toArray) free := by
  obtain ⟨⟨hrc, hrs, hfr, hlo, hws, hcw⟩, hcode, hini, hy, hlen, hl, hin, hse⟩ := cw
  have hK : Back l R p e below s args y 3 8 (PreOf R mc ms Pc) (PostOf Qc mc ms free) := va_backW (hh := hh) (bytes := bytes) (maxL := maxL) (ret := ret) hM hp.1 hrc hrs hfr hlo hws hcw (fun a' U hW => word_at hW (Or.inl (by first | rfl | simp [Cond.onTables, Cond.keeps, Cond.steady])) hini)
  obtain ⟨hx, hb, hml, ho, -⟩ := S
  obtain ⟨-, ⟨cellB, hcB, hoB, hclB⟩, hPc⟩ := hp
  intro T hT X
  obtain ⟨v, vm₁, ⟨U', l2, c2, s2⟩, hW₁, X', ⟨g', mk, t, L, e1, e2, hq, h1, hL, h2, h3⟩, st⟩ := vx_callVW X hx (C := C) (hh := hh) (bytes := bytes) (maxL := maxL) (ret := ret) ho hl hin hse hcode hy hK (by rw [hT]; exact hcB) hoB hclB hg (hsize.trans hml.symm) (argsL := As) (rest := rest) (fun sig h => hn.trans (hlen sig h)) hstack hW (by rw [hb]; exact hdg)
    (fun vm₁ hW₁ => ⟨hf.1, hf.2, hPc (T.setVm vm₁) hT hW₁⟩)
  dsimp only [Pt.U, Pt.locs, Pt.cells, Pt.slots] at X' e1 e2 h1 h2 h3 st
  subst h1; subst h2; subst h3
  exact ⟨v, (T.setVm vm₁).calling g' mk (Value.ref b :: As).toArray, t, U', L, hT, X', hL, e1, e2, hq, st⟩
section
variable {y : MethodName} {bytes cc : ByteArray} {maxL nL mc ms n index : Nat} {ret : Option FieldType} {ws : List Cond} {rm : Room} {Pc : Array Value → State → Prop} {Qc : Array Value → State → Outcome → State → Prop} {XC : String → State → State → Prop} {free : Addr → Prop} {Ts : List Cond} {own C : String} {b : Addr} {As rest : List Value} {g : JFrame}
theorem vx_runVX {hh : List (Nat × Nat × Nat × Nat)} (S : CallFix p m c cc nL s args Ts own) (hM : vx_Met l y ws rm Pc Qc XC mc ms free) (cw : vx_CVW R s args own C index y bytes maxL ret hh ws rm mc ms n) (hp : PreV s H C b Pc As)
    (hg : g.method = m) (hn : As.length = n) (hsize : g.locals.size = nL) (hstack : g.stack = As.reverse ++ .ref b :: rest) (hW : 2 * g.monitorRoom + (rest.map fun v => v.category).sum ≤ 8) (hdg : decode cc g.pc = .ok (.invokevirtual index, 3)) (hf : cells + mc ≤ R.cells ∧ slots + ms ≤ R.slots) :
    vx_Run p l e R s m args below meth c H locs cells slots mc ms g rest (Qc (Value.ref b :: As).toArray) XC free := by
  obtain ⟨⟨hrc, hrs, hfr, hlo, hws, hcw⟩, hcode, hini, hy, hlen, hl, hin, hse⟩ := cw
  have hK : vx_Back l R p e below s args y 3 8 (PreOf R mc ms Pc) (PostOf Qc mc ms free) (vx_Post XC mc ms free) := vx_backW (hh := hh) (bytes := bytes) (maxL := maxL) (ret := ret) hM hp.1 hrc hrs hfr hlo hws hcw (fun a' U hW => word_at hW (Or.inl (by first | rfl | simp [Cond.onTables, Cond.keeps, Cond.steady])) hini)
  obtain ⟨hx, hb, hml, ho, -⟩ := S
  obtain ⟨-, ⟨cellB, hcB, hoB, hclB⟩, hPc⟩ := hp
  intro T hT X
  rcases vx_callVX X hx (C := C) (hh := hh) (bytes := bytes) (maxL := maxL) (ret := ret) ho hl hin hse hcode hy hK (by rw [hT]; exact hcB) hoB hclB hg (hsize.trans hml.symm) (argsL := As) (rest := rest) (fun sig h => hn.trans (hlen sig h)) hstack hW (by rw [hb]; exact hdg)
    (fun vm₁ hW₁ => ⟨hf.1, hf.2, hPc (T.setVm vm₁) hT hW₁⟩) with ⟨v, vm₁, ⟨U', l2, c2, s2⟩, hW₁, X', ⟨g', mk, t, L, e1, e2, hq, h1, hL, h2, h3⟩, st⟩ | ⟨q, vm₁, ⟨U', l2, c2, s2⟩, hW₁, X', ⟨g', mk, t, L, E, ce, e1, e2, hq, hce, hcv, hcl, h1, hL, h2, h3⟩, st⟩
  · dsimp only [Pt.U, Pt.locs, Pt.cells, Pt.slots] at X' e1 e2 h1 h2 h3 st
    subst h1; subst h2; subst h3
    exact Or.inl ⟨v, (T.setVm vm₁).calling g' mk (Value.ref b :: As).toArray, t, U', L, hT, X', hL, e1, e2, hq, st⟩
  · dsimp only [Pt.U, Pt.locs, Pt.cells, Pt.slots] at X' e1 e2 h1 h2 h3 st hcl
    subst h1; subst h2; subst h3
    exact Or.inr ⟨q, (T.setVm vm₁).calling g' mk (Value.ref b :: As).toArray, t, U', L, E, ce, hT, X', hL, e1, e2, hq, hce, hcv, vx_cls hW₁ hcl, st⟩
theorem vx_runSX {hh : List (Nat × Nat × Nat × Nat)} (S : CallFix p m c cc nL s args Ts own) (hM : vx_Met l y ws rm Pc Qc XC mc ms free) (cw : vx_CSW R s args own index y bytes maxL ret hh ws rm mc ms n) (hp : PreS s H Pc As)
    (hg : g.method = m) (hn : As.length = n) (hsize : g.locals.size = nL) (hstack : g.stack = As.reverse ++ rest) (hW : 2 * g.monitorRoom + (rest.map fun v => v.category).sum ≤ 8) (hdg : decode cc g.pc = .ok (.invokestatic index, 3)) (hf : cells + mc ≤ R.cells ∧ slots + ms ≤ R.slots) :
    vx_Run p l e R s m args below meth c H locs cells slots mc ms g rest (Qc As.toArray) XC free := by
  obtain ⟨⟨hrc, hrs, hfr, hlo, hws, hcw⟩, hcode, hini, hy, hlen, hl, hstt⟩ := cw
  have hK : vx_Back l R p e below s args y 3 8 (PreOf R mc ms Pc) (PostOf Qc mc ms free) (vx_Post XC mc ms free) := vx_backW (hh := hh) (bytes := bytes) (maxL := maxL) (ret := ret) hM hp.1 hrc hrs hfr hlo hws hcw (fun a' U hW => word_at hW (Or.inl (by first | rfl | simp [Cond.onTables, Cond.keeps, Cond.steady])) hini)
  obtain ⟨hx, hb, hml, ho, -⟩ := S
  intro T hT X
  rcases vx_callSX X hx (hh := hh) (bytes := bytes) (maxL := maxL) (ret := ret) ho hl hstt hini hcode hy hK hg (hsize.trans hml.symm) (argsL := As) (rest := rest) (fun sig h => hn.trans (hlen sig h)) hstack hW (by rw [hb]; exact hdg)
    (fun vm₁ hW₁ => ⟨hf.1, hf.2, hp.2 (T.setVm vm₁) hT hW₁⟩) with ⟨v, vm₁, ⟨U', l2, c2, s2⟩, hW₁, X', ⟨g', mk, t, L, e1, e2, hq, h1, hL, h2, h3⟩, st⟩ | ⟨q, vm₁, ⟨U', l2, c2, s2⟩, hW₁, X', ⟨g', mk, t, L, E, ce, e1, e2, hq, hce, hcv, hcl, h1, hL, h2, h3⟩, st⟩
  · dsimp only [Pt.U, Pt.locs, Pt.cells, Pt.slots] at X' e1 e2 h1 h2 h3 st
    subst h1; subst h2; subst h3
    exact Or.inl ⟨v, (T.setVm vm₁).calling g' mk As.toArray, t, U', L, hT, X', hL, e1, e2, hq, st⟩
  · dsimp only [Pt.U, Pt.locs, Pt.cells, Pt.slots] at X' e1 e2 h1 h2 h3 st hcl
    subst h1; subst h2; subst h3
    exact Or.inr ⟨q, (T.setVm vm₁).calling g' mk As.toArray, t, U', L, E, ce, hT, X', hL, e1, e2, hq, hce, hcv, vx_cls hW₁ hcl, st⟩
end
end VXH
theorem vx_ofWH {l : Launch} {y : MethodName} {ws ws' : List Cond} {rm : Room} {Pc : Array Value → State → Prop} {Qc : Array Value → State → Outcome → State → Prop} {XC : String → State → State → Prop} {mc ms : Nat} {free : Addr → Prop} {cc : ByteArray} {maxL : Nat} {ret : Option FieldType} {hh : List (Nat × Nat × Nat × Nat)}
    (hy : plainName y.cls = true) (hw : ws = Cond.codeWith y cc maxL ret hh :: ws')
    (body : ∀ p e s m args below meth c s₁, BodyLoose p l y (headSpec ws rm) cc maxL ret e s m args below meth c s₁ → c.maxLocals = maxL → Pc args s →
      W p l e (headSpec ws rm).room s m args below meth c s.heap [] 0 0 (vx_MQ below Qc XC args s mc ms free) (entryFrame m args maxL)) : vx_Met l y ws rm Pc Qc XC mc ms free := by
  refine MetFree.of_bodyS (code := cc) (maxLocals := maxL) (ret := ret) hy ?_ ?_
  · intro args s m h hn
    obtain ⟨m9, meth, c, hn9, h1, h2, h3, h4, -, h5, h6, -⟩ := Cond.codeWith_spec (atoms_spec (ws := ws) h _ (by rw [hw]; exact List.mem_cons_self))
    cases hn.symm.trans hn9
    exact ⟨meth, c, h1, h2, h3, h4, h5, h6⟩
  · intro p e s m args below meth c s₁ B hml hP _
    have hh0 : s₁.heap = s.heap := by rw [B.state]; rfl
    obtain ⟨t, a1, o, b1, b2, b3⟩ := body p e s m args below meth c s₁ B hml hP s₁ hh0 (Stand.of_body B)
    exact ⟨t, o, a1, b1, b2, b3⟩
/-! ===== END ===== -/

/-! ===== BEGIN printed: names, fields, word lists, decode rows ===== -/
end
section
def RX0 : String := "ChargebackProcessor$Book"
def TX0 : u_T := fun k => match k with
  | 0 => ("ChargebackProcessor$Book", "setup", "LChargebackProcessor$Setup;", false)
  | 1 => ("ChargebackProcessor$Book", "day", "I", false)
  | 2 => ("ChargebackProcessor$Book", "issuerAccounts", "[I", true)
  | 3 => ("ChargebackProcessor$Book", "merchantAccounts", "[I", true)
  | 4 => ("ChargebackProcessor$Book", "networkMoney", "I", false)
  | 5 => ("ChargebackProcessor$Book", "purchases", "I", false)
  | 6 => ("ChargebackProcessor$Book", "purchaseIssuer", "[I", true)
  | 7 => ("ChargebackProcessor$Book", "purchaseMerchant", "[I", true)
  | 8 => ("ChargebackProcessor$Book", "purchaseAmount", "[I", true)
  | 9 => ("ChargebackProcessor$Book", "purchaseDay", "[I", true)
  | 10 => ("ChargebackProcessor$Book", "disputes", "I", false)
  | 11 => ("ChargebackProcessor$Book", "disputePurchase", "[I", true)
  | 12 => ("ChargebackProcessor$Book", "disputeReason", "[I", true)
  | 13 => ("ChargebackProcessor$Book", "disputeAmount", "[I", true)
  | 14 => ("ChargebackProcessor$Book", "disputeDay", "[I", true)
  | 15 => ("ChargebackProcessor$Book", "disputeEvidence", "[I", true)
  | 16 => ("ChargebackProcessor$Book", "disputeState", "[I", true)
  | _ => ("ChargebackProcessor$Book", "disputeDeadline", "[I", true)
def tyX0 : Nat → FieldType := fun k => match k with
  | 0 => .object "ChargebackProcessor$Setup"
  | 1 => .int
  | 2 => .array .int
  | 3 => .array .int
  | 4 => .int
  | 5 => .int
  | 6 => .array .int
  | 7 => .array .int
  | 8 => .array .int
  | 9 => .array .int
  | 10 => .int
  | 11 => .array .int
  | 12 => .array .int
  | 13 => .array .int
  | 14 => .array .int
  | 15 => .array .int
  | 16 => .array .int
  | _ => .array .int
theorem nmX0 : ∀ a, a < 18 → ∀ b, b < 18 → a ≠ b → (TX0 a).2.1 ≠ (TX0 b).2.1 := by decide +kernel
theorem tyX0_ok : ∀ k, k < 18 → parseFieldDescriptor (TX0 k).2.2.1 = some (tyX0 k) := by decide +kernel
abbrev cX0_init : ByteArray := prog_2_method_1_code
def yX0_init : MethodName := ⟨RX0, "<init>", "(LChargebackProcessor$Setup;)V"⟩
abbrev cX0_startAnew : ByteArray := prog_2_method_2_code
def yX0_startAnew : MethodName := ⟨RX0, "startAnew", "(LChargebackProcessor$Setup;)V"⟩
abbrev cX0_copyFrom : ByteArray := prog_2_method_3_code
def yX0_copyFrom : MethodName := ⟨RX0, "copyFrom", "(LChargebackProcessor$Book;)V"⟩
abbrev cX0_addPurchase : ByteArray := prog_2_method_4_code
def yX0_addPurchase : MethodName := ⟨RX0, "addPurchase", "(III)I"⟩
abbrev cX0_addDispute : ByteArray := prog_2_method_5_code
def yX0_addDispute : MethodName := ⟨RX0, "addDispute", "(III)I"⟩
abbrev cX0_toRepresented : ByteArray := prog_2_method_6_code
def yX0_toRepresented : MethodName := ⟨RX0, "toRepresented", "(II)V"⟩
abbrev cX0_toEscalated : ByteArray := prog_2_method_7_code
def yX0_toEscalated : MethodName := ⟨RX0, "toEscalated", "(I)V"⟩
abbrev cX0_toArbitration : ByteArray := prog_2_method_8_code
def yX0_toArbitration : MethodName := ⟨RX0, "toArbitration", "(II)V"⟩
abbrev cX0_finish : ByteArray := prog_2_method_9_code
def yX0_finish : MethodName := ⟨RX0, "finish", "(II)V"⟩
abbrev cX0_endDay : ByteArray := prog_2_method_10_code
def yX0_endDay : MethodName := ⟨RX0, "endDay", "()I"⟩
abbrev cX0_idleOutcome : ByteArray := prog_2_method_11_code
def yX0_idleOutcome : MethodName := ⟨RX0, "idleOutcome", "(I)I"⟩
abbrev cX0_isFinal : ByteArray := prog_2_method_12_code
def yX0_isFinal : MethodName := ⟨RX0, "isFinal", "(I)Z"⟩
abbrev cX0_merchantHolds : ByteArray := prog_2_method_13_code
def yX0_merchantHolds : MethodName := ⟨RX0, "merchantHolds", "(I)Z"⟩
abbrev cX0_isTooLate : ByteArray := prog_2_method_14_code
def yX0_isTooLate : MethodName := ⟨RX0, "isTooLate", "(II)Z"⟩
abbrev cX0_disputedAmount : ByteArray := prog_2_method_15_code
def yX0_disputedAmount : MethodName := ⟨RX0, "disputedAmount", "(I)I"⟩
abbrev cX0_ownScore : ByteArray := prog_2_method_16_code
def yX0_ownScore : MethodName := ⟨RX0, "ownScore", "(I)I"⟩
abbrev cX0_convinces : ByteArray := prog_2_method_17_code
def yX0_convinces : MethodName := ⟨RX0, "convinces", "(II)Z"⟩
abbrev cX0_leastConvincing : ByteArray := prog_2_method_18_code
def yX0_leastConvincing : MethodName := ⟨RX0, "leastConvincing", "(I)I"⟩
abbrev cX0_earliestDeadline : ByteArray := prog_2_method_19_code
def yX0_earliestDeadline : MethodName := ⟨RX0, "earliestDeadline", "()I"⟩
abbrev cX0_disputeRate : ByteArray := prog_2_method_20_code
def yX0_disputeRate : MethodName := ⟨RX0, "disputeRate", "(I)I"⟩
abbrev cX0_openAmount : ByteArray := prog_2_method_21_code
def yX0_openAmount : MethodName := ⟨RX0, "openAmount", "(I)I"⟩
abbrev cX0_predictedAccount : ByteArray := prog_2_method_22_code
def yX0_predictedAccount : MethodName := ⟨RX0, "predictedAccount", "(I)I"⟩
abbrev cX0_merchantOf : ByteArray := prog_2_method_23_code
def yX0_merchantOf : MethodName := ⟨RX0, "merchantOf", "(I)I"⟩
abbrev cX0_isRecent : ByteArray := prog_2_method_24_code
def yX0_isRecent : MethodName := ⟨RX0, "isRecent", "(I)Z"⟩
abbrev cX0_scoreWith : ByteArray := prog_2_method_25_code
def yX0_scoreWith : MethodName := ⟨RX0, "scoreWith", "(II)I"⟩
abbrev cX0_merchantGain : ByteArray := prog_2_method_26_code
def yX0_merchantGain : MethodName := ⟨RX0, "merchantGain", "(II)I"⟩
abbrev cX0_moveMoney : ByteArray := prog_2_method_27_code
def yX0_moveMoney : MethodName := ⟨RX0, "moveMoney", "(III)V"⟩
def RX1 : String := "ChargebackProcessor$Formula"
def TX1 : u_T := fun k => match k with
  | 0 => ("ChargebackProcessor$Formula", "items", "[I", true)
  | 1 => ("ChargebackProcessor$Formula", "stack", "[I", true)
  | _ => ("ChargebackProcessor$Formula", "length", "I", false)
def tyX1 : Nat → FieldType := fun k => match k with
  | 0 => .array .int
  | 1 => .array .int
  | _ => .int
theorem nmX1 : ∀ a, a < 3 → ∀ b, b < 3 → a ≠ b → (TX1 a).2.1 ≠ (TX1 b).2.1 := by decide +kernel
theorem tyX1_ok : ∀ k, k < 3 → parseFieldDescriptor (TX1 k).2.2.1 = some (tyX1 k) := by decide +kernel
abbrev cX1_init : ByteArray := prog_3_method_1_code
def yX1_init : MethodName := ⟨RX1, "<init>", "(I)V"⟩
abbrev cX1_add : ByteArray := prog_3_method_2_code
def yX1_add : MethodName := ⟨RX1, "add", "(I)V"⟩
abbrev cX1_valueFor : ByteArray := prog_3_method_3_code
def yX1_valueFor : MethodName := ⟨RX1, "valueFor", "(IIII)I"⟩
abbrev cX1_operand : ByteArray := prog_3_method_4_code
def yX1_operand : MethodName := ⟨RX1, "operand", "(IIIII)I"⟩
abbrev cX1_result : ByteArray := prog_3_method_5_code
def yX1_result : MethodName := ⟨RX1, "result", "(IJJ)I"⟩
def RX2 : String := "ChargebackProcessor$History"
def TX2 : u_T := fun k => match k with
  | 0 => ("ChargebackProcessor$History", "ring", "[LChargebackProcessor$Book;", true)
  | 1 => ("ChargebackProcessor$History", "at", "I", false)
  | _ => ("ChargebackProcessor$History", "undoable", "I", false)
def tyX2 : Nat → FieldType := fun k => match k with
  | 0 => .array (.object "ChargebackProcessor$Book")
  | 1 => .int
  | _ => .int
theorem nmX2 : ∀ a, a < 3 → ∀ b, b < 3 → a ≠ b → (TX2 a).2.1 ≠ (TX2 b).2.1 := by decide +kernel
theorem tyX2_ok : ∀ k, k < 3 → parseFieldDescriptor (TX2 k).2.2.1 = some (tyX2 k) := by decide +kernel
abbrev cX2_init : ByteArray := prog_4_method_1_code
def yX2_init : MethodName := ⟨RX2, "<init>", "(LChargebackProcessor$Setup;)V"⟩
abbrev cX2_present : ByteArray := prog_4_method_2_code
def yX2_present : MethodName := ⟨RX2, "present", "()LChargebackProcessor$Book;"⟩
abbrev cX2_beginChange : ByteArray := prog_4_method_3_code
def yX2_beginChange : MethodName := ⟨RX2, "beginChange", "()LChargebackProcessor$Book;"⟩
abbrev cX2_stepBack : ByteArray := prog_4_method_4_code
def yX2_stepBack : MethodName := ⟨RX2, "stepBack", "()I"⟩
def RX3 : String := "ChargebackProcessor$InputBuffer"
def TX3 : u_T := fun k => match k with
  | 0 => ("ChargebackProcessor$InputBuffer", "bytes", "[B", true)
  | _ => ("ChargebackProcessor$InputBuffer", "length", "I", false)
def tyX3 : Nat → FieldType := fun k => match k with
  | 0 => .array .byte
  | _ => .int
theorem nmX3 : ∀ a, a < 2 → ∀ b, b < 2 → a ≠ b → (TX3 a).2.1 ≠ (TX3 b).2.1 := by decide +kernel
theorem tyX3_ok : ∀ k, k < 2 → parseFieldDescriptor (TX3 k).2.2.1 = some (tyX3 k) := by decide +kernel
abbrev cX3_init : ByteArray := prog_5_method_1_code
def yX3_init : MethodName := ⟨RX3, "<init>", "()V"⟩
abbrev cX3_hasRoom : ByteArray := prog_5_method_2_code
def yX3_hasRoom : MethodName := ⟨RX3, "hasRoom", "()Z"⟩
abbrev cX3_addWord : ByteArray := prog_5_method_3_code
def yX3_addWord : MethodName := ⟨RX3, "addWord", "(I)V"⟩
abbrev cX3_clear : ByteArray := prog_5_method_4_code
def yX3_clear : MethodName := ⟨RX3, "clear", "()V"⟩
def RX4 : String := "ChargebackProcessor$Setup"
def TX4 : u_T := fun k => match k with
  | 0 => ("ChargebackProcessor$Setup", "issuers", "I", false)
  | 1 => ("ChargebackProcessor$Setup", "merchants", "I", false)
  | 2 => ("ChargebackProcessor$Setup", "openingFee", "I", false)
  | 3 => ("ChargebackProcessor$Setup", "arbitrationFee", "I", false)
  | 4 => ("ChargebackProcessor$Setup", "limit", "I", false)
  | 5 => ("ChargebackProcessor$Setup", "formula", "LChargebackProcessor$Formula;", false)
  | 6 => ("ChargebackProcessor$Setup", "reasons", "I", false)
  | 7 => ("ChargebackProcessor$Setup", "codes", "[I", true)
  | 8 => ("ChargebackProcessor$Setup", "filingWindows", "[I", true)
  | 9 => ("ChargebackProcessor$Setup", "answerWindows", "[I", true)
  | 10 => ("ChargebackProcessor$Setup", "reviewWindows", "[I", true)
  | 11 => ("ChargebackProcessor$Setup", "thresholds", "[I", true)
  | _ => ("ChargebackProcessor$Setup", "needs", "[I", true)
def tyX4 : Nat → FieldType := fun k => match k with
  | 0 => .int
  | 1 => .int
  | 2 => .int
  | 3 => .int
  | 4 => .int
  | 5 => .object "ChargebackProcessor$Formula"
  | 6 => .int
  | 7 => .array .int
  | 8 => .array .int
  | 9 => .array .int
  | 10 => .array .int
  | 11 => .array .int
  | _ => .array .int
theorem nmX4 : ∀ a, a < 13 → ∀ b, b < 13 → a ≠ b → (TX4 a).2.1 ≠ (TX4 b).2.1 := by decide +kernel
theorem tyX4_ok : ∀ k, k < 13 → parseFieldDescriptor (TX4 k).2.2.1 = some (tyX4 k) := by decide +kernel
abbrev cX4_init : ByteArray := prog_6_method_1_code
def yX4_init : MethodName := ⟨RX4, "<init>", "()V"⟩
abbrev cX4_addReason : ByteArray := prog_6_method_2_code
def yX4_addReason : MethodName := ⟨RX4, "addReason", "(IIIIII)V"⟩
abbrev cX4_reasonWithCode : ByteArray := prog_6_method_3_code
def yX4_reasonWithCode : MethodName := ⟨RX4, "reasonWithCode", "(I)I"⟩
def RX5 : String := "ChargebackProcessor$SetupReader"
def TX5 : u_T := fun k => match k with
  | 0 => ("ChargebackProcessor$SetupReader", "tokens", "LChargebackProcessor$Tokens;", true)
  | 1 => ("ChargebackProcessor$SetupReader", "setup", "LChargebackProcessor$Setup;", true)
  | 2 => ("ChargebackProcessor$SetupReader", "at", "I", false)
  | 3 => ("ChargebackProcessor$SetupReader", "hasParties", "Z", false)
  | 4 => ("ChargebackProcessor$SetupReader", "hasFees", "Z", false)
  | 5 => ("ChargebackProcessor$SetupReader", "hasScore", "Z", false)
  | 6 => ("ChargebackProcessor$SetupReader", "hasLimit", "Z", false)
  | 7 => ("ChargebackProcessor$SetupReader", "errorCode", "I", false)
  | _ => ("ChargebackProcessor$SetupReader", "errorOffset", "I", false)
def tyX5 : Nat → FieldType := fun k => match k with
  | 0 => .object "ChargebackProcessor$Tokens"
  | 1 => .object "ChargebackProcessor$Setup"
  | 2 => .int
  | 3 => .boolean
  | 4 => .boolean
  | 5 => .boolean
  | 6 => .boolean
  | 7 => .int
  | _ => .int
theorem nmX5 : ∀ a, a < 9 → ∀ b, b < 9 → a ≠ b → (TX5 a).2.1 ≠ (TX5 b).2.1 := by decide +kernel
theorem tyX5_ok : ∀ k, k < 9 → parseFieldDescriptor (TX5 k).2.2.1 = some (tyX5 k) := by decide +kernel
abbrev cX5_init : ByteArray := prog_7_method_1_code
def yX5_init : MethodName := ⟨RX5, "<init>", "(LChargebackProcessor$Tokens;)V"⟩
abbrev cX5_readAll : ByteArray := prog_7_method_2_code
def yX5_readAll : MethodName := ⟨RX5, "readAll", "()V"⟩
abbrev cX5_readParties : ByteArray := prog_7_method_3_code
def yX5_readParties : MethodName := ⟨RX5, "readParties", "()V"⟩
abbrev cX5_readReason : ByteArray := prog_7_method_4_code
def yX5_readReason : MethodName := ⟨RX5, "readReason", "()V"⟩
abbrev cX5_readFees : ByteArray := prog_7_method_5_code
def yX5_readFees : MethodName := ⟨RX5, "readFees", "()V"⟩
abbrev cX5_readScore : ByteArray := prog_7_method_6_code
def yX5_readScore : MethodName := ⟨RX5, "readScore", "()V"⟩
abbrev cX5_readLimit : ByteArray := prog_7_method_7_code
def yX5_readLimit : MethodName := ⟨RX5, "readLimit", "()V"⟩
abbrev cX5_readSum : ByteArray := prog_7_method_8_code
def yX5_readSum : MethodName := ⟨RX5, "readSum", "(I)V"⟩
abbrev cX5_readTerm : ByteArray := prog_7_method_9_code
def yX5_readTerm : MethodName := ⟨RX5, "readTerm", "(I)V"⟩
abbrev cX5_readFactor : ByteArray := prog_7_method_10_code
def yX5_readFactor : MethodName := ⟨RX5, "readFactor", "(I)V"⟩
abbrev cX5_readParentheses : ByteArray := prog_7_method_11_code
def yX5_readParentheses : MethodName := ⟨RX5, "readParentheses", "(I)V"⟩
abbrev cX5_takeName : ByteArray := prog_7_method_12_code
def yX5_takeName : MethodName := ⟨RX5, "takeName", "(I)V"⟩
abbrev cX5_takeOnce : ByteArray := prog_7_method_13_code
def yX5_takeOnce : MethodName := ⟨RX5, "takeOnce", "(Z)V"⟩
abbrev cX5_take : ByteArray := prog_7_method_14_code
def yX5_take : MethodName := ⟨RX5, "take", "(I)V"⟩
abbrev cX5_takeCode : ByteArray := prog_7_method_15_code
def yX5_takeCode : MethodName := ⟨RX5, "takeCode", "()I"⟩
abbrev cX5_takeTypes : ByteArray := prog_7_method_16_code
def yX5_takeTypes : MethodName := ⟨RX5, "takeTypes", "()I"⟩
abbrev cX5_takeNumber : ByteArray := prog_7_method_17_code
def yX5_takeNumber : MethodName := ⟨RX5, "takeNumber", "(II)I"⟩
abbrev cX5_isFine : ByteArray := prog_7_method_18_code
def yX5_isFine : MethodName := ⟨RX5, "isFine", "()Z"⟩
abbrev cX5_fail : ByteArray := prog_7_method_19_code
def yX5_fail : MethodName := ⟨RX5, "fail", "(I)V"⟩
abbrev cX5_kind : ByteArray := prog_7_method_20_code
def yX5_kind : MethodName := ⟨RX5, "kind", "()I"⟩
abbrev cX5_value : ByteArray := prog_7_method_21_code
def yX5_value : MethodName := ⟨RX5, "value", "()I"⟩
abbrev cX5_step : ByteArray := prog_7_method_22_code
def yX5_step : MethodName := ⟨RX5, "step", "()V"⟩
def RX6 : String := "ChargebackProcessor$Tokens"
def TX6 : u_T := fun k => match k with
  | 0 => ("ChargebackProcessor$Tokens", "text", "[B", true)
  | 1 => ("ChargebackProcessor$Tokens", "length", "I", true)
  | 2 => ("ChargebackProcessor$Tokens", "kinds", "[I", true)
  | 3 => ("ChargebackProcessor$Tokens", "starts", "[I", true)
  | 4 => ("ChargebackProcessor$Tokens", "values", "[I", true)
  | _ => ("ChargebackProcessor$Tokens", "count", "I", false)
def tyX6 : Nat → FieldType := fun k => match k with
  | 0 => .array .byte
  | 1 => .int
  | 2 => .array .int
  | 3 => .array .int
  | 4 => .array .int
  | _ => .int
theorem nmX6 : ∀ a, a < 6 → ∀ b, b < 6 → a ≠ b → (TX6 a).2.1 ≠ (TX6 b).2.1 := by decide +kernel
theorem tyX6_ok : ∀ k, k < 6 → parseFieldDescriptor (TX6 k).2.2.1 = some (tyX6 k) := by decide +kernel
abbrev cX6_init : ByteArray := prog_8_method_1_code
def yX6_init : MethodName := ⟨RX6, "<init>", "([BI)V"⟩
abbrev cX6_cut : ByteArray := prog_8_method_2_code
def yX6_cut : MethodName := ⟨RX6, "cut", "()V"⟩
abbrev cX6_add : ByteArray := prog_8_method_3_code
def yX6_add : MethodName := ⟨RX6, "add", "(III)V"⟩
abbrev cX6_endOfDigits : ByteArray := prog_8_method_4_code
def yX6_endOfDigits : MethodName := ⟨RX6, "endOfDigits", "(I)I"⟩
abbrev cX6_endOfLetters : ByteArray := prog_8_method_5_code
def yX6_endOfLetters : MethodName := ⟨RX6, "endOfLetters", "(I)I"⟩
abbrev cX6_valueOfDigits : ByteArray := prog_8_method_6_code
def yX6_valueOfDigits : MethodName := ⟨RX6, "valueOfDigits", "(II)I"⟩
abbrev cX6_kindOfWord : ByteArray := prog_8_method_7_code
def yX6_kindOfWord : MethodName := ⟨RX6, "kindOfWord", "(II)I"⟩
abbrev cX6_isWord : ByteArray := prog_8_method_8_code
def yX6_isWord : MethodName := ⟨RX6, "isWord", "(Ljava/lang/String;II)Z"⟩
abbrev cX6_isDigit : ByteArray := prog_8_method_9_code
def yX6_isDigit : MethodName := ⟨RX6, "isDigit", "(I)Z"⟩
abbrev cX6_isLetter : ByteArray := prog_8_method_10_code
def yX6_isLetter : MethodName := ⟨RX6, "isLetter", "(I)Z"⟩
def RX7 : String := "ChargebackProcessor"
def TX7 : u_T := fun k => match k with
  | 0 => ("ChargebackProcessor", "input", "LChargebackProcessor$InputBuffer;", true)
  | 1 => ("ChargebackProcessor", "history", "LChargebackProcessor$History;", true)
  | _ => ("ChargebackProcessor", "errorOffset", "I", false)
def tyX7 : Nat → FieldType := fun k => match k with
  | 0 => .object "ChargebackProcessor$InputBuffer"
  | 1 => .object "ChargebackProcessor$History"
  | _ => .int
theorem nmX7 : ∀ a, a < 3 → ∀ b, b < 3 → a ≠ b → (TX7 a).2.1 ≠ (TX7 b).2.1 := by decide +kernel
theorem tyX7_ok : ∀ k, k < 3 → parseFieldDescriptor (TX7 k).2.2.1 = some (tyX7 k) := by decide +kernel
abbrev cX7_init : ByteArray := prog_1_method_1_code
def yX7_init : MethodName := ⟨RX7, "<init>", "()V"⟩
abbrev cX7_append : ByteArray := prog_1_method_2_code
def yX7_append : MethodName := ⟨RX7, "append", "(IIIII)I"⟩
abbrev cX7_load : ByteArray := prog_1_method_3_code
def yX7_load : MethodName := ⟨RX7, "load", "(I)I"⟩
abbrev cX7_errorOffset : ByteArray := prog_1_method_4_code
def yX7_errorOffset : MethodName := ⟨RX7, "errorOffset", "()I"⟩
abbrev cX7_issuerCount : ByteArray := prog_1_method_5_code
def yX7_issuerCount : MethodName := ⟨RX7, "issuerCount", "()I"⟩
abbrev cX7_merchantCount : ByteArray := prog_1_method_6_code
def yX7_merchantCount : MethodName := ⟨RX7, "merchantCount", "()I"⟩
abbrev cX7_reasonCount : ByteArray := prog_1_method_7_code
def yX7_reasonCount : MethodName := ⟨RX7, "reasonCount", "()I"⟩
abbrev cX7_purchaseCount : ByteArray := prog_1_method_8_code
def yX7_purchaseCount : MethodName := ⟨RX7, "purchaseCount", "()I"⟩
abbrev cX7_disputeCount : ByteArray := prog_1_method_9_code
def yX7_disputeCount : MethodName := ⟨RX7, "disputeCount", "()I"⟩
abbrev cX7_today : ByteArray := prog_1_method_10_code
def yX7_today : MethodName := ⟨RX7, "today", "()I"⟩
abbrev cX7_reasonOf : ByteArray := prog_1_method_11_code
def yX7_reasonOf : MethodName := ⟨RX7, "reasonOf", "(I)I"⟩
abbrev cX7_issuerAccount : ByteArray := prog_1_method_12_code
def yX7_issuerAccount : MethodName := ⟨RX7, "issuerAccount", "(I)I"⟩
abbrev cX7_merchantAccount : ByteArray := prog_1_method_13_code
def yX7_merchantAccount : MethodName := ⟨RX7, "merchantAccount", "(I)I"⟩
abbrev cX7_networkAccount : ByteArray := prog_1_method_14_code
def yX7_networkAccount : MethodName := ⟨RX7, "networkAccount", "()I"⟩
abbrev cX7_disputed : ByteArray := prog_1_method_15_code
def yX7_disputed : MethodName := ⟨RX7, "disputed", "(I)I"⟩
abbrev cX7_state : ByteArray := prog_1_method_16_code
def yX7_state : MethodName := ⟨RX7, "state", "(I)I"⟩
abbrev cX7_deadline : ByteArray := prog_1_method_17_code
def yX7_deadline : MethodName := ⟨RX7, "deadline", "(I)I"⟩
abbrev cX7_evidence : ByteArray := prog_1_method_18_code
def yX7_evidence : MethodName := ⟨RX7, "evidence", "(I)I"⟩
abbrev cX7_isWithMerchant : ByteArray := prog_1_method_19_code
def yX7_isWithMerchant : MethodName := ⟨RX7, "isWithMerchant", "(I)Z"⟩
abbrev cX7_score : ByteArray := prog_1_method_20_code
def yX7_score : MethodName := ⟨RX7, "score", "(I)I"⟩
abbrev cX7_wouldWin : ByteArray := prog_1_method_21_code
def yX7_wouldWin : MethodName := ⟨RX7, "wouldWin", "(II)Z"⟩
abbrev cX7_bestEvidence : ByteArray := prog_1_method_22_code
def yX7_bestEvidence : MethodName := ⟨RX7, "bestEvidence", "(I)I"⟩
abbrev cX7_nextDeadline : ByteArray := prog_1_method_23_code
def yX7_nextDeadline : MethodName := ⟨RX7, "nextDeadline", "()I"⟩
abbrev cX7_rate : ByteArray := prog_1_method_24_code
def yX7_rate : MethodName := ⟨RX7, "rate", "(I)I"⟩
abbrev cX7_isWatched : ByteArray := prog_1_method_25_code
def yX7_isWatched : MethodName := ⟨RX7, "isWatched", "(I)Z"⟩
abbrev cX7_exposure : ByteArray := prog_1_method_26_code
def yX7_exposure : MethodName := ⟨RX7, "exposure", "(I)I"⟩
abbrev cX7_settled : ByteArray := prog_1_method_27_code
def yX7_settled : MethodName := ⟨RX7, "settled", "(I)I"⟩
abbrev cX7_purchase : ByteArray := prog_1_method_28_code
def yX7_purchase : MethodName := ⟨RX7, "purchase", "(III)I"⟩
abbrev cX7_file : ByteArray := prog_1_method_29_code
def yX7_file : MethodName := ⟨RX7, "file", "(III)I"⟩
abbrev cX7_represent : ByteArray := prog_1_method_30_code
def yX7_represent : MethodName := ⟨RX7, "represent", "(II)I"⟩
abbrev cX7_escalate : ByteArray := prog_1_method_31_code
def yX7_escalate : MethodName := ⟨RX7, "escalate", "(I)I"⟩
abbrev cX7_contest : ByteArray := prog_1_method_32_code
def yX7_contest : MethodName := ⟨RX7, "contest", "(II)I"⟩
abbrev cX7_accept : ByteArray := prog_1_method_33_code
def yX7_accept : MethodName := ⟨RX7, "accept", "(I)I"⟩
abbrev cX7_pass : ByteArray := prog_1_method_34_code
def yX7_pass : MethodName := ⟨RX7, "pass", "(I)I"⟩
abbrev cX7_undo : ByteArray := prog_1_method_35_code
def yX7_undo : MethodName := ⟨RX7, "undo", "()I"⟩
abbrev cX7_checksum : ByteArray := prog_1_method_36_code
def yX7_checksum : MethodName := ⟨RX7, "checksum", "()J"⟩
abbrev cX7_bookWithMerchant : ByteArray := prog_1_method_37_code
def yX7_bookWithMerchant : MethodName := ⟨RX7, "bookWithMerchant", "(I)LChargebackProcessor$Book;"⟩
abbrev cX7_bookWithDispute : ByteArray := prog_1_method_38_code
def yX7_bookWithDispute : MethodName := ⟨RX7, "bookWithDispute", "(I)LChargebackProcessor$Book;"⟩
abbrev cX7_checkIndex : ByteArray := prog_1_method_39_code
def yX7_checkIndex : MethodName := ⟨RX7, "checkIndex", "(II)V"⟩
abbrev cX7_checkRange : ByteArray := prog_1_method_40_code
def yX7_checkRange : MethodName := ⟨RX7, "checkRange", "(III)V"⟩
abbrev cX7_checkState : ByteArray := prog_1_method_41_code
def yX7_checkState : MethodName := ⟨RX7, "checkState", "(LChargebackProcessor$Book;II)V"⟩
def RX8 : String := "ChargebackProcessorModel"
def TX8 : u_T := fun k => match k with
  | 0 => ("ChargebackProcessorModel", "thrown", "I", false)
  | 1 => ("ChargebackProcessorModel", "buffer", "[I", true)
  | 2 => ("ChargebackProcessorModel", "bufferLength", "I", false)
  | 3 => ("ChargebackProcessorModel", "textLength", "I", false)
  | 4 => ("ChargebackProcessorModel", "position", "I", false)
  | 5 => ("ChargebackProcessorModel", "error", "I", false)
  | 6 => ("ChargebackProcessorModel", "errorAt", "I", false)
  | 7 => ("ChargebackProcessorModel", "errorOffset", "I", false)
  | 8 => ("ChargebackProcessorModel", "data", "[I", true)
  | 9 => ("ChargebackProcessorModel", "draft", "[I", true)
  | 10 => ("ChargebackProcessorModel", "future", "[I", true)
  | 11 => ("ChargebackProcessorModel", "history", "[[I", true)
  | 12 => ("ChargebackProcessorModel", "undoDepth", "I", false)
  | 13 => ("ChargebackProcessorModel", "numberStart", "I", false)
  | 14 => ("ChargebackProcessorModel", "nesting", "I", false)
  | 15 => ("ChargebackProcessorModel", "seen", "I", false)
  | _ => ("ChargebackProcessorModel", "stack", "[J", true)
def tyX8 : Nat → FieldType := fun k => match k with
  | 0 => .int
  | 1 => .array .int
  | 2 => .int
  | 3 => .int
  | 4 => .int
  | 5 => .int
  | 6 => .int
  | 7 => .int
  | 8 => .array .int
  | 9 => .array .int
  | 10 => .array .int
  | 11 => .array (.array .int)
  | 12 => .int
  | 13 => .int
  | 14 => .int
  | 15 => .int
  | _ => .array .long
theorem nmX8 : ∀ a, a < 17 → ∀ b, b < 17 → a ≠ b → (TX8 a).2.1 ≠ (TX8 b).2.1 := by decide +kernel
theorem tyX8_ok : ∀ k, k < 17 → parseFieldDescriptor (TX8 k).2.2.1 = some (tyX8 k) := by decide +kernel
abbrev cX8_init : ByteArray := prog_10_method_1_code
def yX8_init : MethodName := ⟨RX8, "<init>", "()V"⟩
abbrev cX8_thrown : ByteArray := prog_10_method_2_code
def yX8_thrown : MethodName := ⟨RX8, "thrown", "()I"⟩
abbrev cX8_fails : ByteArray := prog_10_method_3_code
def yX8_fails : MethodName := ⟨RX8, "fails", "(ZI)Z"⟩
abbrev cX8_in : ByteArray := prog_10_method_4_code
def yX8_in : MethodName := ⟨RX8, "in", "(III)Z"⟩
abbrev cX8_min : ByteArray := prog_10_method_5_code
def yX8_min : MethodName := ⟨RX8, "min", "(II)I"⟩
abbrev cX8_copy : ByteArray := prog_10_method_6_code
def yX8_copy : MethodName := ⟨RX8, "copy", "([I[I)V"⟩
abbrev cX8_clear : ByteArray := prog_10_method_7_code
def yX8_clear : MethodName := ⟨RX8, "clear", "([I)V"⟩
abbrev cX8_reason : ByteArray := prog_10_method_8_code
def yX8_reason : MethodName := ⟨RX8, "reason", "(I)I"⟩
abbrev cX8_purchase : ByteArray := prog_10_method_9_code
def yX8_purchase : MethodName := ⟨RX8, "purchase", "(I)I"⟩
abbrev cX8_dispute : ByteArray := prog_10_method_10_code
def yX8_dispute : MethodName := ⟨RX8, "dispute", "(I)I"⟩
abbrev cX8_append : ByteArray := prog_10_method_11_code
def yX8_append : MethodName := ⟨RX8, "append", "(IIIII)I"⟩
abbrev cX8_byteAt : ByteArray := prog_10_method_12_code
def yX8_byteAt : MethodName := ⟨RX8, "byteAt", "(I)I"⟩
abbrev cX8_next : ByteArray := prog_10_method_13_code
def yX8_next : MethodName := ⟨RX8, "next", "()I"⟩
abbrev cX8_isGood : ByteArray := prog_10_method_14_code
def yX8_isGood : MethodName := ⟨RX8, "isGood", "()Z"⟩
abbrev cX8_report : ByteArray := prog_10_method_15_code
def yX8_report : MethodName := ⟨RX8, "report", "(II)V"⟩
abbrev cX8_isDigit : ByteArray := prog_10_method_16_code
def yX8_isDigit : MethodName := ⟨RX8, "isDigit", "(I)Z"⟩
abbrev cX8_takeWord : ByteArray := prog_10_method_17_code
def yX8_takeWord : MethodName := ⟨RX8, "takeWord", "(Ljava/lang/String;)Z"⟩
abbrev cX8_expect : ByteArray := prog_10_method_18_code
def yX8_expect : MethodName := ⟨RX8, "expect", "(I)V"⟩
abbrev cX8_number : ByteArray := prog_10_method_19_code
def yX8_number : MethodName := ⟨RX8, "number", "(II)I"⟩
abbrev cX8_emit : ByteArray := prog_10_method_20_code
def yX8_emit : MethodName := ⟨RX8, "emit", "(I)V"⟩
abbrev cX8_factor : ByteArray := prog_10_method_21_code
def yX8_factor : MethodName := ⟨RX8, "factor", "()V"⟩
abbrev cX8_term : ByteArray := prog_10_method_22_code
def yX8_term : MethodName := ⟨RX8, "term", "()V"⟩
abbrev cX8_sum : ByteArray := prog_10_method_23_code
def yX8_sum : MethodName := ⟨RX8, "sum", "()V"⟩
abbrev cX8_once : ByteArray := prog_10_method_24_code
def yX8_once : MethodName := ⟨RX8, "once", "(II)V"⟩
abbrev cX8_readReason : ByteArray := prog_10_method_25_code
def yX8_readReason : MethodName := ⟨RX8, "readReason", "(I)V"⟩
abbrev cX8_readNeeds : ByteArray := prog_10_method_26_code
def yX8_readNeeds : MethodName := ⟨RX8, "readNeeds", "(I)V"⟩
abbrev cX8_statement : ByteArray := prog_10_method_27_code
def yX8_statement : MethodName := ⟨RX8, "statement", "()V"⟩
abbrev cX8_load : ByteArray := prog_10_method_28_code
def yX8_load : MethodName := ⟨RX8, "load", "(I)I"⟩
abbrev cX8_errorOffset : ByteArray := prog_10_method_29_code
def yX8_errorOffset : MethodName := ⟨RX8, "errorOffset", "()I"⟩
abbrev cX8_limited : ByteArray := prog_10_method_30_code
def yX8_limited : MethodName := ⟨RX8, "limited", "(J)J"⟩
abbrev cX8_operate : ByteArray := prog_10_method_31_code
def yX8_operate : MethodName := ⟨RX8, "operate", "(IJJ)J"⟩
abbrev cX8_members : ByteArray := prog_10_method_32_code
def yX8_members : MethodName := ⟨RX8, "members", "(I)I"⟩
abbrev cX8_needsOf : ByteArray := prog_10_method_33_code
def yX8_needsOf : MethodName := ⟨RX8, "needsOf", "([II)I"⟩
abbrev cX8_scoreOf : ByteArray := prog_10_method_34_code
def yX8_scoreOf : MethodName := ⟨RX8, "scoreOf", "([III)I"⟩
abbrev cX8_wins : ByteArray := prog_10_method_35_code
def yX8_wins : MethodName := ⟨RX8, "wins", "([III)Z"⟩
abbrev cX8_pay : ByteArray := prog_10_method_36_code
def yX8_pay : MethodName := ⟨RX8, "pay", "([IIII)V"⟩
abbrev cX8_issuerOf : ByteArray := prog_10_method_37_code
def yX8_issuerOf : MethodName := ⟨RX8, "issuerOf", "([II)I"⟩
abbrev cX8_merchantOf : ByteArray := prog_10_method_38_code
def yX8_merchantOf : MethodName := ⟨RX8, "merchantOf", "([II)I"⟩
abbrev cX8_give : ByteArray := prog_10_method_39_code
def yX8_give : MethodName := ⟨RX8, "give", "([IIZ)V"⟩
abbrev cX8_end : ByteArray := prog_10_method_40_code
def yX8_end : MethodName := ⟨RX8, "end", "([IIZZ)V"⟩
abbrev cX8_isFinal : ByteArray := prog_10_method_41_code
def yX8_isFinal : MethodName := ⟨RX8, "isFinal", "([II)Z"⟩
abbrev cX8_passDay : ByteArray := prog_10_method_42_code
def yX8_passDay : MethodName := ⟨RX8, "passDay", "([I)I"⟩
abbrev cX8_noIssuer : ByteArray := prog_10_method_43_code
def yX8_noIssuer : MethodName := ⟨RX8, "noIssuer", "(I)Z"⟩
abbrev cX8_noMerchant : ByteArray := prog_10_method_44_code
def yX8_noMerchant : MethodName := ⟨RX8, "noMerchant", "(I)Z"⟩
abbrev cX8_noPurchase : ByteArray := prog_10_method_45_code
def yX8_noPurchase : MethodName := ⟨RX8, "noPurchase", "(I)Z"⟩
abbrev cX8_noDispute : ByteArray := prog_10_method_46_code
def yX8_noDispute : MethodName := ⟨RX8, "noDispute", "(I)Z"⟩
abbrev cX8_issuerCount : ByteArray := prog_10_method_47_code
def yX8_issuerCount : MethodName := ⟨RX8, "issuerCount", "()I"⟩
abbrev cX8_merchantCount : ByteArray := prog_10_method_48_code
def yX8_merchantCount : MethodName := ⟨RX8, "merchantCount", "()I"⟩
abbrev cX8_reasonCount : ByteArray := prog_10_method_49_code
def yX8_reasonCount : MethodName := ⟨RX8, "reasonCount", "()I"⟩
abbrev cX8_purchaseCount : ByteArray := prog_10_method_50_code
def yX8_purchaseCount : MethodName := ⟨RX8, "purchaseCount", "()I"⟩
abbrev cX8_disputeCount : ByteArray := prog_10_method_51_code
def yX8_disputeCount : MethodName := ⟨RX8, "disputeCount", "()I"⟩
abbrev cX8_today : ByteArray := prog_10_method_52_code
def yX8_today : MethodName := ⟨RX8, "today", "()I"⟩
abbrev cX8_reasonOf : ByteArray := prog_10_method_53_code
def yX8_reasonOf : MethodName := ⟨RX8, "reasonOf", "(I)I"⟩
abbrev cX8_issuerAccount : ByteArray := prog_10_method_54_code
def yX8_issuerAccount : MethodName := ⟨RX8, "issuerAccount", "(I)I"⟩
abbrev cX8_merchantAccount : ByteArray := prog_10_method_55_code
def yX8_merchantAccount : MethodName := ⟨RX8, "merchantAccount", "(I)I"⟩
abbrev cX8_networkAccount : ByteArray := prog_10_method_56_code
def yX8_networkAccount : MethodName := ⟨RX8, "networkAccount", "()I"⟩
abbrev cX8_disputedOf : ByteArray := prog_10_method_57_code
def yX8_disputedOf : MethodName := ⟨RX8, "disputedOf", "(I)I"⟩
abbrev cX8_disputed : ByteArray := prog_10_method_58_code
def yX8_disputed : MethodName := ⟨RX8, "disputed", "(I)I"⟩
abbrev cX8_state : ByteArray := prog_10_method_59_code
def yX8_state : MethodName := ⟨RX8, "state", "(I)I"⟩
abbrev cX8_deadline : ByteArray := prog_10_method_60_code
def yX8_deadline : MethodName := ⟨RX8, "deadline", "(I)I"⟩
abbrev cX8_evidence : ByteArray := prog_10_method_61_code
def yX8_evidence : MethodName := ⟨RX8, "evidence", "(I)I"⟩
abbrev cX8_isWithMerchant : ByteArray := prog_10_method_62_code
def yX8_isWithMerchant : MethodName := ⟨RX8, "isWithMerchant", "(I)Z"⟩
abbrev cX8_score : ByteArray := prog_10_method_63_code
def yX8_score : MethodName := ⟨RX8, "score", "(I)I"⟩
abbrev cX8_wouldWin : ByteArray := prog_10_method_64_code
def yX8_wouldWin : MethodName := ⟨RX8, "wouldWin", "(II)Z"⟩
abbrev cX8_bestEvidence : ByteArray := prog_10_method_65_code
def yX8_bestEvidence : MethodName := ⟨RX8, "bestEvidence", "(I)I"⟩
abbrev cX8_nextDeadline : ByteArray := prog_10_method_66_code
def yX8_nextDeadline : MethodName := ⟨RX8, "nextDeadline", "()I"⟩
abbrev cX8_isLate : ByteArray := prog_10_method_67_code
def yX8_isLate : MethodName := ⟨RX8, "isLate", "(I)Z"⟩
abbrev cX8_rateOf : ByteArray := prog_10_method_68_code
def yX8_rateOf : MethodName := ⟨RX8, "rateOf", "(I)I"⟩
abbrev cX8_rate : ByteArray := prog_10_method_69_code
def yX8_rate : MethodName := ⟨RX8, "rate", "(I)I"⟩
abbrev cX8_isWatched : ByteArray := prog_10_method_70_code
def yX8_isWatched : MethodName := ⟨RX8, "isWatched", "(I)Z"⟩
abbrev cX8_exposure : ByteArray := prog_10_method_71_code
def yX8_exposure : MethodName := ⟨RX8, "exposure", "(I)I"⟩
abbrev cX8_isAnyOpen : ByteArray := prog_10_method_72_code
def yX8_isAnyOpen : MethodName := ⟨RX8, "isAnyOpen", "([I)Z"⟩
abbrev cX8_settled : ByteArray := prog_10_method_73_code
def yX8_settled : MethodName := ⟨RX8, "settled", "(I)I"⟩
abbrev cX8_remember : ByteArray := prog_10_method_74_code
def yX8_remember : MethodName := ⟨RX8, "remember", "()V"⟩
abbrev cX8_purchase_ : ByteArray := prog_10_method_75_code
def yX8_purchase_ : MethodName := ⟨RX8, "purchase", "(III)I"⟩
abbrev cX8_file : ByteArray := prog_10_method_76_code
def yX8_file : MethodName := ⟨RX8, "file", "(III)I"⟩
abbrev cX8_goOn : ByteArray := prog_10_method_77_code
def yX8_goOn : MethodName := ⟨RX8, "goOn", "(III)V"⟩
abbrev cX8_represent : ByteArray := prog_10_method_78_code
def yX8_represent : MethodName := ⟨RX8, "represent", "(II)I"⟩
abbrev cX8_escalate : ByteArray := prog_10_method_79_code
def yX8_escalate : MethodName := ⟨RX8, "escalate", "(I)I"⟩
abbrev cX8_contest : ByteArray := prog_10_method_80_code
def yX8_contest : MethodName := ⟨RX8, "contest", "(II)I"⟩
abbrev cX8_accept : ByteArray := prog_10_method_81_code
def yX8_accept : MethodName := ⟨RX8, "accept", "(I)I"⟩
abbrev cX8_pass : ByteArray := prog_10_method_82_code
def yX8_pass : MethodName := ⟨RX8, "pass", "(I)I"⟩
abbrev cX8_undo : ByteArray := prog_10_method_83_code
def yX8_undo : MethodName := ⟨RX8, "undo", "()I"⟩
abbrev cX8_checksum : ByteArray := prog_10_method_84_code
def yX8_checksum : MethodName := ⟨RX8, "checksum", "()J"⟩
def RJx145de : String := "java/io/Serializable"
def TJx145de : u_T := fun k => match k with
  | _ => ("", "", "", false)
def tyJx145de : Nat → FieldType := fun k => match k with
  | _ => .int
theorem nmJx145de : ∀ a, a < 0 → ∀ b, b < 0 → a ≠ b → (TJx145de a).2.1 ≠ (TJx145de b).2.1 := by decide +kernel
theorem tyJx145de_ok : ∀ k, k < 0 → parseFieldDescriptor (TJx145de k).2.2.1 = some (tyJx145de k) := by decide +kernel
def RJx9f9b0 : String := "java/lang/CharSequence"
def TJx9f9b0 : u_T := fun k => match k with
  | _ => ("", "", "", false)
def tyJx9f9b0 : Nat → FieldType := fun k => match k with
  | _ => .int
theorem nmJx9f9b0 : ∀ a, a < 0 → ∀ b, b < 0 → a ≠ b → (TJx9f9b0 a).2.1 ≠ (TJx9f9b0 b).2.1 := by decide +kernel
theorem tyJx9f9b0_ok : ∀ k, k < 0 → parseFieldDescriptor (TJx9f9b0 k).2.2.1 = some (tyJx9f9b0 k) := by decide +kernel
def RJxb160c : String := "java/lang/Comparable"
def TJxb160c : u_T := fun k => match k with
  | _ => ("", "", "", false)
def tyJxb160c : Nat → FieldType := fun k => match k with
  | _ => .int
theorem nmJxb160c : ∀ a, a < 0 → ∀ b, b < 0 → a ≠ b → (TJxb160c a).2.1 ≠ (TJxb160c b).2.1 := by decide +kernel
theorem tyJxb160c_ok : ∀ k, k < 0 → parseFieldDescriptor (TJxb160c k).2.2.1 = some (tyJxb160c k) := by decide +kernel
def RJ6 : String := "java/lang/Integer"
def TJ6 : u_T := fun k => match k with
  | _ => ("", "", "", false)
def tyJ6 : Nat → FieldType := fun k => match k with
  | _ => .int
theorem nmJ6 : ∀ a, a < 0 → ∀ b, b < 0 → a ≠ b → (TJ6 a).2.1 ≠ (TJ6 b).2.1 := by decide +kernel
theorem tyJ6_ok : ∀ k, k < 0 → parseFieldDescriptor (TJ6 k).2.2.1 = some (tyJ6 k) := by decide +kernel
abbrev cJ6_bitCount_0f7a4 : ByteArray := prog_15_method_49_code
def yJ6_bitCount_0f7a4 : MethodName := ⟨RJ6, "bitCount", "(I)I"⟩
def RJ9 : String := "java/lang/Math"
def TJ9 : u_T := fun k => match k with
  | _ => ("", "", "", false)
def tyJ9 : Nat → FieldType := fun k => match k with
  | _ => .int
theorem nmJ9 : ∀ a, a < 0 → ∀ b, b < 0 → a ≠ b → (TJ9 a).2.1 ≠ (TJ9 b).2.1 := by decide +kernel
theorem tyJ9_ok : ∀ k, k < 0 → parseFieldDescriptor (TJ9 k).2.2.1 = some (tyJ9 k) := by decide +kernel
abbrev cJ9_max_7cf53 : ByteArray := prog_16_method_65_code
def yJ9_max_7cf53 : MethodName := ⟨RJ9, "max", "(II)I"⟩
abbrev cJ9_max_f86c9 : ByteArray := prog_16_method_66_code
def yJ9_max_f86c9 : MethodName := ⟨RJ9, "max", "(JJ)J"⟩
abbrev cJ9_min_7cf53 : ByteArray := prog_16_method_69_code
def yJ9_min_7cf53 : MethodName := ⟨RJ9, "min", "(II)I"⟩
abbrev cJ9_min_f86c9 : ByteArray := prog_16_method_70_code
def yJ9_min_f86c9 : MethodName := ⟨RJ9, "min", "(JJ)J"⟩
def RJ0 : String := "java/lang/String"
def TJ0 : u_T := fun k => match k with
  | _ => ("", "", "", false)
def tyJ0 : Nat → FieldType := fun k => match k with
  | _ => .int
theorem nmJ0 : ∀ a, a < 0 → ∀ b, b < 0 → a ≠ b → (TJ0 a).2.1 ≠ (TJ0 b).2.1 := by decide +kernel
theorem tyJ0_ok : ∀ k, k < 0 → parseFieldDescriptor (TJ0 k).2.2.1 = some (tyJ0 k) := by decide +kernel
abbrev cJ0_length_8abf5 : ByteArray := prog_18_method_54_code
def yJ0_length_8abf5 : MethodName := ⟨RJ0, "length", "()I"⟩
abbrev cJ0_charAt_5068e : ByteArray := prog_18_method_56_code
def yJ0_charAt_5068e : MethodName := ⟨RJ0, "charAt", "(I)C"⟩
abbrev cJ0_coder_7d493 : ByteArray := prog_18_method_152_code
def yJ0_coder_7d493 : MethodName := ⟨RJ0, "coder", "()B"⟩
abbrev cJ0_isLatin1_aae02 : ByteArray := prog_18_method_154_code
def yJ0_isLatin1_aae02 : MethodName := ⟨RJ0, "isLatin1", "()Z"⟩
abbrev cJ0_checkIndex_df160 : ByteArray := prog_18_method_155_code
def yJ0_checkIndex_df160 : MethodName := ⟨RJ0, "checkIndex", "(II)V"⟩
def RJ1 : String := "java/lang/StringLatin1"
def TJ1 : u_T := fun k => match k with
  | _ => ("", "", "", false)
def tyJ1 : Nat → FieldType := fun k => match k with
  | _ => .int
theorem nmJ1 : ∀ a, a < 0 → ∀ b, b < 0 → a ≠ b → (TJ1 a).2.1 ≠ (TJ1 b).2.1 := by decide +kernel
theorem tyJ1_ok : ∀ k, k < 0 → parseFieldDescriptor (TJ1 k).2.2.1 = some (tyJ1 k) := by decide +kernel
abbrev cJ1_charAt_3b067 : ByteArray := prog_19_method_2_code
def yJ1_charAt_3b067 : MethodName := ⟨RJ1, "charAt", "([BI)C"⟩
def RJ2 : String := "java/lang/StringUTF16"
def TJ2 : u_T := fun k => match k with
  | _ => ("", "", "", false)
def tyJ2 : Nat → FieldType := fun k => match k with
  | _ => .int
theorem nmJ2 : ∀ a, a < 0 → ∀ b, b < 0 → a ≠ b → (TJ2 a).2.1 ≠ (TJ2 b).2.1 := by decide +kernel
theorem tyJ2_ok : ∀ k, k < 0 → parseFieldDescriptor (TJ2 k).2.2.1 = some (tyJ2 k) := by decide +kernel
abbrev cJ2_getChar_3b067 : ByteArray := prog_20_method_5_code
def yJ2_getChar_3b067 : MethodName := ⟨RJ2, "getChar", "([BI)C"⟩
abbrev cJ2_length_9d52b : ByteArray := prog_20_method_6_code
def yJ2_length_9d52b : MethodName := ⟨RJ2, "length", "([B)I"⟩
abbrev cJ2_charAt_3b067 : ByteArray := prog_20_method_83_code
def yJ2_charAt_3b067 : MethodName := ⟨RJ2, "charAt", "([BI)C"⟩
abbrev cJ2_checkIndex_2214a : ByteArray := prog_20_method_91_code
def yJ2_checkIndex_2214a : MethodName := ⟨RJ2, "checkIndex", "(I[B)V"⟩
def RJ10 : String := "java/lang/System"
def TJ10 : u_T := fun k => match k with
  | _ => ("", "", "", false)
def tyJ10 : Nat → FieldType := fun k => match k with
  | _ => .int
theorem nmJ10 : ∀ a, a < 0 → ∀ b, b < 0 → a ≠ b → (TJ10 a).2.1 ≠ (TJ10 b).2.1 := by decide +kernel
theorem tyJ10_ok : ∀ k, k < 0 → parseFieldDescriptor (TJ10 k).2.2.1 = some (tyJ10 k) := by decide +kernel
def RJxfd54e : String := "java/lang/constant/Constable"
def TJxfd54e : u_T := fun k => match k with
  | _ => ("", "", "", false)
def tyJxfd54e : Nat → FieldType := fun k => match k with
  | _ => .int
theorem nmJxfd54e : ∀ a, a < 0 → ∀ b, b < 0 → a ≠ b → (TJxfd54e a).2.1 ≠ (TJxfd54e b).2.1 := by decide +kernel
theorem tyJxfd54e_ok : ∀ k, k < 0 → parseFieldDescriptor (TJxfd54e k).2.2.1 = some (tyJxfd54e k) := by decide +kernel
def RJx3cf43 : String := "java/lang/constant/ConstantDesc"
def TJx3cf43 : u_T := fun k => match k with
  | _ => ("", "", "", false)
def tyJx3cf43 : Nat → FieldType := fun k => match k with
  | _ => .int
theorem nmJx3cf43 : ∀ a, a < 0 → ∀ b, b < 0 → a ≠ b → (TJx3cf43 a).2.1 ≠ (TJx3cf43 b).2.1 := by decide +kernel
theorem tyJx3cf43_ok : ∀ k, k < 0 → parseFieldDescriptor (TJx3cf43 k).2.2.1 = some (tyJx3cf43 k) := by decide +kernel
def RJ7 : String := "java/util/Arrays"
def TJ7 : u_T := fun k => match k with
  | _ => ("", "", "", false)
def tyJ7 : Nat → FieldType := fun k => match k with
  | _ => .int
theorem nmJ7 : ∀ a, a < 0 → ∀ b, b < 0 → a ≠ b → (TJ7 a).2.1 ≠ (TJ7 b).2.1 := by decide +kernel
theorem tyJ7_ok : ∀ k, k < 0 → parseFieldDescriptor (TJ7 k).2.2.1 = some (tyJ7 k) := by decide +kernel
abbrev cJ7_fill_53178 : ByteArray := prog_23_method_103_code
def yJ7_fill_53178 : MethodName := ⟨RJ7, "fill", "([II)V"⟩
def RJ3 : String := "jdk/internal/util/Preconditions"
def TJ3 : u_T := fun k => match k with
  | _ => ("", "", "", false)
def tyJ3 : Nat → FieldType := fun k => match k with
  | _ => .int
theorem nmJ3 : ∀ a, a < 0 → ∀ b, b < 0 → a ≠ b → (TJ3 a).2.1 ≠ (TJ3 b).2.1 := by decide +kernel
theorem tyJ3_ok : ∀ k, k < 0 → parseFieldDescriptor (TJ3 k).2.2.1 = some (tyJ3 k) := by decide +kernel
abbrev cJ3_checkIndex_8e157 : ByteArray := prog_24_method_11_code
def yJ3_checkIndex_8e157 : MethodName := ⟨RJ3, "checkIndex", "(IILjava/util/function/BiFunction;)I"⟩
def RL : String := "ChargebackProcessorLaw"
abbrev cL_load : ByteArray := method_3_code
def yL_load : MethodName := ⟨RL, "load", "(LChargebackProcessor;I[J)I"⟩
abbrev cL_issuerAccount : ByteArray := method_4_code
def yL_issuerAccount : MethodName := ⟨RL, "issuerAccount", "(LChargebackProcessor;I[J)I"⟩
abbrev cL_merchantAccount : ByteArray := method_5_code
def yL_merchantAccount : MethodName := ⟨RL, "merchantAccount", "(LChargebackProcessor;I[J)I"⟩
abbrev cL_disputed : ByteArray := method_6_code
def yL_disputed : MethodName := ⟨RL, "disputed", "(LChargebackProcessor;I[J)I"⟩
abbrev cL_state : ByteArray := method_7_code
def yL_state : MethodName := ⟨RL, "state", "(LChargebackProcessor;I[J)I"⟩
abbrev cL_deadline : ByteArray := method_8_code
def yL_deadline : MethodName := ⟨RL, "deadline", "(LChargebackProcessor;I[J)I"⟩
abbrev cL_evidence : ByteArray := method_9_code
def yL_evidence : MethodName := ⟨RL, "evidence", "(LChargebackProcessor;I[J)I"⟩
abbrev cL_isWithMerchant : ByteArray := method_10_code
def yL_isWithMerchant : MethodName := ⟨RL, "isWithMerchant", "(LChargebackProcessor;I[J)I"⟩
abbrev cL_score : ByteArray := method_11_code
def yL_score : MethodName := ⟨RL, "score", "(LChargebackProcessor;I[J)I"⟩
abbrev cL_wouldWin : ByteArray := method_12_code
def yL_wouldWin : MethodName := ⟨RL, "wouldWin", "(LChargebackProcessor;II[J)I"⟩
abbrev cL_bestEvidence : ByteArray := method_13_code
def yL_bestEvidence : MethodName := ⟨RL, "bestEvidence", "(LChargebackProcessor;I[J)I"⟩
abbrev cL_rate : ByteArray := method_14_code
def yL_rate : MethodName := ⟨RL, "rate", "(LChargebackProcessor;I[J)I"⟩
abbrev cL_isWatched : ByteArray := method_15_code
def yL_isWatched : MethodName := ⟨RL, "isWatched", "(LChargebackProcessor;I[J)I"⟩
abbrev cL_exposure : ByteArray := method_16_code
def yL_exposure : MethodName := ⟨RL, "exposure", "(LChargebackProcessor;I[J)I"⟩
abbrev cL_settled : ByteArray := method_17_code
def yL_settled : MethodName := ⟨RL, "settled", "(LChargebackProcessor;I[J)I"⟩
abbrev cL_purchase : ByteArray := method_18_code
def yL_purchase : MethodName := ⟨RL, "purchase", "(LChargebackProcessor;III[J)I"⟩
abbrev cL_file : ByteArray := method_19_code
def yL_file : MethodName := ⟨RL, "file", "(LChargebackProcessor;III[J)I"⟩
abbrev cL_represent : ByteArray := method_20_code
def yL_represent : MethodName := ⟨RL, "represent", "(LChargebackProcessor;II[J)I"⟩
abbrev cL_escalate : ByteArray := method_21_code
def yL_escalate : MethodName := ⟨RL, "escalate", "(LChargebackProcessor;I[J)I"⟩
abbrev cL_contest : ByteArray := method_22_code
def yL_contest : MethodName := ⟨RL, "contest", "(LChargebackProcessor;II[J)I"⟩
abbrev cL_accept : ByteArray := method_23_code
def yL_accept : MethodName := ⟨RL, "accept", "(LChargebackProcessor;I[J)I"⟩
abbrev cL_pass : ByteArray := method_24_code
def yL_pass : MethodName := ⟨RL, "pass", "(LChargebackProcessor;I[J)I"⟩
abbrev cL_law : ByteArray := code
def yL_law : MethodName := ⟨RL, "law", "([I)Z"⟩
abbrev vwCl : List vw_C := [(RX0, TX0, 18), (RX1, TX1, 3), (RX2, TX2, 3), (RX3, TX3, 2), (RX4, TX4, 13), (RX5, TX5, 9), (RX6, TX6, 6), (RX7, TX7, 3), (RX8, TX8, 17)]
end
section
theorem dJ0_length_8abf5_0 : decode cJ0_length_8abf5 0 = .ok (.aload_n 0, 1) := by decide +kernel
theorem dJ0_length_8abf5_1 : decode cJ0_length_8abf5 1 = .ok (.getfield 9, 3) := by decide +kernel
theorem dJ0_length_8abf5_4 : decode cJ0_length_8abf5 4 = .ok (.arraylength, 1) := by decide +kernel
theorem dJ0_length_8abf5_5 : decode cJ0_length_8abf5 5 = .ok (.aload_n 0, 1) := by decide +kernel
theorem dJ0_length_8abf5_6 : decode cJ0_length_8abf5 6 = .ok (.invokevirtual 335, 3) := by decide +kernel
theorem dJ0_length_8abf5_9 : decode cJ0_length_8abf5 9 = .ok (.ishr, 1) := by decide +kernel
theorem dJ0_length_8abf5_10 : decode cJ0_length_8abf5 10 = .ok (.ireturn, 1) := by decide +kernel
theorem dJ0_charAt_5068e_0 : decode cJ0_charAt_5068e 0 = .ok (.aload_n 0, 1) := by decide +kernel
theorem dJ0_charAt_5068e_1 : decode cJ0_charAt_5068e 1 = .ok (.invokevirtual 492, 3) := by decide +kernel
theorem dJ0_charAt_5068e_4 : decode cJ0_charAt_5068e 4 = .ok (.ifCond .eq 12, 3) := by decide +kernel
theorem dJ0_charAt_5068e_7 : decode cJ0_charAt_5068e 7 = .ok (.aload_n 0, 1) := by decide +kernel
theorem dJ0_charAt_5068e_8 : decode cJ0_charAt_5068e 8 = .ok (.getfield 9, 3) := by decide +kernel
theorem dJ0_charAt_5068e_11 : decode cJ0_charAt_5068e 11 = .ok (.iload_n 1, 1) := by decide +kernel
theorem dJ0_charAt_5068e_12 : decode cJ0_charAt_5068e 12 = .ok (.invokestatic 495, 3) := by decide +kernel
theorem dJ0_charAt_5068e_15 : decode cJ0_charAt_5068e 15 = .ok (.ireturn, 1) := by decide +kernel
theorem dJ0_charAt_5068e_16 : decode cJ0_charAt_5068e 16 = .ok (.aload_n 0, 1) := by decide +kernel
theorem dJ0_charAt_5068e_17 : decode cJ0_charAt_5068e 17 = .ok (.getfield 9, 3) := by decide +kernel
theorem dJ0_charAt_5068e_20 : decode cJ0_charAt_5068e 20 = .ok (.iload_n 1, 1) := by decide +kernel
theorem dJ0_charAt_5068e_21 : decode cJ0_charAt_5068e 21 = .ok (.invokestatic 498, 3) := by decide +kernel
theorem dJ0_charAt_5068e_24 : decode cJ0_charAt_5068e 24 = .ok (.ireturn, 1) := by decide +kernel
theorem dJ0_coder_7d493_0 : decode cJ0_coder_7d493 0 = .ok (.getstatic 38, 3) := by decide +kernel
theorem dJ0_coder_7d493_3 : decode cJ0_coder_7d493 3 = .ok (.ifCond .eq 10, 3) := by decide +kernel
theorem dJ0_coder_7d493_6 : decode cJ0_coder_7d493 6 = .ok (.aload_n 0, 1) := by decide +kernel
theorem dJ0_coder_7d493_7 : decode cJ0_coder_7d493 7 = .ok (.getfield 15, 3) := by decide +kernel
theorem dJ0_coder_7d493_10 : decode cJ0_coder_7d493 10 = .ok (.goto 4, 3) := by decide +kernel
theorem dJ0_coder_7d493_13 : decode cJ0_coder_7d493 13 = .ok (.iconst 1, 1) := by decide +kernel
theorem dJ0_coder_7d493_14 : decode cJ0_coder_7d493 14 = .ok (.ireturn, 1) := by decide +kernel
theorem dJ0_isLatin1_aae02_0 : decode cJ0_isLatin1_aae02 0 = .ok (.getstatic 38, 3) := by decide +kernel
theorem dJ0_isLatin1_aae02_3 : decode cJ0_isLatin1_aae02 3 = .ok (.ifCond .eq 14, 3) := by decide +kernel
theorem dJ0_isLatin1_aae02_6 : decode cJ0_isLatin1_aae02 6 = .ok (.aload_n 0, 1) := by decide +kernel
theorem dJ0_isLatin1_aae02_7 : decode cJ0_isLatin1_aae02 7 = .ok (.getfield 15, 3) := by decide +kernel
theorem dJ0_isLatin1_aae02_10 : decode cJ0_isLatin1_aae02 10 = .ok (.ifCond .ne 7, 3) := by decide +kernel
theorem dJ0_isLatin1_aae02_13 : decode cJ0_isLatin1_aae02 13 = .ok (.iconst 1, 1) := by decide +kernel
theorem dJ0_isLatin1_aae02_14 : decode cJ0_isLatin1_aae02 14 = .ok (.goto 4, 3) := by decide +kernel
theorem dJ0_isLatin1_aae02_17 : decode cJ0_isLatin1_aae02 17 = .ok (.iconst 0, 1) := by decide +kernel
theorem dJ0_isLatin1_aae02_18 : decode cJ0_isLatin1_aae02 18 = .ok (.ireturn, 1) := by decide +kernel
theorem dJ0_checkIndex_df160_0 : decode cJ0_checkIndex_df160 0 = .ok (.iload_n 0, 1) := by decide +kernel
theorem dJ0_checkIndex_df160_1 : decode cJ0_checkIndex_df160 1 = .ok (.iload_n 1, 1) := by decide +kernel
theorem dJ0_checkIndex_df160_2 : decode cJ0_checkIndex_df160 2 = .ok (.getstatic 1053, 3) := by decide +kernel
theorem dJ0_checkIndex_df160_5 : decode cJ0_checkIndex_df160 5 = .ok (.invokestatic 1059, 3) := by decide +kernel
theorem dJ0_checkIndex_df160_8 : decode cJ0_checkIndex_df160 8 = .ok (.pop, 1) := by decide +kernel
theorem dJ0_checkIndex_df160_9 : decode cJ0_checkIndex_df160 9 = .ok (.return_, 1) := by decide +kernel
end
section
theorem dJ1_charAt_3b067_0 : decode cJ1_charAt_3b067 0 = .ok (.iload_n 1, 1) := by decide +kernel
theorem dJ1_charAt_3b067_1 : decode cJ1_charAt_3b067 1 = .ok (.aload_n 0, 1) := by decide +kernel
theorem dJ1_charAt_3b067_2 : decode cJ1_charAt_3b067 2 = .ok (.arraylength, 1) := by decide +kernel
theorem dJ1_charAt_3b067_3 : decode cJ1_charAt_3b067 3 = .ok (.invokestatic 9, 3) := by decide +kernel
theorem dJ1_charAt_3b067_6 : decode cJ1_charAt_3b067 6 = .ok (.aload_n 0, 1) := by decide +kernel
theorem dJ1_charAt_3b067_7 : decode cJ1_charAt_3b067 7 = .ok (.iload_n 1, 1) := by decide +kernel
theorem dJ1_charAt_3b067_8 : decode cJ1_charAt_3b067 8 = .ok (.baload, 1) := by decide +kernel
theorem dJ1_charAt_3b067_9 : decode cJ1_charAt_3b067 9 = .ok (.sipush 255, 3) := by decide +kernel
theorem dJ1_charAt_3b067_12 : decode cJ1_charAt_3b067 12 = .ok (.iand, 1) := by decide +kernel
theorem dJ1_charAt_3b067_13 : decode cJ1_charAt_3b067 13 = .ok (.i2c, 1) := by decide +kernel
theorem dJ1_charAt_3b067_14 : decode cJ1_charAt_3b067 14 = .ok (.ireturn, 1) := by decide +kernel
end
section
theorem dJ2_getChar_3b067_0 : decode cJ2_getChar_3b067 0 = .ok (.getstatic 44, 3) := by decide +kernel
theorem dJ2_getChar_3b067_3 : decode cJ2_getChar_3b067 3 = .ok (.ifCond .ne 25, 3) := by decide +kernel
theorem dJ2_getChar_3b067_6 : decode cJ2_getChar_3b067 6 = .ok (.iload_n 1, 1) := by decide +kernel
theorem dJ2_getChar_3b067_7 : decode cJ2_getChar_3b067 7 = .ok (.ifCond .lt 11, 3) := by decide +kernel
theorem dJ2_getChar_3b067_10 : decode cJ2_getChar_3b067 10 = .ok (.iload_n 1, 1) := by decide +kernel
theorem dJ2_getChar_3b067_11 : decode cJ2_getChar_3b067 11 = .ok (.aload_n 0, 1) := by decide +kernel
theorem dJ2_getChar_3b067_12 : decode cJ2_getChar_3b067 12 = .ok (.invokestatic 48, 3) := by decide +kernel
theorem dJ2_getChar_3b067_15 : decode cJ2_getChar_3b067 15 = .ok (.if_icmp .lt 13, 3) := by decide +kernel
theorem dJ2_getChar_3b067_18 : decode cJ2_getChar_3b067 18 = .ok (.new 52, 3) := by decide +kernel
theorem dJ2_getChar_3b067_21 : decode cJ2_getChar_3b067 21 = .ok (.dup, 1) := by decide +kernel
theorem dJ2_getChar_3b067_22 : decode cJ2_getChar_3b067 22 = .ok (.ldc 54, 2) := by decide +kernel
theorem dJ2_getChar_3b067_24 : decode cJ2_getChar_3b067 24 = .ok (.invokespecial 56, 3) := by decide +kernel
theorem dJ2_getChar_3b067_27 : decode cJ2_getChar_3b067 27 = .ok (.athrow, 1) := by decide +kernel
theorem dJ2_getChar_3b067_28 : decode cJ2_getChar_3b067 28 = .ok (.iload_n 1, 1) := by decide +kernel
theorem dJ2_getChar_3b067_29 : decode cJ2_getChar_3b067 29 = .ok (.iconst 1, 1) := by decide +kernel
theorem dJ2_getChar_3b067_30 : decode cJ2_getChar_3b067 30 = .ok (.ishl, 1) := by decide +kernel
theorem dJ2_getChar_3b067_31 : decode cJ2_getChar_3b067 31 = .ok (.istore_n 1, 1) := by decide +kernel
theorem dJ2_getChar_3b067_32 : decode cJ2_getChar_3b067 32 = .ok (.aload_n 0, 1) := by decide +kernel
theorem dJ2_getChar_3b067_33 : decode cJ2_getChar_3b067 33 = .ok (.iload_n 1, 1) := by decide +kernel
theorem dJ2_getChar_3b067_34 : decode cJ2_getChar_3b067 34 = .ok (.iinc 1 1, 3) := by decide +kernel
theorem dJ2_getChar_3b067_37 : decode cJ2_getChar_3b067 37 = .ok (.baload, 1) := by decide +kernel
theorem dJ2_getChar_3b067_38 : decode cJ2_getChar_3b067 38 = .ok (.sipush 255, 3) := by decide +kernel
theorem dJ2_getChar_3b067_41 : decode cJ2_getChar_3b067 41 = .ok (.iand, 1) := by decide +kernel
theorem dJ2_getChar_3b067_42 : decode cJ2_getChar_3b067 42 = .ok (.getstatic 59, 3) := by decide +kernel
theorem dJ2_getChar_3b067_45 : decode cJ2_getChar_3b067 45 = .ok (.ishl, 1) := by decide +kernel
theorem dJ2_getChar_3b067_46 : decode cJ2_getChar_3b067 46 = .ok (.aload_n 0, 1) := by decide +kernel
theorem dJ2_getChar_3b067_47 : decode cJ2_getChar_3b067 47 = .ok (.iload_n 1, 1) := by decide +kernel
theorem dJ2_getChar_3b067_48 : decode cJ2_getChar_3b067 48 = .ok (.baload, 1) := by decide +kernel
theorem dJ2_getChar_3b067_49 : decode cJ2_getChar_3b067 49 = .ok (.sipush 255, 3) := by decide +kernel
theorem dJ2_getChar_3b067_52 : decode cJ2_getChar_3b067 52 = .ok (.iand, 1) := by decide +kernel
theorem dJ2_getChar_3b067_53 : decode cJ2_getChar_3b067 53 = .ok (.getstatic 63, 3) := by decide +kernel
theorem dJ2_getChar_3b067_56 : decode cJ2_getChar_3b067 56 = .ok (.ishl, 1) := by decide +kernel
theorem dJ2_getChar_3b067_57 : decode cJ2_getChar_3b067 57 = .ok (.ior, 1) := by decide +kernel
theorem dJ2_getChar_3b067_58 : decode cJ2_getChar_3b067 58 = .ok (.i2c, 1) := by decide +kernel
theorem dJ2_getChar_3b067_59 : decode cJ2_getChar_3b067 59 = .ok (.ireturn, 1) := by decide +kernel
theorem dJ2_length_9d52b_0 : decode cJ2_length_9d52b 0 = .ok (.aload_n 0, 1) := by decide +kernel
theorem dJ2_length_9d52b_1 : decode cJ2_length_9d52b 1 = .ok (.arraylength, 1) := by decide +kernel
theorem dJ2_length_9d52b_2 : decode cJ2_length_9d52b 2 = .ok (.iconst 1, 1) := by decide +kernel
theorem dJ2_length_9d52b_3 : decode cJ2_length_9d52b 3 = .ok (.ishr, 1) := by decide +kernel
theorem dJ2_length_9d52b_4 : decode cJ2_length_9d52b 4 = .ok (.ireturn, 1) := by decide +kernel
theorem dJ2_charAt_3b067_0 : decode cJ2_charAt_3b067 0 = .ok (.iload_n 1, 1) := by decide +kernel
theorem dJ2_charAt_3b067_1 : decode cJ2_charAt_3b067 1 = .ok (.aload_n 0, 1) := by decide +kernel
theorem dJ2_charAt_3b067_2 : decode cJ2_charAt_3b067 2 = .ok (.invokestatic 67, 3) := by decide +kernel
theorem dJ2_charAt_3b067_5 : decode cJ2_charAt_3b067 5 = .ok (.aload_n 0, 1) := by decide +kernel
theorem dJ2_charAt_3b067_6 : decode cJ2_charAt_3b067 6 = .ok (.iload_n 1, 1) := by decide +kernel
theorem dJ2_charAt_3b067_7 : decode cJ2_charAt_3b067 7 = .ok (.invokestatic 71, 3) := by decide +kernel
theorem dJ2_charAt_3b067_10 : decode cJ2_charAt_3b067 10 = .ok (.ireturn, 1) := by decide +kernel
theorem dJ2_checkIndex_2214a_0 : decode cJ2_checkIndex_2214a 0 = .ok (.iload_n 0, 1) := by decide +kernel
theorem dJ2_checkIndex_2214a_1 : decode cJ2_checkIndex_2214a 1 = .ok (.aload_n 1, 1) := by decide +kernel
theorem dJ2_checkIndex_2214a_2 : decode cJ2_checkIndex_2214a 2 = .ok (.invokestatic 48, 3) := by decide +kernel
theorem dJ2_checkIndex_2214a_5 : decode cJ2_checkIndex_2214a 5 = .ok (.invokestatic 414, 3) := by decide +kernel
theorem dJ2_checkIndex_2214a_8 : decode cJ2_checkIndex_2214a 8 = .ok (.return_, 1) := by decide +kernel
end
section
theorem dJ3_checkIndex_8e157_0 : decode cJ3_checkIndex_8e157 0 = .ok (.iload_n 0, 1) := by decide +kernel
theorem dJ3_checkIndex_8e157_1 : decode cJ3_checkIndex_8e157 1 = .ok (.ifCond .lt 8, 3) := by decide +kernel
theorem dJ3_checkIndex_8e157_4 : decode cJ3_checkIndex_8e157 4 = .ok (.iload_n 0, 1) := by decide +kernel
theorem dJ3_checkIndex_8e157_5 : decode cJ3_checkIndex_8e157 5 = .ok (.iload_n 1, 1) := by decide +kernel
theorem dJ3_checkIndex_8e157_6 : decode cJ3_checkIndex_8e157 6 = .ok (.if_icmp .lt 10, 3) := by decide +kernel
theorem dJ3_checkIndex_8e157_9 : decode cJ3_checkIndex_8e157 9 = .ok (.aload_n 2, 1) := by decide +kernel
theorem dJ3_checkIndex_8e157_10 : decode cJ3_checkIndex_8e157 10 = .ok (.iload_n 0, 1) := by decide +kernel
theorem dJ3_checkIndex_8e157_11 : decode cJ3_checkIndex_8e157 11 = .ok (.iload_n 1, 1) := by decide +kernel
theorem dJ3_checkIndex_8e157_12 : decode cJ3_checkIndex_8e157 12 = .ok (.invokestatic 95, 3) := by decide +kernel
theorem dJ3_checkIndex_8e157_15 : decode cJ3_checkIndex_8e157 15 = .ok (.athrow, 1) := by decide +kernel
theorem dJ3_checkIndex_8e157_16 : decode cJ3_checkIndex_8e157 16 = .ok (.iload_n 0, 1) := by decide +kernel
theorem dJ3_checkIndex_8e157_17 : decode cJ3_checkIndex_8e157 17 = .ok (.ireturn, 1) := by decide +kernel
end
section
theorem dJ6_bitCount_0f7a4_0 : decode cJ6_bitCount_0f7a4 0 = .ok (.iload_n 0, 1) := by decide +kernel
theorem dJ6_bitCount_0f7a4_1 : decode cJ6_bitCount_0f7a4 1 = .ok (.iload_n 0, 1) := by decide +kernel
theorem dJ6_bitCount_0f7a4_2 : decode cJ6_bitCount_0f7a4 2 = .ok (.iconst 1, 1) := by decide +kernel
theorem dJ6_bitCount_0f7a4_3 : decode cJ6_bitCount_0f7a4 3 = .ok (.iushr, 1) := by decide +kernel
theorem dJ6_bitCount_0f7a4_4 : decode cJ6_bitCount_0f7a4 4 = .ok (.ldc_w 265, 3) := by decide +kernel
theorem dJ6_bitCount_0f7a4_7 : decode cJ6_bitCount_0f7a4 7 = .ok (.iand, 1) := by decide +kernel
theorem dJ6_bitCount_0f7a4_8 : decode cJ6_bitCount_0f7a4 8 = .ok (.isub, 1) := by decide +kernel
theorem dJ6_bitCount_0f7a4_9 : decode cJ6_bitCount_0f7a4 9 = .ok (.istore_n 0, 1) := by decide +kernel
theorem dJ6_bitCount_0f7a4_10 : decode cJ6_bitCount_0f7a4 10 = .ok (.iload_n 0, 1) := by decide +kernel
theorem dJ6_bitCount_0f7a4_11 : decode cJ6_bitCount_0f7a4 11 = .ok (.ldc_w 266, 3) := by decide +kernel
theorem dJ6_bitCount_0f7a4_14 : decode cJ6_bitCount_0f7a4 14 = .ok (.iand, 1) := by decide +kernel
theorem dJ6_bitCount_0f7a4_15 : decode cJ6_bitCount_0f7a4 15 = .ok (.iload_n 0, 1) := by decide +kernel
theorem dJ6_bitCount_0f7a4_16 : decode cJ6_bitCount_0f7a4 16 = .ok (.iconst 2, 1) := by decide +kernel
theorem dJ6_bitCount_0f7a4_17 : decode cJ6_bitCount_0f7a4 17 = .ok (.iushr, 1) := by decide +kernel
theorem dJ6_bitCount_0f7a4_18 : decode cJ6_bitCount_0f7a4 18 = .ok (.ldc_w 266, 3) := by decide +kernel
theorem dJ6_bitCount_0f7a4_21 : decode cJ6_bitCount_0f7a4 21 = .ok (.iand, 1) := by decide +kernel
theorem dJ6_bitCount_0f7a4_22 : decode cJ6_bitCount_0f7a4 22 = .ok (.iadd, 1) := by decide +kernel
theorem dJ6_bitCount_0f7a4_23 : decode cJ6_bitCount_0f7a4 23 = .ok (.istore_n 0, 1) := by decide +kernel
theorem dJ6_bitCount_0f7a4_24 : decode cJ6_bitCount_0f7a4 24 = .ok (.iload_n 0, 1) := by decide +kernel
theorem dJ6_bitCount_0f7a4_25 : decode cJ6_bitCount_0f7a4 25 = .ok (.iload_n 0, 1) := by decide +kernel
theorem dJ6_bitCount_0f7a4_26 : decode cJ6_bitCount_0f7a4 26 = .ok (.iconst 4, 1) := by decide +kernel
theorem dJ6_bitCount_0f7a4_27 : decode cJ6_bitCount_0f7a4 27 = .ok (.iushr, 1) := by decide +kernel
theorem dJ6_bitCount_0f7a4_28 : decode cJ6_bitCount_0f7a4 28 = .ok (.iadd, 1) := by decide +kernel
theorem dJ6_bitCount_0f7a4_29 : decode cJ6_bitCount_0f7a4 29 = .ok (.ldc_w 267, 3) := by decide +kernel
theorem dJ6_bitCount_0f7a4_32 : decode cJ6_bitCount_0f7a4 32 = .ok (.iand, 1) := by decide +kernel
theorem dJ6_bitCount_0f7a4_33 : decode cJ6_bitCount_0f7a4 33 = .ok (.istore_n 0, 1) := by decide +kernel
theorem dJ6_bitCount_0f7a4_34 : decode cJ6_bitCount_0f7a4 34 = .ok (.iload_n 0, 1) := by decide +kernel
theorem dJ6_bitCount_0f7a4_35 : decode cJ6_bitCount_0f7a4 35 = .ok (.iload_n 0, 1) := by decide +kernel
theorem dJ6_bitCount_0f7a4_36 : decode cJ6_bitCount_0f7a4 36 = .ok (.bipush 8, 2) := by decide +kernel
theorem dJ6_bitCount_0f7a4_38 : decode cJ6_bitCount_0f7a4 38 = .ok (.iushr, 1) := by decide +kernel
theorem dJ6_bitCount_0f7a4_39 : decode cJ6_bitCount_0f7a4 39 = .ok (.iadd, 1) := by decide +kernel
theorem dJ6_bitCount_0f7a4_40 : decode cJ6_bitCount_0f7a4 40 = .ok (.istore_n 0, 1) := by decide +kernel
theorem dJ6_bitCount_0f7a4_41 : decode cJ6_bitCount_0f7a4 41 = .ok (.iload_n 0, 1) := by decide +kernel
theorem dJ6_bitCount_0f7a4_42 : decode cJ6_bitCount_0f7a4 42 = .ok (.iload_n 0, 1) := by decide +kernel
theorem dJ6_bitCount_0f7a4_43 : decode cJ6_bitCount_0f7a4 43 = .ok (.bipush 16, 2) := by decide +kernel
theorem dJ6_bitCount_0f7a4_45 : decode cJ6_bitCount_0f7a4 45 = .ok (.iushr, 1) := by decide +kernel
theorem dJ6_bitCount_0f7a4_46 : decode cJ6_bitCount_0f7a4 46 = .ok (.iadd, 1) := by decide +kernel
theorem dJ6_bitCount_0f7a4_47 : decode cJ6_bitCount_0f7a4 47 = .ok (.istore_n 0, 1) := by decide +kernel
theorem dJ6_bitCount_0f7a4_48 : decode cJ6_bitCount_0f7a4 48 = .ok (.iload_n 0, 1) := by decide +kernel
theorem dJ6_bitCount_0f7a4_49 : decode cJ6_bitCount_0f7a4 49 = .ok (.bipush 63, 2) := by decide +kernel
theorem dJ6_bitCount_0f7a4_51 : decode cJ6_bitCount_0f7a4 51 = .ok (.iand, 1) := by decide +kernel
theorem dJ6_bitCount_0f7a4_52 : decode cJ6_bitCount_0f7a4 52 = .ok (.ireturn, 1) := by decide +kernel
end
section
theorem dJ7_fill_53178_0 : decode cJ7_fill_53178 0 = .ok (.iconst 0, 1) := by decide +kernel
theorem dJ7_fill_53178_1 : decode cJ7_fill_53178 1 = .ok (.istore_n 2, 1) := by decide +kernel
theorem dJ7_fill_53178_2 : decode cJ7_fill_53178 2 = .ok (.aload_n 0, 1) := by decide +kernel
theorem dJ7_fill_53178_3 : decode cJ7_fill_53178 3 = .ok (.arraylength, 1) := by decide +kernel
theorem dJ7_fill_53178_4 : decode cJ7_fill_53178 4 = .ok (.istore_n 3, 1) := by decide +kernel
theorem dJ7_fill_53178_5 : decode cJ7_fill_53178 5 = .ok (.iload_n 2, 1) := by decide +kernel
theorem dJ7_fill_53178_6 : decode cJ7_fill_53178 6 = .ok (.iload_n 3, 1) := by decide +kernel
theorem dJ7_fill_53178_7 : decode cJ7_fill_53178 7 = .ok (.if_icmp .ge 13, 3) := by decide +kernel
theorem dJ7_fill_53178_10 : decode cJ7_fill_53178 10 = .ok (.aload_n 0, 1) := by decide +kernel
theorem dJ7_fill_53178_11 : decode cJ7_fill_53178 11 = .ok (.iload_n 2, 1) := by decide +kernel
theorem dJ7_fill_53178_12 : decode cJ7_fill_53178 12 = .ok (.iload_n 1, 1) := by decide +kernel
theorem dJ7_fill_53178_13 : decode cJ7_fill_53178 13 = .ok (.iastore, 1) := by decide +kernel
theorem dJ7_fill_53178_14 : decode cJ7_fill_53178 14 = .ok (.iinc 2 1, 3) := by decide +kernel
theorem dJ7_fill_53178_17 : decode cJ7_fill_53178 17 = .ok (.goto (-12), 3) := by decide +kernel
theorem dJ7_fill_53178_20 : decode cJ7_fill_53178 20 = .ok (.return_, 1) := by decide +kernel
end
section
theorem dJ9_max_7cf53_0 : decode cJ9_max_7cf53 0 = .ok (.iload_n 0, 1) := by decide +kernel
theorem dJ9_max_7cf53_1 : decode cJ9_max_7cf53 1 = .ok (.iload_n 1, 1) := by decide +kernel
theorem dJ9_max_7cf53_2 : decode cJ9_max_7cf53 2 = .ok (.if_icmp .lt 7, 3) := by decide +kernel
theorem dJ9_max_7cf53_5 : decode cJ9_max_7cf53 5 = .ok (.iload_n 0, 1) := by decide +kernel
theorem dJ9_max_7cf53_6 : decode cJ9_max_7cf53 6 = .ok (.goto 4, 3) := by decide +kernel
theorem dJ9_max_7cf53_9 : decode cJ9_max_7cf53 9 = .ok (.iload_n 1, 1) := by decide +kernel
theorem dJ9_max_7cf53_10 : decode cJ9_max_7cf53 10 = .ok (.ireturn, 1) := by decide +kernel
theorem dJ9_max_f86c9_0 : decode cJ9_max_f86c9 0 = .ok (.lload_n 0, 1) := by decide +kernel
theorem dJ9_max_f86c9_1 : decode cJ9_max_f86c9 1 = .ok (.lload_n 2, 1) := by decide +kernel
theorem dJ9_max_f86c9_2 : decode cJ9_max_f86c9 2 = .ok (.lcmp, 1) := by decide +kernel
theorem dJ9_max_f86c9_3 : decode cJ9_max_f86c9 3 = .ok (.ifCond .lt 7, 3) := by decide +kernel
theorem dJ9_max_f86c9_6 : decode cJ9_max_f86c9 6 = .ok (.lload_n 0, 1) := by decide +kernel
theorem dJ9_max_f86c9_7 : decode cJ9_max_f86c9 7 = .ok (.goto 4, 3) := by decide +kernel
theorem dJ9_max_f86c9_10 : decode cJ9_max_f86c9 10 = .ok (.lload_n 2, 1) := by decide +kernel
theorem dJ9_max_f86c9_11 : decode cJ9_max_f86c9 11 = .ok (.lreturn, 1) := by decide +kernel
theorem dJ9_min_7cf53_0 : decode cJ9_min_7cf53 0 = .ok (.iload_n 0, 1) := by decide +kernel
theorem dJ9_min_7cf53_1 : decode cJ9_min_7cf53 1 = .ok (.iload_n 1, 1) := by decide +kernel
theorem dJ9_min_7cf53_2 : decode cJ9_min_7cf53 2 = .ok (.if_icmp .gt 7, 3) := by decide +kernel
theorem dJ9_min_7cf53_5 : decode cJ9_min_7cf53 5 = .ok (.iload_n 0, 1) := by decide +kernel
theorem dJ9_min_7cf53_6 : decode cJ9_min_7cf53 6 = .ok (.goto 4, 3) := by decide +kernel
theorem dJ9_min_7cf53_9 : decode cJ9_min_7cf53 9 = .ok (.iload_n 1, 1) := by decide +kernel
theorem dJ9_min_7cf53_10 : decode cJ9_min_7cf53 10 = .ok (.ireturn, 1) := by decide +kernel
theorem dJ9_min_f86c9_0 : decode cJ9_min_f86c9 0 = .ok (.lload_n 0, 1) := by decide +kernel
theorem dJ9_min_f86c9_1 : decode cJ9_min_f86c9 1 = .ok (.lload_n 2, 1) := by decide +kernel
theorem dJ9_min_f86c9_2 : decode cJ9_min_f86c9 2 = .ok (.lcmp, 1) := by decide +kernel
theorem dJ9_min_f86c9_3 : decode cJ9_min_f86c9 3 = .ok (.ifCond .gt 7, 3) := by decide +kernel
theorem dJ9_min_f86c9_6 : decode cJ9_min_f86c9 6 = .ok (.lload_n 0, 1) := by decide +kernel
theorem dJ9_min_f86c9_7 : decode cJ9_min_f86c9 7 = .ok (.goto 4, 3) := by decide +kernel
theorem dJ9_min_f86c9_10 : decode cJ9_min_f86c9 10 = .ok (.lload_n 2, 1) := by decide +kernel
theorem dJ9_min_f86c9_11 : decode cJ9_min_f86c9 11 = .ok (.lreturn, 1) := by decide +kernel
end
section
theorem dL_load_0 : decode cL_load 0 = .ok (.aload_n 2, 1) := by decide +kernel
theorem dL_load_1 : decode cL_load 1 = .ok (.iconst 0, 1) := by decide +kernel
theorem dL_load_2 : decode cL_load 2 = .ok (.aload_n 0, 1) := by decide +kernel
theorem dL_load_3 : decode cL_load 3 = .ok (.iload_n 1, 1) := by decide +kernel
theorem dL_load_4 : decode cL_load 4 = .ok (.invokevirtual 7, 3) := by decide +kernel
theorem dL_load_7 : decode cL_load 7 = .ok (.i2l, 1) := by decide +kernel
theorem dL_load_8 : decode cL_load 8 = .ok (.lastore, 1) := by decide +kernel
theorem dL_load_9 : decode cL_load 9 = .ok (.goto 6, 3) := by decide +kernel
theorem dL_load_12 : decode cL_load 12 = .ok (.astore_n 3, 1) := by decide +kernel
theorem dL_load_13 : decode cL_load 13 = .ok (.iconst 1, 1) := by decide +kernel
theorem dL_load_14 : decode cL_load 14 = .ok (.ireturn, 1) := by decide +kernel
theorem dL_load_15 : decode cL_load 15 = .ok (.iconst 0, 1) := by decide +kernel
theorem dL_load_16 : decode cL_load 16 = .ok (.ireturn, 1) := by decide +kernel
theorem dL_issuerAccount_0 : decode cL_issuerAccount 0 = .ok (.aload_n 2, 1) := by decide +kernel
theorem dL_issuerAccount_1 : decode cL_issuerAccount 1 = .ok (.iconst 0, 1) := by decide +kernel
theorem dL_issuerAccount_2 : decode cL_issuerAccount 2 = .ok (.aload_n 0, 1) := by decide +kernel
theorem dL_issuerAccount_3 : decode cL_issuerAccount 3 = .ok (.iload_n 1, 1) := by decide +kernel
theorem dL_issuerAccount_4 : decode cL_issuerAccount 4 = .ok (.invokevirtual 15, 3) := by decide +kernel
theorem dL_issuerAccount_7 : decode cL_issuerAccount 7 = .ok (.i2l, 1) := by decide +kernel
theorem dL_issuerAccount_8 : decode cL_issuerAccount 8 = .ok (.lastore, 1) := by decide +kernel
theorem dL_issuerAccount_9 : decode cL_issuerAccount 9 = .ok (.goto 6, 3) := by decide +kernel
theorem dL_issuerAccount_12 : decode cL_issuerAccount 12 = .ok (.astore_n 3, 1) := by decide +kernel
theorem dL_issuerAccount_13 : decode cL_issuerAccount 13 = .ok (.iconst 1, 1) := by decide +kernel
theorem dL_issuerAccount_14 : decode cL_issuerAccount 14 = .ok (.ireturn, 1) := by decide +kernel
theorem dL_issuerAccount_15 : decode cL_issuerAccount 15 = .ok (.iconst 0, 1) := by decide +kernel
theorem dL_issuerAccount_16 : decode cL_issuerAccount 16 = .ok (.ireturn, 1) := by decide +kernel
theorem dL_merchantAccount_0 : decode cL_merchantAccount 0 = .ok (.aload_n 2, 1) := by decide +kernel
theorem dL_merchantAccount_1 : decode cL_merchantAccount 1 = .ok (.iconst 0, 1) := by decide +kernel
theorem dL_merchantAccount_2 : decode cL_merchantAccount 2 = .ok (.aload_n 0, 1) := by decide +kernel
theorem dL_merchantAccount_3 : decode cL_merchantAccount 3 = .ok (.iload_n 1, 1) := by decide +kernel
theorem dL_merchantAccount_4 : decode cL_merchantAccount 4 = .ok (.invokevirtual 20, 3) := by decide +kernel
theorem dL_merchantAccount_7 : decode cL_merchantAccount 7 = .ok (.i2l, 1) := by decide +kernel
theorem dL_merchantAccount_8 : decode cL_merchantAccount 8 = .ok (.lastore, 1) := by decide +kernel
theorem dL_merchantAccount_9 : decode cL_merchantAccount 9 = .ok (.goto 6, 3) := by decide +kernel
theorem dL_merchantAccount_12 : decode cL_merchantAccount 12 = .ok (.astore_n 3, 1) := by decide +kernel
theorem dL_merchantAccount_13 : decode cL_merchantAccount 13 = .ok (.iconst 1, 1) := by decide +kernel
theorem dL_merchantAccount_14 : decode cL_merchantAccount 14 = .ok (.ireturn, 1) := by decide +kernel
theorem dL_merchantAccount_15 : decode cL_merchantAccount 15 = .ok (.iconst 0, 1) := by decide +kernel
theorem dL_merchantAccount_16 : decode cL_merchantAccount 16 = .ok (.ireturn, 1) := by decide +kernel
theorem dL_disputed_0 : decode cL_disputed 0 = .ok (.aload_n 2, 1) := by decide +kernel
theorem dL_disputed_1 : decode cL_disputed 1 = .ok (.iconst 0, 1) := by decide +kernel
theorem dL_disputed_2 : decode cL_disputed 2 = .ok (.aload_n 0, 1) := by decide +kernel
theorem dL_disputed_3 : decode cL_disputed 3 = .ok (.iload_n 1, 1) := by decide +kernel
theorem dL_disputed_4 : decode cL_disputed 4 = .ok (.invokevirtual 23, 3) := by decide +kernel
theorem dL_disputed_7 : decode cL_disputed 7 = .ok (.i2l, 1) := by decide +kernel
theorem dL_disputed_8 : decode cL_disputed 8 = .ok (.lastore, 1) := by decide +kernel
theorem dL_disputed_9 : decode cL_disputed 9 = .ok (.goto 6, 3) := by decide +kernel
theorem dL_disputed_12 : decode cL_disputed 12 = .ok (.astore_n 3, 1) := by decide +kernel
theorem dL_disputed_13 : decode cL_disputed 13 = .ok (.iconst 1, 1) := by decide +kernel
theorem dL_disputed_14 : decode cL_disputed 14 = .ok (.ireturn, 1) := by decide +kernel
theorem dL_disputed_15 : decode cL_disputed 15 = .ok (.iconst 0, 1) := by decide +kernel
theorem dL_disputed_16 : decode cL_disputed 16 = .ok (.ireturn, 1) := by decide +kernel
theorem dL_state_0 : decode cL_state 0 = .ok (.aload_n 2, 1) := by decide +kernel
theorem dL_state_1 : decode cL_state 1 = .ok (.iconst 0, 1) := by decide +kernel
theorem dL_state_2 : decode cL_state 2 = .ok (.aload_n 0, 1) := by decide +kernel
theorem dL_state_3 : decode cL_state 3 = .ok (.iload_n 1, 1) := by decide +kernel
theorem dL_state_4 : decode cL_state 4 = .ok (.invokevirtual 26, 3) := by decide +kernel
theorem dL_state_7 : decode cL_state 7 = .ok (.i2l, 1) := by decide +kernel
theorem dL_state_8 : decode cL_state 8 = .ok (.lastore, 1) := by decide +kernel
theorem dL_state_9 : decode cL_state 9 = .ok (.goto 6, 3) := by decide +kernel
theorem dL_state_12 : decode cL_state 12 = .ok (.astore_n 3, 1) := by decide +kernel
theorem dL_state_13 : decode cL_state 13 = .ok (.iconst 1, 1) := by decide +kernel
theorem dL_state_14 : decode cL_state 14 = .ok (.ireturn, 1) := by decide +kernel
theorem dL_state_15 : decode cL_state 15 = .ok (.iconst 0, 1) := by decide +kernel
theorem dL_state_16 : decode cL_state 16 = .ok (.ireturn, 1) := by decide +kernel
theorem dL_deadline_0 : decode cL_deadline 0 = .ok (.aload_n 2, 1) := by decide +kernel
theorem dL_deadline_1 : decode cL_deadline 1 = .ok (.iconst 0, 1) := by decide +kernel
theorem dL_deadline_2 : decode cL_deadline 2 = .ok (.aload_n 0, 1) := by decide +kernel
theorem dL_deadline_3 : decode cL_deadline 3 = .ok (.iload_n 1, 1) := by decide +kernel
theorem dL_deadline_4 : decode cL_deadline 4 = .ok (.invokevirtual 29, 3) := by decide +kernel
theorem dL_deadline_7 : decode cL_deadline 7 = .ok (.i2l, 1) := by decide +kernel
theorem dL_deadline_8 : decode cL_deadline 8 = .ok (.lastore, 1) := by decide +kernel
theorem dL_deadline_9 : decode cL_deadline 9 = .ok (.goto 6, 3) := by decide +kernel
theorem dL_deadline_12 : decode cL_deadline 12 = .ok (.astore_n 3, 1) := by decide +kernel
theorem dL_deadline_13 : decode cL_deadline 13 = .ok (.iconst 1, 1) := by decide +kernel
theorem dL_deadline_14 : decode cL_deadline 14 = .ok (.ireturn, 1) := by decide +kernel
theorem dL_deadline_15 : decode cL_deadline 15 = .ok (.iconst 0, 1) := by decide +kernel
theorem dL_deadline_16 : decode cL_deadline 16 = .ok (.ireturn, 1) := by decide +kernel
theorem dL_evidence_0 : decode cL_evidence 0 = .ok (.aload_n 2, 1) := by decide +kernel
theorem dL_evidence_1 : decode cL_evidence 1 = .ok (.iconst 0, 1) := by decide +kernel
theorem dL_evidence_2 : decode cL_evidence 2 = .ok (.aload_n 0, 1) := by decide +kernel
theorem dL_evidence_3 : decode cL_evidence 3 = .ok (.iload_n 1, 1) := by decide +kernel
theorem dL_evidence_4 : decode cL_evidence 4 = .ok (.invokevirtual 32, 3) := by decide +kernel
theorem dL_evidence_7 : decode cL_evidence 7 = .ok (.i2l, 1) := by decide +kernel
theorem dL_evidence_8 : decode cL_evidence 8 = .ok (.lastore, 1) := by decide +kernel
theorem dL_evidence_9 : decode cL_evidence 9 = .ok (.goto 6, 3) := by decide +kernel
theorem dL_evidence_12 : decode cL_evidence 12 = .ok (.astore_n 3, 1) := by decide +kernel
theorem dL_evidence_13 : decode cL_evidence 13 = .ok (.iconst 1, 1) := by decide +kernel
theorem dL_evidence_14 : decode cL_evidence 14 = .ok (.ireturn, 1) := by decide +kernel
theorem dL_evidence_15 : decode cL_evidence 15 = .ok (.iconst 0, 1) := by decide +kernel
theorem dL_evidence_16 : decode cL_evidence 16 = .ok (.ireturn, 1) := by decide +kernel
theorem dL_isWithMerchant_0 : decode cL_isWithMerchant 0 = .ok (.aload_n 2, 1) := by decide +kernel
theorem dL_isWithMerchant_1 : decode cL_isWithMerchant 1 = .ok (.iconst 0, 1) := by decide +kernel
theorem dL_isWithMerchant_2 : decode cL_isWithMerchant 2 = .ok (.aload_n 0, 1) := by decide +kernel
theorem dL_isWithMerchant_3 : decode cL_isWithMerchant 3 = .ok (.iload_n 1, 1) := by decide +kernel
theorem dL_isWithMerchant_4 : decode cL_isWithMerchant 4 = .ok (.invokevirtual 35, 3) := by decide +kernel
theorem dL_isWithMerchant_7 : decode cL_isWithMerchant 7 = .ok (.ifCond .eq 7, 3) := by decide +kernel
theorem dL_isWithMerchant_10 : decode cL_isWithMerchant 10 = .ok (.lconst 1, 1) := by decide +kernel
theorem dL_isWithMerchant_11 : decode cL_isWithMerchant 11 = .ok (.goto 4, 3) := by decide +kernel
theorem dL_isWithMerchant_14 : decode cL_isWithMerchant 14 = .ok (.lconst 0, 1) := by decide +kernel
theorem dL_isWithMerchant_15 : decode cL_isWithMerchant 15 = .ok (.lastore, 1) := by decide +kernel
theorem dL_isWithMerchant_16 : decode cL_isWithMerchant 16 = .ok (.goto 6, 3) := by decide +kernel
theorem dL_isWithMerchant_19 : decode cL_isWithMerchant 19 = .ok (.astore_n 3, 1) := by decide +kernel
theorem dL_isWithMerchant_20 : decode cL_isWithMerchant 20 = .ok (.iconst 1, 1) := by decide +kernel
theorem dL_isWithMerchant_21 : decode cL_isWithMerchant 21 = .ok (.ireturn, 1) := by decide +kernel
theorem dL_isWithMerchant_22 : decode cL_isWithMerchant 22 = .ok (.iconst 0, 1) := by decide +kernel
theorem dL_isWithMerchant_23 : decode cL_isWithMerchant 23 = .ok (.ireturn, 1) := by decide +kernel
theorem dL_score_0 : decode cL_score 0 = .ok (.aload_n 2, 1) := by decide +kernel
theorem dL_score_1 : decode cL_score 1 = .ok (.iconst 0, 1) := by decide +kernel
theorem dL_score_2 : decode cL_score 2 = .ok (.aload_n 0, 1) := by decide +kernel
theorem dL_score_3 : decode cL_score 3 = .ok (.iload_n 1, 1) := by decide +kernel
theorem dL_score_4 : decode cL_score 4 = .ok (.invokevirtual 39, 3) := by decide +kernel
theorem dL_score_7 : decode cL_score 7 = .ok (.i2l, 1) := by decide +kernel
theorem dL_score_8 : decode cL_score 8 = .ok (.lastore, 1) := by decide +kernel
theorem dL_score_9 : decode cL_score 9 = .ok (.goto 6, 3) := by decide +kernel
theorem dL_score_12 : decode cL_score 12 = .ok (.astore_n 3, 1) := by decide +kernel
theorem dL_score_13 : decode cL_score 13 = .ok (.iconst 1, 1) := by decide +kernel
theorem dL_score_14 : decode cL_score 14 = .ok (.ireturn, 1) := by decide +kernel
theorem dL_score_15 : decode cL_score 15 = .ok (.iconst 0, 1) := by decide +kernel
theorem dL_score_16 : decode cL_score 16 = .ok (.ireturn, 1) := by decide +kernel
theorem dL_wouldWin_0 : decode cL_wouldWin 0 = .ok (.aload_n 3, 1) := by decide +kernel
theorem dL_wouldWin_1 : decode cL_wouldWin 1 = .ok (.iconst 0, 1) := by decide +kernel
theorem dL_wouldWin_2 : decode cL_wouldWin 2 = .ok (.aload_n 0, 1) := by decide +kernel
theorem dL_wouldWin_3 : decode cL_wouldWin 3 = .ok (.iload_n 1, 1) := by decide +kernel
theorem dL_wouldWin_4 : decode cL_wouldWin 4 = .ok (.iload_n 2, 1) := by decide +kernel
theorem dL_wouldWin_5 : decode cL_wouldWin 5 = .ok (.invokevirtual 42, 3) := by decide +kernel
theorem dL_wouldWin_8 : decode cL_wouldWin 8 = .ok (.ifCond .eq 7, 3) := by decide +kernel
theorem dL_wouldWin_11 : decode cL_wouldWin 11 = .ok (.lconst 1, 1) := by decide +kernel
theorem dL_wouldWin_12 : decode cL_wouldWin 12 = .ok (.goto 4, 3) := by decide +kernel
theorem dL_wouldWin_15 : decode cL_wouldWin 15 = .ok (.lconst 0, 1) := by decide +kernel
theorem dL_wouldWin_16 : decode cL_wouldWin 16 = .ok (.lastore, 1) := by decide +kernel
theorem dL_wouldWin_17 : decode cL_wouldWin 17 = .ok (.goto 11, 3) := by decide +kernel
theorem dL_wouldWin_20 : decode cL_wouldWin 20 = .ok (.astore 4, 2) := by decide +kernel
theorem dL_wouldWin_22 : decode cL_wouldWin 22 = .ok (.iconst 1, 1) := by decide +kernel
theorem dL_wouldWin_23 : decode cL_wouldWin 23 = .ok (.ireturn, 1) := by decide +kernel
theorem dL_wouldWin_24 : decode cL_wouldWin 24 = .ok (.astore 4, 2) := by decide +kernel
theorem dL_wouldWin_26 : decode cL_wouldWin 26 = .ok (.iconst 2, 1) := by decide +kernel
theorem dL_wouldWin_27 : decode cL_wouldWin 27 = .ok (.ireturn, 1) := by decide +kernel
theorem dL_wouldWin_28 : decode cL_wouldWin 28 = .ok (.iconst 0, 1) := by decide +kernel
theorem dL_wouldWin_29 : decode cL_wouldWin 29 = .ok (.ireturn, 1) := by decide +kernel
theorem dL_bestEvidence_0 : decode cL_bestEvidence 0 = .ok (.aload_n 2, 1) := by decide +kernel
theorem dL_bestEvidence_1 : decode cL_bestEvidence 1 = .ok (.iconst 0, 1) := by decide +kernel
theorem dL_bestEvidence_2 : decode cL_bestEvidence 2 = .ok (.aload_n 0, 1) := by decide +kernel
theorem dL_bestEvidence_3 : decode cL_bestEvidence 3 = .ok (.iload_n 1, 1) := by decide +kernel
theorem dL_bestEvidence_4 : decode cL_bestEvidence 4 = .ok (.invokevirtual 46, 3) := by decide +kernel
theorem dL_bestEvidence_7 : decode cL_bestEvidence 7 = .ok (.i2l, 1) := by decide +kernel
theorem dL_bestEvidence_8 : decode cL_bestEvidence 8 = .ok (.lastore, 1) := by decide +kernel
theorem dL_bestEvidence_9 : decode cL_bestEvidence 9 = .ok (.goto 6, 3) := by decide +kernel
theorem dL_bestEvidence_12 : decode cL_bestEvidence 12 = .ok (.astore_n 3, 1) := by decide +kernel
theorem dL_bestEvidence_13 : decode cL_bestEvidence 13 = .ok (.iconst 1, 1) := by decide +kernel
theorem dL_bestEvidence_14 : decode cL_bestEvidence 14 = .ok (.ireturn, 1) := by decide +kernel
theorem dL_bestEvidence_15 : decode cL_bestEvidence 15 = .ok (.iconst 0, 1) := by decide +kernel
theorem dL_bestEvidence_16 : decode cL_bestEvidence 16 = .ok (.ireturn, 1) := by decide +kernel
theorem dL_rate_0 : decode cL_rate 0 = .ok (.aload_n 2, 1) := by decide +kernel
theorem dL_rate_1 : decode cL_rate 1 = .ok (.iconst 0, 1) := by decide +kernel
theorem dL_rate_2 : decode cL_rate 2 = .ok (.aload_n 0, 1) := by decide +kernel
theorem dL_rate_3 : decode cL_rate 3 = .ok (.iload_n 1, 1) := by decide +kernel
theorem dL_rate_4 : decode cL_rate 4 = .ok (.invokevirtual 49, 3) := by decide +kernel
theorem dL_rate_7 : decode cL_rate 7 = .ok (.i2l, 1) := by decide +kernel
theorem dL_rate_8 : decode cL_rate 8 = .ok (.lastore, 1) := by decide +kernel
theorem dL_rate_9 : decode cL_rate 9 = .ok (.goto 6, 3) := by decide +kernel
theorem dL_rate_12 : decode cL_rate 12 = .ok (.astore_n 3, 1) := by decide +kernel
theorem dL_rate_13 : decode cL_rate 13 = .ok (.iconst 1, 1) := by decide +kernel
theorem dL_rate_14 : decode cL_rate 14 = .ok (.ireturn, 1) := by decide +kernel
theorem dL_rate_15 : decode cL_rate 15 = .ok (.iconst 0, 1) := by decide +kernel
theorem dL_rate_16 : decode cL_rate 16 = .ok (.ireturn, 1) := by decide +kernel
theorem dL_isWatched_0 : decode cL_isWatched 0 = .ok (.aload_n 2, 1) := by decide +kernel
theorem dL_isWatched_1 : decode cL_isWatched 1 = .ok (.iconst 0, 1) := by decide +kernel
theorem dL_isWatched_2 : decode cL_isWatched 2 = .ok (.aload_n 0, 1) := by decide +kernel
theorem dL_isWatched_3 : decode cL_isWatched 3 = .ok (.iload_n 1, 1) := by decide +kernel
theorem dL_isWatched_4 : decode cL_isWatched 4 = .ok (.invokevirtual 52, 3) := by decide +kernel
theorem dL_isWatched_7 : decode cL_isWatched 7 = .ok (.ifCond .eq 7, 3) := by decide +kernel
theorem dL_isWatched_10 : decode cL_isWatched 10 = .ok (.lconst 1, 1) := by decide +kernel
theorem dL_isWatched_11 : decode cL_isWatched 11 = .ok (.goto 4, 3) := by decide +kernel
theorem dL_isWatched_14 : decode cL_isWatched 14 = .ok (.lconst 0, 1) := by decide +kernel
theorem dL_isWatched_15 : decode cL_isWatched 15 = .ok (.lastore, 1) := by decide +kernel
theorem dL_isWatched_16 : decode cL_isWatched 16 = .ok (.goto 6, 3) := by decide +kernel
theorem dL_isWatched_19 : decode cL_isWatched 19 = .ok (.astore_n 3, 1) := by decide +kernel
theorem dL_isWatched_20 : decode cL_isWatched 20 = .ok (.iconst 1, 1) := by decide +kernel
theorem dL_isWatched_21 : decode cL_isWatched 21 = .ok (.ireturn, 1) := by decide +kernel
theorem dL_isWatched_22 : decode cL_isWatched 22 = .ok (.iconst 0, 1) := by decide +kernel
theorem dL_isWatched_23 : decode cL_isWatched 23 = .ok (.ireturn, 1) := by decide +kernel
theorem dL_exposure_0 : decode cL_exposure 0 = .ok (.aload_n 2, 1) := by decide +kernel
theorem dL_exposure_1 : decode cL_exposure 1 = .ok (.iconst 0, 1) := by decide +kernel
theorem dL_exposure_2 : decode cL_exposure 2 = .ok (.aload_n 0, 1) := by decide +kernel
theorem dL_exposure_3 : decode cL_exposure 3 = .ok (.iload_n 1, 1) := by decide +kernel
theorem dL_exposure_4 : decode cL_exposure 4 = .ok (.invokevirtual 55, 3) := by decide +kernel
theorem dL_exposure_7 : decode cL_exposure 7 = .ok (.i2l, 1) := by decide +kernel
theorem dL_exposure_8 : decode cL_exposure 8 = .ok (.lastore, 1) := by decide +kernel
theorem dL_exposure_9 : decode cL_exposure 9 = .ok (.goto 6, 3) := by decide +kernel
theorem dL_exposure_12 : decode cL_exposure 12 = .ok (.astore_n 3, 1) := by decide +kernel
theorem dL_exposure_13 : decode cL_exposure 13 = .ok (.iconst 1, 1) := by decide +kernel
theorem dL_exposure_14 : decode cL_exposure 14 = .ok (.ireturn, 1) := by decide +kernel
theorem dL_exposure_15 : decode cL_exposure 15 = .ok (.iconst 0, 1) := by decide +kernel
theorem dL_exposure_16 : decode cL_exposure 16 = .ok (.ireturn, 1) := by decide +kernel
theorem dL_settled_0 : decode cL_settled 0 = .ok (.aload_n 2, 1) := by decide +kernel
theorem dL_settled_1 : decode cL_settled 1 = .ok (.iconst 0, 1) := by decide +kernel
theorem dL_settled_2 : decode cL_settled 2 = .ok (.aload_n 0, 1) := by decide +kernel
theorem dL_settled_3 : decode cL_settled 3 = .ok (.iload_n 1, 1) := by decide +kernel
theorem dL_settled_4 : decode cL_settled 4 = .ok (.invokevirtual 58, 3) := by decide +kernel
theorem dL_settled_7 : decode cL_settled 7 = .ok (.i2l, 1) := by decide +kernel
theorem dL_settled_8 : decode cL_settled 8 = .ok (.lastore, 1) := by decide +kernel
theorem dL_settled_9 : decode cL_settled 9 = .ok (.goto 6, 3) := by decide +kernel
theorem dL_settled_12 : decode cL_settled 12 = .ok (.astore_n 3, 1) := by decide +kernel
theorem dL_settled_13 : decode cL_settled 13 = .ok (.iconst 1, 1) := by decide +kernel
theorem dL_settled_14 : decode cL_settled 14 = .ok (.ireturn, 1) := by decide +kernel
theorem dL_settled_15 : decode cL_settled 15 = .ok (.iconst 0, 1) := by decide +kernel
theorem dL_settled_16 : decode cL_settled 16 = .ok (.ireturn, 1) := by decide +kernel
theorem dL_purchase_0 : decode cL_purchase 0 = .ok (.aload 4, 2) := by decide +kernel
theorem dL_purchase_2 : decode cL_purchase 2 = .ok (.iconst 0, 1) := by decide +kernel
theorem dL_purchase_3 : decode cL_purchase 3 = .ok (.aload_n 0, 1) := by decide +kernel
theorem dL_purchase_4 : decode cL_purchase 4 = .ok (.iload_n 1, 1) := by decide +kernel
theorem dL_purchase_5 : decode cL_purchase 5 = .ok (.iload_n 2, 1) := by decide +kernel
theorem dL_purchase_6 : decode cL_purchase 6 = .ok (.iload_n 3, 1) := by decide +kernel
theorem dL_purchase_7 : decode cL_purchase 7 = .ok (.invokevirtual 61, 3) := by decide +kernel
theorem dL_purchase_10 : decode cL_purchase 10 = .ok (.i2l, 1) := by decide +kernel
theorem dL_purchase_11 : decode cL_purchase 11 = .ok (.lastore, 1) := by decide +kernel
theorem dL_purchase_12 : decode cL_purchase 12 = .ok (.goto 15, 3) := by decide +kernel
theorem dL_purchase_15 : decode cL_purchase 15 = .ok (.astore 5, 2) := by decide +kernel
theorem dL_purchase_17 : decode cL_purchase 17 = .ok (.iconst 1, 1) := by decide +kernel
theorem dL_purchase_18 : decode cL_purchase 18 = .ok (.ireturn, 1) := by decide +kernel
theorem dL_purchase_19 : decode cL_purchase 19 = .ok (.astore 5, 2) := by decide +kernel
theorem dL_purchase_21 : decode cL_purchase 21 = .ok (.iconst 2, 1) := by decide +kernel
theorem dL_purchase_22 : decode cL_purchase 22 = .ok (.ireturn, 1) := by decide +kernel
theorem dL_purchase_23 : decode cL_purchase 23 = .ok (.astore 5, 2) := by decide +kernel
theorem dL_purchase_25 : decode cL_purchase 25 = .ok (.iconst 3, 1) := by decide +kernel
theorem dL_purchase_26 : decode cL_purchase 26 = .ok (.ireturn, 1) := by decide +kernel
theorem dL_purchase_27 : decode cL_purchase 27 = .ok (.iconst 0, 1) := by decide +kernel
theorem dL_purchase_28 : decode cL_purchase 28 = .ok (.ireturn, 1) := by decide +kernel
theorem dL_file_0 : decode cL_file 0 = .ok (.aload 4, 2) := by decide +kernel
theorem dL_file_2 : decode cL_file 2 = .ok (.iconst 0, 1) := by decide +kernel
theorem dL_file_3 : decode cL_file 3 = .ok (.aload_n 0, 1) := by decide +kernel
theorem dL_file_4 : decode cL_file 4 = .ok (.iload_n 1, 1) := by decide +kernel
theorem dL_file_5 : decode cL_file 5 = .ok (.iload_n 2, 1) := by decide +kernel
theorem dL_file_6 : decode cL_file 6 = .ok (.iload_n 3, 1) := by decide +kernel
theorem dL_file_7 : decode cL_file 7 = .ok (.invokevirtual 67, 3) := by decide +kernel
theorem dL_file_10 : decode cL_file 10 = .ok (.i2l, 1) := by decide +kernel
theorem dL_file_11 : decode cL_file 11 = .ok (.lastore, 1) := by decide +kernel
theorem dL_file_12 : decode cL_file 12 = .ok (.goto 15, 3) := by decide +kernel
theorem dL_file_15 : decode cL_file 15 = .ok (.astore 5, 2) := by decide +kernel
theorem dL_file_17 : decode cL_file 17 = .ok (.iconst 1, 1) := by decide +kernel
theorem dL_file_18 : decode cL_file 18 = .ok (.ireturn, 1) := by decide +kernel
theorem dL_file_19 : decode cL_file 19 = .ok (.astore 5, 2) := by decide +kernel
theorem dL_file_21 : decode cL_file 21 = .ok (.iconst 2, 1) := by decide +kernel
theorem dL_file_22 : decode cL_file 22 = .ok (.ireturn, 1) := by decide +kernel
theorem dL_file_23 : decode cL_file 23 = .ok (.astore 5, 2) := by decide +kernel
theorem dL_file_25 : decode cL_file 25 = .ok (.iconst 3, 1) := by decide +kernel
theorem dL_file_26 : decode cL_file 26 = .ok (.ireturn, 1) := by decide +kernel
theorem dL_file_27 : decode cL_file 27 = .ok (.iconst 0, 1) := by decide +kernel
theorem dL_file_28 : decode cL_file 28 = .ok (.ireturn, 1) := by decide +kernel
theorem dL_represent_0 : decode cL_represent 0 = .ok (.aload_n 3, 1) := by decide +kernel
theorem dL_represent_1 : decode cL_represent 1 = .ok (.iconst 0, 1) := by decide +kernel
theorem dL_represent_2 : decode cL_represent 2 = .ok (.aload_n 0, 1) := by decide +kernel
theorem dL_represent_3 : decode cL_represent 3 = .ok (.iload_n 1, 1) := by decide +kernel
theorem dL_represent_4 : decode cL_represent 4 = .ok (.iload_n 2, 1) := by decide +kernel
theorem dL_represent_5 : decode cL_represent 5 = .ok (.invokevirtual 70, 3) := by decide +kernel
theorem dL_represent_8 : decode cL_represent 8 = .ok (.i2l, 1) := by decide +kernel
theorem dL_represent_9 : decode cL_represent 9 = .ok (.lastore, 1) := by decide +kernel
theorem dL_represent_10 : decode cL_represent 10 = .ok (.goto 15, 3) := by decide +kernel
theorem dL_represent_13 : decode cL_represent 13 = .ok (.astore 4, 2) := by decide +kernel
theorem dL_represent_15 : decode cL_represent 15 = .ok (.iconst 1, 1) := by decide +kernel
theorem dL_represent_16 : decode cL_represent 16 = .ok (.ireturn, 1) := by decide +kernel
theorem dL_represent_17 : decode cL_represent 17 = .ok (.astore 4, 2) := by decide +kernel
theorem dL_represent_19 : decode cL_represent 19 = .ok (.iconst 2, 1) := by decide +kernel
theorem dL_represent_20 : decode cL_represent 20 = .ok (.ireturn, 1) := by decide +kernel
theorem dL_represent_21 : decode cL_represent 21 = .ok (.astore 4, 2) := by decide +kernel
theorem dL_represent_23 : decode cL_represent 23 = .ok (.iconst 3, 1) := by decide +kernel
theorem dL_represent_24 : decode cL_represent 24 = .ok (.ireturn, 1) := by decide +kernel
theorem dL_represent_25 : decode cL_represent 25 = .ok (.iconst 0, 1) := by decide +kernel
theorem dL_represent_26 : decode cL_represent 26 = .ok (.ireturn, 1) := by decide +kernel
theorem dL_escalate_0 : decode cL_escalate 0 = .ok (.aload_n 2, 1) := by decide +kernel
theorem dL_escalate_1 : decode cL_escalate 1 = .ok (.iconst 0, 1) := by decide +kernel
theorem dL_escalate_2 : decode cL_escalate 2 = .ok (.aload_n 0, 1) := by decide +kernel
theorem dL_escalate_3 : decode cL_escalate 3 = .ok (.iload_n 1, 1) := by decide +kernel
theorem dL_escalate_4 : decode cL_escalate 4 = .ok (.invokevirtual 74, 3) := by decide +kernel
theorem dL_escalate_7 : decode cL_escalate 7 = .ok (.i2l, 1) := by decide +kernel
theorem dL_escalate_8 : decode cL_escalate 8 = .ok (.lastore, 1) := by decide +kernel
theorem dL_escalate_9 : decode cL_escalate 9 = .ok (.goto 9, 3) := by decide +kernel
theorem dL_escalate_12 : decode cL_escalate 12 = .ok (.astore_n 3, 1) := by decide +kernel
theorem dL_escalate_13 : decode cL_escalate 13 = .ok (.iconst 1, 1) := by decide +kernel
theorem dL_escalate_14 : decode cL_escalate 14 = .ok (.ireturn, 1) := by decide +kernel
theorem dL_escalate_15 : decode cL_escalate 15 = .ok (.astore_n 3, 1) := by decide +kernel
theorem dL_escalate_16 : decode cL_escalate 16 = .ok (.iconst 2, 1) := by decide +kernel
theorem dL_escalate_17 : decode cL_escalate 17 = .ok (.ireturn, 1) := by decide +kernel
theorem dL_escalate_18 : decode cL_escalate 18 = .ok (.iconst 0, 1) := by decide +kernel
theorem dL_escalate_19 : decode cL_escalate 19 = .ok (.ireturn, 1) := by decide +kernel
theorem dL_contest_0 : decode cL_contest 0 = .ok (.aload_n 3, 1) := by decide +kernel
theorem dL_contest_1 : decode cL_contest 1 = .ok (.iconst 0, 1) := by decide +kernel
theorem dL_contest_2 : decode cL_contest 2 = .ok (.aload_n 0, 1) := by decide +kernel
theorem dL_contest_3 : decode cL_contest 3 = .ok (.iload_n 1, 1) := by decide +kernel
theorem dL_contest_4 : decode cL_contest 4 = .ok (.iload_n 2, 1) := by decide +kernel
theorem dL_contest_5 : decode cL_contest 5 = .ok (.invokevirtual 77, 3) := by decide +kernel
theorem dL_contest_8 : decode cL_contest 8 = .ok (.i2l, 1) := by decide +kernel
theorem dL_contest_9 : decode cL_contest 9 = .ok (.lastore, 1) := by decide +kernel
theorem dL_contest_10 : decode cL_contest 10 = .ok (.goto 15, 3) := by decide +kernel
theorem dL_contest_13 : decode cL_contest 13 = .ok (.astore 4, 2) := by decide +kernel
theorem dL_contest_15 : decode cL_contest 15 = .ok (.iconst 1, 1) := by decide +kernel
theorem dL_contest_16 : decode cL_contest 16 = .ok (.ireturn, 1) := by decide +kernel
theorem dL_contest_17 : decode cL_contest 17 = .ok (.astore 4, 2) := by decide +kernel
theorem dL_contest_19 : decode cL_contest 19 = .ok (.iconst 2, 1) := by decide +kernel
theorem dL_contest_20 : decode cL_contest 20 = .ok (.ireturn, 1) := by decide +kernel
theorem dL_contest_21 : decode cL_contest 21 = .ok (.astore 4, 2) := by decide +kernel
theorem dL_contest_23 : decode cL_contest 23 = .ok (.iconst 3, 1) := by decide +kernel
theorem dL_contest_24 : decode cL_contest 24 = .ok (.ireturn, 1) := by decide +kernel
theorem dL_contest_25 : decode cL_contest 25 = .ok (.iconst 0, 1) := by decide +kernel
theorem dL_contest_26 : decode cL_contest 26 = .ok (.ireturn, 1) := by decide +kernel
theorem dL_accept_0 : decode cL_accept 0 = .ok (.aload_n 2, 1) := by decide +kernel
theorem dL_accept_1 : decode cL_accept 1 = .ok (.iconst 0, 1) := by decide +kernel
theorem dL_accept_2 : decode cL_accept 2 = .ok (.aload_n 0, 1) := by decide +kernel
theorem dL_accept_3 : decode cL_accept 3 = .ok (.iload_n 1, 1) := by decide +kernel
theorem dL_accept_4 : decode cL_accept 4 = .ok (.invokevirtual 80, 3) := by decide +kernel
theorem dL_accept_7 : decode cL_accept 7 = .ok (.i2l, 1) := by decide +kernel
theorem dL_accept_8 : decode cL_accept 8 = .ok (.lastore, 1) := by decide +kernel
theorem dL_accept_9 : decode cL_accept 9 = .ok (.goto 9, 3) := by decide +kernel
theorem dL_accept_12 : decode cL_accept 12 = .ok (.astore_n 3, 1) := by decide +kernel
theorem dL_accept_13 : decode cL_accept 13 = .ok (.iconst 1, 1) := by decide +kernel
theorem dL_accept_14 : decode cL_accept 14 = .ok (.ireturn, 1) := by decide +kernel
theorem dL_accept_15 : decode cL_accept 15 = .ok (.astore_n 3, 1) := by decide +kernel
theorem dL_accept_16 : decode cL_accept 16 = .ok (.iconst 2, 1) := by decide +kernel
theorem dL_accept_17 : decode cL_accept 17 = .ok (.ireturn, 1) := by decide +kernel
theorem dL_accept_18 : decode cL_accept 18 = .ok (.iconst 0, 1) := by decide +kernel
theorem dL_accept_19 : decode cL_accept 19 = .ok (.ireturn, 1) := by decide +kernel
theorem dL_pass_0 : decode cL_pass 0 = .ok (.aload_n 2, 1) := by decide +kernel
theorem dL_pass_1 : decode cL_pass 1 = .ok (.iconst 0, 1) := by decide +kernel
theorem dL_pass_2 : decode cL_pass 2 = .ok (.aload_n 0, 1) := by decide +kernel
theorem dL_pass_3 : decode cL_pass 3 = .ok (.iload_n 1, 1) := by decide +kernel
theorem dL_pass_4 : decode cL_pass 4 = .ok (.invokevirtual 83, 3) := by decide +kernel
theorem dL_pass_7 : decode cL_pass 7 = .ok (.i2l, 1) := by decide +kernel
theorem dL_pass_8 : decode cL_pass 8 = .ok (.lastore, 1) := by decide +kernel
theorem dL_pass_9 : decode cL_pass 9 = .ok (.goto 9, 3) := by decide +kernel
theorem dL_pass_12 : decode cL_pass 12 = .ok (.astore_n 3, 1) := by decide +kernel
theorem dL_pass_13 : decode cL_pass 13 = .ok (.iconst 1, 1) := by decide +kernel
theorem dL_pass_14 : decode cL_pass 14 = .ok (.ireturn, 1) := by decide +kernel
theorem dL_pass_15 : decode cL_pass 15 = .ok (.astore_n 3, 1) := by decide +kernel
theorem dL_pass_16 : decode cL_pass 16 = .ok (.iconst 2, 1) := by decide +kernel
theorem dL_pass_17 : decode cL_pass 17 = .ok (.ireturn, 1) := by decide +kernel
theorem dL_pass_18 : decode cL_pass 18 = .ok (.iconst 0, 1) := by decide +kernel
theorem dL_pass_19 : decode cL_pass 19 = .ok (.ireturn, 1) := by decide +kernel
theorem dL_law_0 : decode cL_law 0 = .ok (.new 8, 3) := by decide +kernel
theorem dL_law_3 : decode cL_law 3 = .ok (.dup, 1) := by decide +kernel
theorem dL_law_4 : decode cL_law 4 = .ok (.invokespecial 86, 3) := by decide +kernel
theorem dL_law_7 : decode cL_law 7 = .ok (.astore_n 1, 1) := by decide +kernel
theorem dL_law_8 : decode cL_law 8 = .ok (.new 87, 3) := by decide +kernel
theorem dL_law_11 : decode cL_law 11 = .ok (.dup, 1) := by decide +kernel
theorem dL_law_12 : decode cL_law 12 = .ok (.invokespecial 89, 3) := by decide +kernel
theorem dL_law_15 : decode cL_law 15 = .ok (.astore_n 2, 1) := by decide +kernel
theorem dL_law_16 : decode cL_law 16 = .ok (.iconst 1, 1) := by decide +kernel
theorem dL_law_17 : decode cL_law 17 = .ok (.newarray .long, 2) := by decide +kernel
theorem dL_law_19 : decode cL_law 19 = .ok (.astore_n 3, 1) := by decide +kernel
theorem dL_law_20 : decode cL_law 20 = .ok (.iconst 0, 1) := by decide +kernel
theorem dL_law_21 : decode cL_law 21 = .ok (.istore 4, 2) := by decide +kernel
theorem dL_law_23 : decode cL_law 23 = .ok (.iload 4, 2) := by decide +kernel
theorem dL_law_25 : decode cL_law 25 = .ok (.aload_n 0, 1) := by decide +kernel
theorem dL_law_26 : decode cL_law 26 = .ok (.arraylength, 1) := by decide +kernel
theorem dL_law_27 : decode cL_law 27 = .ok (.bipush 6, 2) := by decide +kernel
theorem dL_law_29 : decode cL_law 29 = .ok (.isub, 1) := by decide +kernel
theorem dL_law_30 : decode cL_law 30 = .ok (.if_icmp .gt 1751, 3) := by decide +kernel
theorem dL_law_33 : decode cL_law 33 = .ok (.aload_n 0, 1) := by decide +kernel
theorem dL_law_34 : decode cL_law 34 = .ok (.iload 4, 2) := by decide +kernel
theorem dL_law_36 : decode cL_law 36 = .ok (.iaload, 1) := by decide +kernel
theorem dL_law_37 : decode cL_law 37 = .ok (.bipush 63, 2) := by decide +kernel
theorem dL_law_39 : decode cL_law 39 = .ok (.iand, 1) := by decide +kernel
theorem dL_law_40 : decode cL_law 40 = .ok (.tableswitch 1735 0 34 #[156, 229, 285, 298, 311, 324, 337, 350, 363, 376, 401, 457, 513, 526, 582, 638, 694, 750, 813, 869, 944, 1000, 1013, 1069, 1132, 1188, 1244, 1324, 1404, 1472, 1528, 1596, 1652, 1708, 1721], 156) := by decide +kernel
theorem dL_law_196 : decode cL_law 196 = .ok (.aload_n 1, 1) := by decide +kernel
theorem dL_law_197 : decode cL_law 197 = .ok (.aload_n 0, 1) := by decide +kernel
theorem dL_law_198 : decode cL_law 198 = .ok (.iload 4, 2) := by decide +kernel
theorem dL_law_200 : decode cL_law 200 = .ok (.iconst 1, 1) := by decide +kernel
theorem dL_law_201 : decode cL_law 201 = .ok (.iadd, 1) := by decide +kernel
theorem dL_law_202 : decode cL_law 202 = .ok (.iaload, 1) := by decide +kernel
theorem dL_law_203 : decode cL_law 203 = .ok (.aload_n 0, 1) := by decide +kernel
theorem dL_law_204 : decode cL_law 204 = .ok (.iload 4, 2) := by decide +kernel
theorem dL_law_206 : decode cL_law 206 = .ok (.iconst 2, 1) := by decide +kernel
theorem dL_law_207 : decode cL_law 207 = .ok (.iadd, 1) := by decide +kernel
theorem dL_law_208 : decode cL_law 208 = .ok (.iaload, 1) := by decide +kernel
theorem dL_law_209 : decode cL_law 209 = .ok (.aload_n 0, 1) := by decide +kernel
theorem dL_law_210 : decode cL_law 210 = .ok (.iload 4, 2) := by decide +kernel
theorem dL_law_212 : decode cL_law 212 = .ok (.iconst 3, 1) := by decide +kernel
theorem dL_law_213 : decode cL_law 213 = .ok (.iadd, 1) := by decide +kernel
theorem dL_law_214 : decode cL_law 214 = .ok (.iaload, 1) := by decide +kernel
theorem dL_law_215 : decode cL_law 215 = .ok (.aload_n 0, 1) := by decide +kernel
theorem dL_law_216 : decode cL_law 216 = .ok (.iload 4, 2) := by decide +kernel
theorem dL_law_218 : decode cL_law 218 = .ok (.iconst 4, 1) := by decide +kernel
theorem dL_law_219 : decode cL_law 219 = .ok (.iadd, 1) := by decide +kernel
theorem dL_law_220 : decode cL_law 220 = .ok (.iaload, 1) := by decide +kernel
theorem dL_law_221 : decode cL_law 221 = .ok (.aload_n 0, 1) := by decide +kernel
theorem dL_law_222 : decode cL_law 222 = .ok (.iload 4, 2) := by decide +kernel
theorem dL_law_224 : decode cL_law 224 = .ok (.iconst 5, 1) := by decide +kernel
theorem dL_law_225 : decode cL_law 225 = .ok (.iadd, 1) := by decide +kernel
theorem dL_law_226 : decode cL_law 226 = .ok (.iaload, 1) := by decide +kernel
theorem dL_law_227 : decode cL_law 227 = .ok (.invokevirtual 90, 3) := by decide +kernel
theorem dL_law_230 : decode cL_law 230 = .ok (.aload_n 2, 1) := by decide +kernel
theorem dL_law_231 : decode cL_law 231 = .ok (.aload_n 0, 1) := by decide +kernel
theorem dL_law_232 : decode cL_law 232 = .ok (.iload 4, 2) := by decide +kernel
theorem dL_law_234 : decode cL_law 234 = .ok (.iconst 1, 1) := by decide +kernel
theorem dL_law_235 : decode cL_law 235 = .ok (.iadd, 1) := by decide +kernel
theorem dL_law_236 : decode cL_law 236 = .ok (.iaload, 1) := by decide +kernel
theorem dL_law_237 : decode cL_law 237 = .ok (.aload_n 0, 1) := by decide +kernel
theorem dL_law_238 : decode cL_law 238 = .ok (.iload 4, 2) := by decide +kernel
theorem dL_law_240 : decode cL_law 240 = .ok (.iconst 2, 1) := by decide +kernel
theorem dL_law_241 : decode cL_law 241 = .ok (.iadd, 1) := by decide +kernel
theorem dL_law_242 : decode cL_law 242 = .ok (.iaload, 1) := by decide +kernel
theorem dL_law_243 : decode cL_law 243 = .ok (.aload_n 0, 1) := by decide +kernel
theorem dL_law_244 : decode cL_law 244 = .ok (.iload 4, 2) := by decide +kernel
theorem dL_law_246 : decode cL_law 246 = .ok (.iconst 3, 1) := by decide +kernel
theorem dL_law_247 : decode cL_law 247 = .ok (.iadd, 1) := by decide +kernel
theorem dL_law_248 : decode cL_law 248 = .ok (.iaload, 1) := by decide +kernel
theorem dL_law_249 : decode cL_law 249 = .ok (.aload_n 0, 1) := by decide +kernel
theorem dL_law_250 : decode cL_law 250 = .ok (.iload 4, 2) := by decide +kernel
theorem dL_law_252 : decode cL_law 252 = .ok (.iconst 4, 1) := by decide +kernel
theorem dL_law_253 : decode cL_law 253 = .ok (.iadd, 1) := by decide +kernel
theorem dL_law_254 : decode cL_law 254 = .ok (.iaload, 1) := by decide +kernel
theorem dL_law_255 : decode cL_law 255 = .ok (.aload_n 0, 1) := by decide +kernel
theorem dL_law_256 : decode cL_law 256 = .ok (.iload 4, 2) := by decide +kernel
theorem dL_law_258 : decode cL_law 258 = .ok (.iconst 5, 1) := by decide +kernel
theorem dL_law_259 : decode cL_law 259 = .ok (.iadd, 1) := by decide +kernel
theorem dL_law_260 : decode cL_law 260 = .ok (.iaload, 1) := by decide +kernel
theorem dL_law_261 : decode cL_law 261 = .ok (.invokevirtual 94, 3) := by decide +kernel
theorem dL_law_264 : decode cL_law 264 = .ok (.if_icmp .eq 1511, 3) := by decide +kernel
theorem dL_law_267 : decode cL_law 267 = .ok (.iconst 0, 1) := by decide +kernel
theorem dL_law_268 : decode cL_law 268 = .ok (.ireturn, 1) := by decide +kernel
theorem dL_law_269 : decode cL_law 269 = .ok (.aload_n 1, 1) := by decide +kernel
theorem dL_law_270 : decode cL_law 270 = .ok (.aload_n 0, 1) := by decide +kernel
theorem dL_law_271 : decode cL_law 271 = .ok (.iload 4, 2) := by decide +kernel
theorem dL_law_273 : decode cL_law 273 = .ok (.iconst 1, 1) := by decide +kernel
theorem dL_law_274 : decode cL_law 274 = .ok (.iadd, 1) := by decide +kernel
theorem dL_law_275 : decode cL_law 275 = .ok (.iaload, 1) := by decide +kernel
theorem dL_law_276 : decode cL_law 276 = .ok (.aload_n 3, 1) := by decide +kernel
theorem dL_law_277 : decode cL_law 277 = .ok (.invokestatic 95, 3) := by decide +kernel
theorem dL_law_280 : decode cL_law 280 = .ok (.istore 5, 2) := by decide +kernel
theorem dL_law_282 : decode cL_law 282 = .ok (.aload_n 2, 1) := by decide +kernel
theorem dL_law_283 : decode cL_law 283 = .ok (.aload_n 0, 1) := by decide +kernel
theorem dL_law_284 : decode cL_law 284 = .ok (.iload 4, 2) := by decide +kernel
theorem dL_law_286 : decode cL_law 286 = .ok (.iconst 1, 1) := by decide +kernel
theorem dL_law_287 : decode cL_law 287 = .ok (.iadd, 1) := by decide +kernel
theorem dL_law_288 : decode cL_law 288 = .ok (.iaload, 1) := by decide +kernel
theorem dL_law_289 : decode cL_law 289 = .ok (.invokevirtual 100, 3) := by decide +kernel
theorem dL_law_292 : decode cL_law 292 = .ok (.istore 6, 2) := by decide +kernel
theorem dL_law_294 : decode cL_law 294 = .ok (.aload_n 2, 1) := by decide +kernel
theorem dL_law_295 : decode cL_law 295 = .ok (.invokevirtual 101, 3) := by decide +kernel
theorem dL_law_298 : decode cL_law 298 = .ok (.iload 5, 2) := by decide +kernel
theorem dL_law_300 : decode cL_law 300 = .ok (.if_icmp .eq 5, 3) := by decide +kernel
theorem dL_law_303 : decode cL_law 303 = .ok (.iconst 0, 1) := by decide +kernel
theorem dL_law_304 : decode cL_law 304 = .ok (.ireturn, 1) := by decide +kernel
theorem dL_law_305 : decode cL_law 305 = .ok (.iload 5, 2) := by decide +kernel
theorem dL_law_307 : decode cL_law 307 = .ok (.ifCond .ne 15, 3) := by decide +kernel
theorem dL_law_310 : decode cL_law 310 = .ok (.aload_n 3, 1) := by decide +kernel
theorem dL_law_311 : decode cL_law 311 = .ok (.iconst 0, 1) := by decide +kernel
theorem dL_law_312 : decode cL_law 312 = .ok (.laload, 1) := by decide +kernel
theorem dL_law_313 : decode cL_law 313 = .ok (.iload 6, 2) := by decide +kernel
theorem dL_law_315 : decode cL_law 315 = .ok (.i2l, 1) := by decide +kernel
theorem dL_law_316 : decode cL_law 316 = .ok (.lcmp, 1) := by decide +kernel
theorem dL_law_317 : decode cL_law 317 = .ok (.ifCond .eq 5, 3) := by decide +kernel
theorem dL_law_320 : decode cL_law 320 = .ok (.iconst 0, 1) := by decide +kernel
theorem dL_law_321 : decode cL_law 321 = .ok (.ireturn, 1) := by decide +kernel
theorem dL_law_322 : decode cL_law 322 = .ok (.goto 1453, 3) := by decide +kernel
theorem dL_law_325 : decode cL_law 325 = .ok (.aload_n 1, 1) := by decide +kernel
theorem dL_law_326 : decode cL_law 326 = .ok (.invokevirtual 105, 3) := by decide +kernel
theorem dL_law_329 : decode cL_law 329 = .ok (.aload_n 2, 1) := by decide +kernel
theorem dL_law_330 : decode cL_law 330 = .ok (.invokevirtual 108, 3) := by decide +kernel
theorem dL_law_333 : decode cL_law 333 = .ok (.if_icmp .eq 1442, 3) := by decide +kernel
theorem dL_law_336 : decode cL_law 336 = .ok (.iconst 0, 1) := by decide +kernel
theorem dL_law_337 : decode cL_law 337 = .ok (.ireturn, 1) := by decide +kernel
theorem dL_law_338 : decode cL_law 338 = .ok (.aload_n 1, 1) := by decide +kernel
theorem dL_law_339 : decode cL_law 339 = .ok (.invokevirtual 109, 3) := by decide +kernel
theorem dL_law_342 : decode cL_law 342 = .ok (.aload_n 2, 1) := by decide +kernel
theorem dL_law_343 : decode cL_law 343 = .ok (.invokevirtual 112, 3) := by decide +kernel
theorem dL_law_346 : decode cL_law 346 = .ok (.if_icmp .eq 1429, 3) := by decide +kernel
theorem dL_law_349 : decode cL_law 349 = .ok (.iconst 0, 1) := by decide +kernel
theorem dL_law_350 : decode cL_law 350 = .ok (.ireturn, 1) := by decide +kernel
theorem dL_law_351 : decode cL_law 351 = .ok (.aload_n 1, 1) := by decide +kernel
theorem dL_law_352 : decode cL_law 352 = .ok (.invokevirtual 113, 3) := by decide +kernel
theorem dL_law_355 : decode cL_law 355 = .ok (.aload_n 2, 1) := by decide +kernel
theorem dL_law_356 : decode cL_law 356 = .ok (.invokevirtual 116, 3) := by decide +kernel
theorem dL_law_359 : decode cL_law 359 = .ok (.if_icmp .eq 1416, 3) := by decide +kernel
theorem dL_law_362 : decode cL_law 362 = .ok (.iconst 0, 1) := by decide +kernel
theorem dL_law_363 : decode cL_law 363 = .ok (.ireturn, 1) := by decide +kernel
theorem dL_law_364 : decode cL_law 364 = .ok (.aload_n 1, 1) := by decide +kernel
theorem dL_law_365 : decode cL_law 365 = .ok (.invokevirtual 117, 3) := by decide +kernel
theorem dL_law_368 : decode cL_law 368 = .ok (.aload_n 2, 1) := by decide +kernel
theorem dL_law_369 : decode cL_law 369 = .ok (.invokevirtual 120, 3) := by decide +kernel
theorem dL_law_372 : decode cL_law 372 = .ok (.if_icmp .eq 1403, 3) := by decide +kernel
theorem dL_law_375 : decode cL_law 375 = .ok (.iconst 0, 1) := by decide +kernel
theorem dL_law_376 : decode cL_law 376 = .ok (.ireturn, 1) := by decide +kernel
theorem dL_law_377 : decode cL_law 377 = .ok (.aload_n 1, 1) := by decide +kernel
theorem dL_law_378 : decode cL_law 378 = .ok (.invokevirtual 121, 3) := by decide +kernel
theorem dL_law_381 : decode cL_law 381 = .ok (.aload_n 2, 1) := by decide +kernel
theorem dL_law_382 : decode cL_law 382 = .ok (.invokevirtual 124, 3) := by decide +kernel
theorem dL_law_385 : decode cL_law 385 = .ok (.if_icmp .eq 1390, 3) := by decide +kernel
theorem dL_law_388 : decode cL_law 388 = .ok (.iconst 0, 1) := by decide +kernel
theorem dL_law_389 : decode cL_law 389 = .ok (.ireturn, 1) := by decide +kernel
theorem dL_law_390 : decode cL_law 390 = .ok (.aload_n 1, 1) := by decide +kernel
theorem dL_law_391 : decode cL_law 391 = .ok (.invokevirtual 125, 3) := by decide +kernel
theorem dL_law_394 : decode cL_law 394 = .ok (.aload_n 2, 1) := by decide +kernel
theorem dL_law_395 : decode cL_law 395 = .ok (.invokevirtual 128, 3) := by decide +kernel
theorem dL_law_398 : decode cL_law 398 = .ok (.if_icmp .eq 1377, 3) := by decide +kernel
theorem dL_law_401 : decode cL_law 401 = .ok (.iconst 0, 1) := by decide +kernel
theorem dL_law_402 : decode cL_law 402 = .ok (.ireturn, 1) := by decide +kernel
theorem dL_law_403 : decode cL_law 403 = .ok (.aload_n 1, 1) := by decide +kernel
theorem dL_law_404 : decode cL_law 404 = .ok (.invokevirtual 129, 3) := by decide +kernel
theorem dL_law_407 : decode cL_law 407 = .ok (.aload_n 2, 1) := by decide +kernel
theorem dL_law_408 : decode cL_law 408 = .ok (.invokevirtual 132, 3) := by decide +kernel
theorem dL_law_411 : decode cL_law 411 = .ok (.if_icmp .eq 1364, 3) := by decide +kernel
theorem dL_law_414 : decode cL_law 414 = .ok (.iconst 0, 1) := by decide +kernel
theorem dL_law_415 : decode cL_law 415 = .ok (.ireturn, 1) := by decide +kernel
theorem dL_law_416 : decode cL_law 416 = .ok (.aload_n 1, 1) := by decide +kernel
theorem dL_law_417 : decode cL_law 417 = .ok (.aload_n 0, 1) := by decide +kernel
theorem dL_law_418 : decode cL_law 418 = .ok (.iload 4, 2) := by decide +kernel
theorem dL_law_420 : decode cL_law 420 = .ok (.iconst 1, 1) := by decide +kernel
theorem dL_law_421 : decode cL_law 421 = .ok (.iadd, 1) := by decide +kernel
theorem dL_law_422 : decode cL_law 422 = .ok (.iaload, 1) := by decide +kernel
theorem dL_law_423 : decode cL_law 423 = .ok (.invokevirtual 133, 3) := by decide +kernel
theorem dL_law_426 : decode cL_law 426 = .ok (.aload_n 2, 1) := by decide +kernel
theorem dL_law_427 : decode cL_law 427 = .ok (.aload_n 0, 1) := by decide +kernel
theorem dL_law_428 : decode cL_law 428 = .ok (.iload 4, 2) := by decide +kernel
theorem dL_law_430 : decode cL_law 430 = .ok (.iconst 1, 1) := by decide +kernel
theorem dL_law_431 : decode cL_law 431 = .ok (.iadd, 1) := by decide +kernel
theorem dL_law_432 : decode cL_law 432 = .ok (.iaload, 1) := by decide +kernel
theorem dL_law_433 : decode cL_law 433 = .ok (.invokevirtual 136, 3) := by decide +kernel
theorem dL_law_436 : decode cL_law 436 = .ok (.if_icmp .eq 1339, 3) := by decide +kernel
theorem dL_law_439 : decode cL_law 439 = .ok (.iconst 0, 1) := by decide +kernel
theorem dL_law_440 : decode cL_law 440 = .ok (.ireturn, 1) := by decide +kernel
theorem dL_law_441 : decode cL_law 441 = .ok (.aload_n 1, 1) := by decide +kernel
theorem dL_law_442 : decode cL_law 442 = .ok (.aload_n 0, 1) := by decide +kernel
theorem dL_law_443 : decode cL_law 443 = .ok (.iload 4, 2) := by decide +kernel
theorem dL_law_445 : decode cL_law 445 = .ok (.iconst 1, 1) := by decide +kernel
theorem dL_law_446 : decode cL_law 446 = .ok (.iadd, 1) := by decide +kernel
theorem dL_law_447 : decode cL_law 447 = .ok (.iaload, 1) := by decide +kernel
theorem dL_law_448 : decode cL_law 448 = .ok (.aload_n 3, 1) := by decide +kernel
theorem dL_law_449 : decode cL_law 449 = .ok (.invokestatic 137, 3) := by decide +kernel
theorem dL_law_452 : decode cL_law 452 = .ok (.istore 5, 2) := by decide +kernel
theorem dL_law_454 : decode cL_law 454 = .ok (.aload_n 2, 1) := by decide +kernel
theorem dL_law_455 : decode cL_law 455 = .ok (.aload_n 0, 1) := by decide +kernel
theorem dL_law_456 : decode cL_law 456 = .ok (.iload 4, 2) := by decide +kernel
theorem dL_law_458 : decode cL_law 458 = .ok (.iconst 1, 1) := by decide +kernel
theorem dL_law_459 : decode cL_law 459 = .ok (.iadd, 1) := by decide +kernel
theorem dL_law_460 : decode cL_law 460 = .ok (.iaload, 1) := by decide +kernel
theorem dL_law_461 : decode cL_law 461 = .ok (.invokevirtual 139, 3) := by decide +kernel
theorem dL_law_464 : decode cL_law 464 = .ok (.istore 6, 2) := by decide +kernel
theorem dL_law_466 : decode cL_law 466 = .ok (.aload_n 2, 1) := by decide +kernel
theorem dL_law_467 : decode cL_law 467 = .ok (.invokevirtual 101, 3) := by decide +kernel
theorem dL_law_470 : decode cL_law 470 = .ok (.iload 5, 2) := by decide +kernel
theorem dL_law_472 : decode cL_law 472 = .ok (.if_icmp .eq 5, 3) := by decide +kernel
theorem dL_law_475 : decode cL_law 475 = .ok (.iconst 0, 1) := by decide +kernel
theorem dL_law_476 : decode cL_law 476 = .ok (.ireturn, 1) := by decide +kernel
theorem dL_law_477 : decode cL_law 477 = .ok (.iload 5, 2) := by decide +kernel
theorem dL_law_479 : decode cL_law 479 = .ok (.ifCond .ne 15, 3) := by decide +kernel
theorem dL_law_482 : decode cL_law 482 = .ok (.aload_n 3, 1) := by decide +kernel
theorem dL_law_483 : decode cL_law 483 = .ok (.iconst 0, 1) := by decide +kernel
theorem dL_law_484 : decode cL_law 484 = .ok (.laload, 1) := by decide +kernel
theorem dL_law_485 : decode cL_law 485 = .ok (.iload 6, 2) := by decide +kernel
theorem dL_law_487 : decode cL_law 487 = .ok (.i2l, 1) := by decide +kernel
theorem dL_law_488 : decode cL_law 488 = .ok (.lcmp, 1) := by decide +kernel
theorem dL_law_489 : decode cL_law 489 = .ok (.ifCond .eq 5, 3) := by decide +kernel
theorem dL_law_492 : decode cL_law 492 = .ok (.iconst 0, 1) := by decide +kernel
theorem dL_law_493 : decode cL_law 493 = .ok (.ireturn, 1) := by decide +kernel
theorem dL_law_494 : decode cL_law 494 = .ok (.goto 1281, 3) := by decide +kernel
theorem dL_law_497 : decode cL_law 497 = .ok (.aload_n 1, 1) := by decide +kernel
theorem dL_law_498 : decode cL_law 498 = .ok (.aload_n 0, 1) := by decide +kernel
theorem dL_law_499 : decode cL_law 499 = .ok (.iload 4, 2) := by decide +kernel
theorem dL_law_501 : decode cL_law 501 = .ok (.iconst 1, 1) := by decide +kernel
theorem dL_law_502 : decode cL_law 502 = .ok (.iadd, 1) := by decide +kernel
theorem dL_law_503 : decode cL_law 503 = .ok (.iaload, 1) := by decide +kernel
theorem dL_law_504 : decode cL_law 504 = .ok (.aload_n 3, 1) := by decide +kernel
theorem dL_law_505 : decode cL_law 505 = .ok (.invokestatic 140, 3) := by decide +kernel
theorem dL_law_508 : decode cL_law 508 = .ok (.istore 5, 2) := by decide +kernel
theorem dL_law_510 : decode cL_law 510 = .ok (.aload_n 2, 1) := by decide +kernel
theorem dL_law_511 : decode cL_law 511 = .ok (.aload_n 0, 1) := by decide +kernel
theorem dL_law_512 : decode cL_law 512 = .ok (.iload 4, 2) := by decide +kernel
theorem dL_law_514 : decode cL_law 514 = .ok (.iconst 1, 1) := by decide +kernel
theorem dL_law_515 : decode cL_law 515 = .ok (.iadd, 1) := by decide +kernel
theorem dL_law_516 : decode cL_law 516 = .ok (.iaload, 1) := by decide +kernel
theorem dL_law_517 : decode cL_law 517 = .ok (.invokevirtual 142, 3) := by decide +kernel
theorem dL_law_520 : decode cL_law 520 = .ok (.istore 6, 2) := by decide +kernel
theorem dL_law_522 : decode cL_law 522 = .ok (.aload_n 2, 1) := by decide +kernel
theorem dL_law_523 : decode cL_law 523 = .ok (.invokevirtual 101, 3) := by decide +kernel
theorem dL_law_526 : decode cL_law 526 = .ok (.iload 5, 2) := by decide +kernel
theorem dL_law_528 : decode cL_law 528 = .ok (.if_icmp .eq 5, 3) := by decide +kernel
theorem dL_law_531 : decode cL_law 531 = .ok (.iconst 0, 1) := by decide +kernel
theorem dL_law_532 : decode cL_law 532 = .ok (.ireturn, 1) := by decide +kernel
theorem dL_law_533 : decode cL_law 533 = .ok (.iload 5, 2) := by decide +kernel
theorem dL_law_535 : decode cL_law 535 = .ok (.ifCond .ne 15, 3) := by decide +kernel
theorem dL_law_538 : decode cL_law 538 = .ok (.aload_n 3, 1) := by decide +kernel
theorem dL_law_539 : decode cL_law 539 = .ok (.iconst 0, 1) := by decide +kernel
theorem dL_law_540 : decode cL_law 540 = .ok (.laload, 1) := by decide +kernel
theorem dL_law_541 : decode cL_law 541 = .ok (.iload 6, 2) := by decide +kernel
theorem dL_law_543 : decode cL_law 543 = .ok (.i2l, 1) := by decide +kernel
theorem dL_law_544 : decode cL_law 544 = .ok (.lcmp, 1) := by decide +kernel
theorem dL_law_545 : decode cL_law 545 = .ok (.ifCond .eq 5, 3) := by decide +kernel
theorem dL_law_548 : decode cL_law 548 = .ok (.iconst 0, 1) := by decide +kernel
theorem dL_law_549 : decode cL_law 549 = .ok (.ireturn, 1) := by decide +kernel
theorem dL_law_550 : decode cL_law 550 = .ok (.goto 1225, 3) := by decide +kernel
theorem dL_law_553 : decode cL_law 553 = .ok (.aload_n 1, 1) := by decide +kernel
theorem dL_law_554 : decode cL_law 554 = .ok (.invokevirtual 143, 3) := by decide +kernel
theorem dL_law_557 : decode cL_law 557 = .ok (.aload_n 2, 1) := by decide +kernel
theorem dL_law_558 : decode cL_law 558 = .ok (.invokevirtual 146, 3) := by decide +kernel
theorem dL_law_561 : decode cL_law 561 = .ok (.if_icmp .eq 1214, 3) := by decide +kernel
theorem dL_law_564 : decode cL_law 564 = .ok (.iconst 0, 1) := by decide +kernel
theorem dL_law_565 : decode cL_law 565 = .ok (.ireturn, 1) := by decide +kernel
theorem dL_law_566 : decode cL_law 566 = .ok (.aload_n 1, 1) := by decide +kernel
theorem dL_law_567 : decode cL_law 567 = .ok (.aload_n 0, 1) := by decide +kernel
theorem dL_law_568 : decode cL_law 568 = .ok (.iload 4, 2) := by decide +kernel
theorem dL_law_570 : decode cL_law 570 = .ok (.iconst 1, 1) := by decide +kernel
theorem dL_law_571 : decode cL_law 571 = .ok (.iadd, 1) := by decide +kernel
theorem dL_law_572 : decode cL_law 572 = .ok (.iaload, 1) := by decide +kernel
theorem dL_law_573 : decode cL_law 573 = .ok (.aload_n 3, 1) := by decide +kernel
theorem dL_law_574 : decode cL_law 574 = .ok (.invokestatic 147, 3) := by decide +kernel
theorem dL_law_577 : decode cL_law 577 = .ok (.istore 5, 2) := by decide +kernel
theorem dL_law_579 : decode cL_law 579 = .ok (.aload_n 2, 1) := by decide +kernel
theorem dL_law_580 : decode cL_law 580 = .ok (.aload_n 0, 1) := by decide +kernel
theorem dL_law_581 : decode cL_law 581 = .ok (.iload 4, 2) := by decide +kernel
theorem dL_law_583 : decode cL_law 583 = .ok (.iconst 1, 1) := by decide +kernel
theorem dL_law_584 : decode cL_law 584 = .ok (.iadd, 1) := by decide +kernel
theorem dL_law_585 : decode cL_law 585 = .ok (.iaload, 1) := by decide +kernel
theorem dL_law_586 : decode cL_law 586 = .ok (.invokevirtual 149, 3) := by decide +kernel
theorem dL_law_589 : decode cL_law 589 = .ok (.istore 6, 2) := by decide +kernel
theorem dL_law_591 : decode cL_law 591 = .ok (.aload_n 2, 1) := by decide +kernel
theorem dL_law_592 : decode cL_law 592 = .ok (.invokevirtual 101, 3) := by decide +kernel
theorem dL_law_595 : decode cL_law 595 = .ok (.iload 5, 2) := by decide +kernel
theorem dL_law_597 : decode cL_law 597 = .ok (.if_icmp .eq 5, 3) := by decide +kernel
theorem dL_law_600 : decode cL_law 600 = .ok (.iconst 0, 1) := by decide +kernel
theorem dL_law_601 : decode cL_law 601 = .ok (.ireturn, 1) := by decide +kernel
theorem dL_law_602 : decode cL_law 602 = .ok (.iload 5, 2) := by decide +kernel
theorem dL_law_604 : decode cL_law 604 = .ok (.ifCond .ne 15, 3) := by decide +kernel
theorem dL_law_607 : decode cL_law 607 = .ok (.aload_n 3, 1) := by decide +kernel
theorem dL_law_608 : decode cL_law 608 = .ok (.iconst 0, 1) := by decide +kernel
theorem dL_law_609 : decode cL_law 609 = .ok (.laload, 1) := by decide +kernel
theorem dL_law_610 : decode cL_law 610 = .ok (.iload 6, 2) := by decide +kernel
theorem dL_law_612 : decode cL_law 612 = .ok (.i2l, 1) := by decide +kernel
theorem dL_law_613 : decode cL_law 613 = .ok (.lcmp, 1) := by decide +kernel
theorem dL_law_614 : decode cL_law 614 = .ok (.ifCond .eq 5, 3) := by decide +kernel
theorem dL_law_617 : decode cL_law 617 = .ok (.iconst 0, 1) := by decide +kernel
theorem dL_law_618 : decode cL_law 618 = .ok (.ireturn, 1) := by decide +kernel
theorem dL_law_619 : decode cL_law 619 = .ok (.goto 1156, 3) := by decide +kernel
theorem dL_law_622 : decode cL_law 622 = .ok (.aload_n 1, 1) := by decide +kernel
theorem dL_law_623 : decode cL_law 623 = .ok (.aload_n 0, 1) := by decide +kernel
theorem dL_law_624 : decode cL_law 624 = .ok (.iload 4, 2) := by decide +kernel
theorem dL_law_626 : decode cL_law 626 = .ok (.iconst 1, 1) := by decide +kernel
theorem dL_law_627 : decode cL_law 627 = .ok (.iadd, 1) := by decide +kernel
theorem dL_law_628 : decode cL_law 628 = .ok (.iaload, 1) := by decide +kernel
theorem dL_law_629 : decode cL_law 629 = .ok (.aload_n 3, 1) := by decide +kernel
theorem dL_law_630 : decode cL_law 630 = .ok (.invokestatic 150, 3) := by decide +kernel
theorem dL_law_633 : decode cL_law 633 = .ok (.istore 5, 2) := by decide +kernel
theorem dL_law_635 : decode cL_law 635 = .ok (.aload_n 2, 1) := by decide +kernel
theorem dL_law_636 : decode cL_law 636 = .ok (.aload_n 0, 1) := by decide +kernel
theorem dL_law_637 : decode cL_law 637 = .ok (.iload 4, 2) := by decide +kernel
theorem dL_law_639 : decode cL_law 639 = .ok (.iconst 1, 1) := by decide +kernel
theorem dL_law_640 : decode cL_law 640 = .ok (.iadd, 1) := by decide +kernel
theorem dL_law_641 : decode cL_law 641 = .ok (.iaload, 1) := by decide +kernel
theorem dL_law_642 : decode cL_law 642 = .ok (.invokevirtual 152, 3) := by decide +kernel
theorem dL_law_645 : decode cL_law 645 = .ok (.istore 6, 2) := by decide +kernel
theorem dL_law_647 : decode cL_law 647 = .ok (.aload_n 2, 1) := by decide +kernel
theorem dL_law_648 : decode cL_law 648 = .ok (.invokevirtual 101, 3) := by decide +kernel
theorem dL_law_651 : decode cL_law 651 = .ok (.iload 5, 2) := by decide +kernel
theorem dL_law_653 : decode cL_law 653 = .ok (.if_icmp .eq 5, 3) := by decide +kernel
theorem dL_law_656 : decode cL_law 656 = .ok (.iconst 0, 1) := by decide +kernel
theorem dL_law_657 : decode cL_law 657 = .ok (.ireturn, 1) := by decide +kernel
theorem dL_law_658 : decode cL_law 658 = .ok (.iload 5, 2) := by decide +kernel
theorem dL_law_660 : decode cL_law 660 = .ok (.ifCond .ne 15, 3) := by decide +kernel
theorem dL_law_663 : decode cL_law 663 = .ok (.aload_n 3, 1) := by decide +kernel
theorem dL_law_664 : decode cL_law 664 = .ok (.iconst 0, 1) := by decide +kernel
theorem dL_law_665 : decode cL_law 665 = .ok (.laload, 1) := by decide +kernel
theorem dL_law_666 : decode cL_law 666 = .ok (.iload 6, 2) := by decide +kernel
theorem dL_law_668 : decode cL_law 668 = .ok (.i2l, 1) := by decide +kernel
theorem dL_law_669 : decode cL_law 669 = .ok (.lcmp, 1) := by decide +kernel
theorem dL_law_670 : decode cL_law 670 = .ok (.ifCond .eq 5, 3) := by decide +kernel
theorem dL_law_673 : decode cL_law 673 = .ok (.iconst 0, 1) := by decide +kernel
theorem dL_law_674 : decode cL_law 674 = .ok (.ireturn, 1) := by decide +kernel
theorem dL_law_675 : decode cL_law 675 = .ok (.goto 1100, 3) := by decide +kernel
theorem dL_law_678 : decode cL_law 678 = .ok (.aload_n 1, 1) := by decide +kernel
theorem dL_law_679 : decode cL_law 679 = .ok (.aload_n 0, 1) := by decide +kernel
theorem dL_law_680 : decode cL_law 680 = .ok (.iload 4, 2) := by decide +kernel
theorem dL_law_682 : decode cL_law 682 = .ok (.iconst 1, 1) := by decide +kernel
theorem dL_law_683 : decode cL_law 683 = .ok (.iadd, 1) := by decide +kernel
theorem dL_law_684 : decode cL_law 684 = .ok (.iaload, 1) := by decide +kernel
theorem dL_law_685 : decode cL_law 685 = .ok (.aload_n 3, 1) := by decide +kernel
theorem dL_law_686 : decode cL_law 686 = .ok (.invokestatic 153, 3) := by decide +kernel
theorem dL_law_689 : decode cL_law 689 = .ok (.istore 5, 2) := by decide +kernel
theorem dL_law_691 : decode cL_law 691 = .ok (.aload_n 2, 1) := by decide +kernel
theorem dL_law_692 : decode cL_law 692 = .ok (.aload_n 0, 1) := by decide +kernel
theorem dL_law_693 : decode cL_law 693 = .ok (.iload 4, 2) := by decide +kernel
theorem dL_law_695 : decode cL_law 695 = .ok (.iconst 1, 1) := by decide +kernel
theorem dL_law_696 : decode cL_law 696 = .ok (.iadd, 1) := by decide +kernel
theorem dL_law_697 : decode cL_law 697 = .ok (.iaload, 1) := by decide +kernel
theorem dL_law_698 : decode cL_law 698 = .ok (.invokevirtual 155, 3) := by decide +kernel
theorem dL_law_701 : decode cL_law 701 = .ok (.istore 6, 2) := by decide +kernel
theorem dL_law_703 : decode cL_law 703 = .ok (.aload_n 2, 1) := by decide +kernel
theorem dL_law_704 : decode cL_law 704 = .ok (.invokevirtual 101, 3) := by decide +kernel
theorem dL_law_707 : decode cL_law 707 = .ok (.iload 5, 2) := by decide +kernel
theorem dL_law_709 : decode cL_law 709 = .ok (.if_icmp .eq 5, 3) := by decide +kernel
theorem dL_law_712 : decode cL_law 712 = .ok (.iconst 0, 1) := by decide +kernel
theorem dL_law_713 : decode cL_law 713 = .ok (.ireturn, 1) := by decide +kernel
theorem dL_law_714 : decode cL_law 714 = .ok (.iload 5, 2) := by decide +kernel
theorem dL_law_716 : decode cL_law 716 = .ok (.ifCond .ne 15, 3) := by decide +kernel
theorem dL_law_719 : decode cL_law 719 = .ok (.aload_n 3, 1) := by decide +kernel
theorem dL_law_720 : decode cL_law 720 = .ok (.iconst 0, 1) := by decide +kernel
theorem dL_law_721 : decode cL_law 721 = .ok (.laload, 1) := by decide +kernel
theorem dL_law_722 : decode cL_law 722 = .ok (.iload 6, 2) := by decide +kernel
theorem dL_law_724 : decode cL_law 724 = .ok (.i2l, 1) := by decide +kernel
theorem dL_law_725 : decode cL_law 725 = .ok (.lcmp, 1) := by decide +kernel
theorem dL_law_726 : decode cL_law 726 = .ok (.ifCond .eq 5, 3) := by decide +kernel
theorem dL_law_729 : decode cL_law 729 = .ok (.iconst 0, 1) := by decide +kernel
theorem dL_law_730 : decode cL_law 730 = .ok (.ireturn, 1) := by decide +kernel
theorem dL_law_731 : decode cL_law 731 = .ok (.goto 1044, 3) := by decide +kernel
theorem dL_law_734 : decode cL_law 734 = .ok (.aload_n 1, 1) := by decide +kernel
theorem dL_law_735 : decode cL_law 735 = .ok (.aload_n 0, 1) := by decide +kernel
theorem dL_law_736 : decode cL_law 736 = .ok (.iload 4, 2) := by decide +kernel
theorem dL_law_738 : decode cL_law 738 = .ok (.iconst 1, 1) := by decide +kernel
theorem dL_law_739 : decode cL_law 739 = .ok (.iadd, 1) := by decide +kernel
theorem dL_law_740 : decode cL_law 740 = .ok (.iaload, 1) := by decide +kernel
theorem dL_law_741 : decode cL_law 741 = .ok (.aload_n 3, 1) := by decide +kernel
theorem dL_law_742 : decode cL_law 742 = .ok (.invokestatic 156, 3) := by decide +kernel
theorem dL_law_745 : decode cL_law 745 = .ok (.istore 5, 2) := by decide +kernel
theorem dL_law_747 : decode cL_law 747 = .ok (.aload_n 2, 1) := by decide +kernel
theorem dL_law_748 : decode cL_law 748 = .ok (.aload_n 0, 1) := by decide +kernel
theorem dL_law_749 : decode cL_law 749 = .ok (.iload 4, 2) := by decide +kernel
theorem dL_law_751 : decode cL_law 751 = .ok (.iconst 1, 1) := by decide +kernel
theorem dL_law_752 : decode cL_law 752 = .ok (.iadd, 1) := by decide +kernel
theorem dL_law_753 : decode cL_law 753 = .ok (.iaload, 1) := by decide +kernel
theorem dL_law_754 : decode cL_law 754 = .ok (.invokevirtual 158, 3) := by decide +kernel
theorem dL_law_757 : decode cL_law 757 = .ok (.istore 6, 2) := by decide +kernel
theorem dL_law_759 : decode cL_law 759 = .ok (.aload_n 2, 1) := by decide +kernel
theorem dL_law_760 : decode cL_law 760 = .ok (.invokevirtual 101, 3) := by decide +kernel
theorem dL_law_763 : decode cL_law 763 = .ok (.iload 5, 2) := by decide +kernel
theorem dL_law_765 : decode cL_law 765 = .ok (.if_icmp .eq 5, 3) := by decide +kernel
theorem dL_law_768 : decode cL_law 768 = .ok (.iconst 0, 1) := by decide +kernel
theorem dL_law_769 : decode cL_law 769 = .ok (.ireturn, 1) := by decide +kernel
theorem dL_law_770 : decode cL_law 770 = .ok (.iload 5, 2) := by decide +kernel
theorem dL_law_772 : decode cL_law 772 = .ok (.ifCond .ne 15, 3) := by decide +kernel
theorem dL_law_775 : decode cL_law 775 = .ok (.aload_n 3, 1) := by decide +kernel
theorem dL_law_776 : decode cL_law 776 = .ok (.iconst 0, 1) := by decide +kernel
theorem dL_law_777 : decode cL_law 777 = .ok (.laload, 1) := by decide +kernel
theorem dL_law_778 : decode cL_law 778 = .ok (.iload 6, 2) := by decide +kernel
theorem dL_law_780 : decode cL_law 780 = .ok (.i2l, 1) := by decide +kernel
theorem dL_law_781 : decode cL_law 781 = .ok (.lcmp, 1) := by decide +kernel
theorem dL_law_782 : decode cL_law 782 = .ok (.ifCond .eq 5, 3) := by decide +kernel
theorem dL_law_785 : decode cL_law 785 = .ok (.iconst 0, 1) := by decide +kernel
theorem dL_law_786 : decode cL_law 786 = .ok (.ireturn, 1) := by decide +kernel
theorem dL_law_787 : decode cL_law 787 = .ok (.goto 988, 3) := by decide +kernel
theorem dL_law_790 : decode cL_law 790 = .ok (.aload_n 1, 1) := by decide +kernel
theorem dL_law_791 : decode cL_law 791 = .ok (.aload_n 0, 1) := by decide +kernel
theorem dL_law_792 : decode cL_law 792 = .ok (.iload 4, 2) := by decide +kernel
theorem dL_law_794 : decode cL_law 794 = .ok (.iconst 1, 1) := by decide +kernel
theorem dL_law_795 : decode cL_law 795 = .ok (.iadd, 1) := by decide +kernel
theorem dL_law_796 : decode cL_law 796 = .ok (.iaload, 1) := by decide +kernel
theorem dL_law_797 : decode cL_law 797 = .ok (.aload_n 3, 1) := by decide +kernel
theorem dL_law_798 : decode cL_law 798 = .ok (.invokestatic 159, 3) := by decide +kernel
theorem dL_law_801 : decode cL_law 801 = .ok (.istore 5, 2) := by decide +kernel
theorem dL_law_803 : decode cL_law 803 = .ok (.aload_n 2, 1) := by decide +kernel
theorem dL_law_804 : decode cL_law 804 = .ok (.aload_n 0, 1) := by decide +kernel
theorem dL_law_805 : decode cL_law 805 = .ok (.iload 4, 2) := by decide +kernel
theorem dL_law_807 : decode cL_law 807 = .ok (.iconst 1, 1) := by decide +kernel
theorem dL_law_808 : decode cL_law 808 = .ok (.iadd, 1) := by decide +kernel
theorem dL_law_809 : decode cL_law 809 = .ok (.iaload, 1) := by decide +kernel
theorem dL_law_810 : decode cL_law 810 = .ok (.invokevirtual 161, 3) := by decide +kernel
theorem dL_law_813 : decode cL_law 813 = .ok (.istore 6, 2) := by decide +kernel
theorem dL_law_815 : decode cL_law 815 = .ok (.aload_n 2, 1) := by decide +kernel
theorem dL_law_816 : decode cL_law 816 = .ok (.invokevirtual 101, 3) := by decide +kernel
theorem dL_law_819 : decode cL_law 819 = .ok (.iload 5, 2) := by decide +kernel
theorem dL_law_821 : decode cL_law 821 = .ok (.if_icmp .eq 5, 3) := by decide +kernel
theorem dL_law_824 : decode cL_law 824 = .ok (.iconst 0, 1) := by decide +kernel
theorem dL_law_825 : decode cL_law 825 = .ok (.ireturn, 1) := by decide +kernel
theorem dL_law_826 : decode cL_law 826 = .ok (.iload 5, 2) := by decide +kernel
theorem dL_law_828 : decode cL_law 828 = .ok (.ifCond .ne 22, 3) := by decide +kernel
theorem dL_law_831 : decode cL_law 831 = .ok (.aload_n 3, 1) := by decide +kernel
theorem dL_law_832 : decode cL_law 832 = .ok (.iconst 0, 1) := by decide +kernel
theorem dL_law_833 : decode cL_law 833 = .ok (.laload, 1) := by decide +kernel
theorem dL_law_834 : decode cL_law 834 = .ok (.iload 6, 2) := by decide +kernel
theorem dL_law_836 : decode cL_law 836 = .ok (.ifCond .eq 7, 3) := by decide +kernel
theorem dL_law_839 : decode cL_law 839 = .ok (.lconst 1, 1) := by decide +kernel
theorem dL_law_840 : decode cL_law 840 = .ok (.goto 4, 3) := by decide +kernel
theorem dL_law_843 : decode cL_law 843 = .ok (.lconst 0, 1) := by decide +kernel
theorem dL_law_844 : decode cL_law 844 = .ok (.lcmp, 1) := by decide +kernel
theorem dL_law_845 : decode cL_law 845 = .ok (.ifCond .eq 5, 3) := by decide +kernel
theorem dL_law_848 : decode cL_law 848 = .ok (.iconst 0, 1) := by decide +kernel
theorem dL_law_849 : decode cL_law 849 = .ok (.ireturn, 1) := by decide +kernel
theorem dL_law_850 : decode cL_law 850 = .ok (.goto 925, 3) := by decide +kernel
theorem dL_law_853 : decode cL_law 853 = .ok (.aload_n 1, 1) := by decide +kernel
theorem dL_law_854 : decode cL_law 854 = .ok (.aload_n 0, 1) := by decide +kernel
theorem dL_law_855 : decode cL_law 855 = .ok (.iload 4, 2) := by decide +kernel
theorem dL_law_857 : decode cL_law 857 = .ok (.iconst 1, 1) := by decide +kernel
theorem dL_law_858 : decode cL_law 858 = .ok (.iadd, 1) := by decide +kernel
theorem dL_law_859 : decode cL_law 859 = .ok (.iaload, 1) := by decide +kernel
theorem dL_law_860 : decode cL_law 860 = .ok (.aload_n 3, 1) := by decide +kernel
theorem dL_law_861 : decode cL_law 861 = .ok (.invokestatic 162, 3) := by decide +kernel
theorem dL_law_864 : decode cL_law 864 = .ok (.istore 5, 2) := by decide +kernel
theorem dL_law_866 : decode cL_law 866 = .ok (.aload_n 2, 1) := by decide +kernel
theorem dL_law_867 : decode cL_law 867 = .ok (.aload_n 0, 1) := by decide +kernel
theorem dL_law_868 : decode cL_law 868 = .ok (.iload 4, 2) := by decide +kernel
theorem dL_law_870 : decode cL_law 870 = .ok (.iconst 1, 1) := by decide +kernel
theorem dL_law_871 : decode cL_law 871 = .ok (.iadd, 1) := by decide +kernel
theorem dL_law_872 : decode cL_law 872 = .ok (.iaload, 1) := by decide +kernel
theorem dL_law_873 : decode cL_law 873 = .ok (.invokevirtual 164, 3) := by decide +kernel
theorem dL_law_876 : decode cL_law 876 = .ok (.istore 6, 2) := by decide +kernel
theorem dL_law_878 : decode cL_law 878 = .ok (.aload_n 2, 1) := by decide +kernel
theorem dL_law_879 : decode cL_law 879 = .ok (.invokevirtual 101, 3) := by decide +kernel
theorem dL_law_882 : decode cL_law 882 = .ok (.iload 5, 2) := by decide +kernel
theorem dL_law_884 : decode cL_law 884 = .ok (.if_icmp .eq 5, 3) := by decide +kernel
theorem dL_law_887 : decode cL_law 887 = .ok (.iconst 0, 1) := by decide +kernel
theorem dL_law_888 : decode cL_law 888 = .ok (.ireturn, 1) := by decide +kernel
theorem dL_law_889 : decode cL_law 889 = .ok (.iload 5, 2) := by decide +kernel
theorem dL_law_891 : decode cL_law 891 = .ok (.ifCond .ne 15, 3) := by decide +kernel
theorem dL_law_894 : decode cL_law 894 = .ok (.aload_n 3, 1) := by decide +kernel
theorem dL_law_895 : decode cL_law 895 = .ok (.iconst 0, 1) := by decide +kernel
theorem dL_law_896 : decode cL_law 896 = .ok (.laload, 1) := by decide +kernel
theorem dL_law_897 : decode cL_law 897 = .ok (.iload 6, 2) := by decide +kernel
theorem dL_law_899 : decode cL_law 899 = .ok (.i2l, 1) := by decide +kernel
theorem dL_law_900 : decode cL_law 900 = .ok (.lcmp, 1) := by decide +kernel
theorem dL_law_901 : decode cL_law 901 = .ok (.ifCond .eq 5, 3) := by decide +kernel
theorem dL_law_904 : decode cL_law 904 = .ok (.iconst 0, 1) := by decide +kernel
theorem dL_law_905 : decode cL_law 905 = .ok (.ireturn, 1) := by decide +kernel
theorem dL_law_906 : decode cL_law 906 = .ok (.goto 869, 3) := by decide +kernel
theorem dL_law_909 : decode cL_law 909 = .ok (.aload_n 1, 1) := by decide +kernel
theorem dL_law_910 : decode cL_law 910 = .ok (.aload_n 0, 1) := by decide +kernel
theorem dL_law_911 : decode cL_law 911 = .ok (.iload 4, 2) := by decide +kernel
theorem dL_law_913 : decode cL_law 913 = .ok (.iconst 1, 1) := by decide +kernel
theorem dL_law_914 : decode cL_law 914 = .ok (.iadd, 1) := by decide +kernel
theorem dL_law_915 : decode cL_law 915 = .ok (.iaload, 1) := by decide +kernel
theorem dL_law_916 : decode cL_law 916 = .ok (.aload_n 0, 1) := by decide +kernel
theorem dL_law_917 : decode cL_law 917 = .ok (.iload 4, 2) := by decide +kernel
theorem dL_law_919 : decode cL_law 919 = .ok (.iconst 2, 1) := by decide +kernel
theorem dL_law_920 : decode cL_law 920 = .ok (.iadd, 1) := by decide +kernel
theorem dL_law_921 : decode cL_law 921 = .ok (.iaload, 1) := by decide +kernel
theorem dL_law_922 : decode cL_law 922 = .ok (.aload_n 3, 1) := by decide +kernel
theorem dL_law_923 : decode cL_law 923 = .ok (.invokestatic 165, 3) := by decide +kernel
theorem dL_law_926 : decode cL_law 926 = .ok (.istore 5, 2) := by decide +kernel
theorem dL_law_928 : decode cL_law 928 = .ok (.aload_n 2, 1) := by decide +kernel
theorem dL_law_929 : decode cL_law 929 = .ok (.aload_n 0, 1) := by decide +kernel
theorem dL_law_930 : decode cL_law 930 = .ok (.iload 4, 2) := by decide +kernel
theorem dL_law_932 : decode cL_law 932 = .ok (.iconst 1, 1) := by decide +kernel
theorem dL_law_933 : decode cL_law 933 = .ok (.iadd, 1) := by decide +kernel
theorem dL_law_934 : decode cL_law 934 = .ok (.iaload, 1) := by decide +kernel
theorem dL_law_935 : decode cL_law 935 = .ok (.aload_n 0, 1) := by decide +kernel
theorem dL_law_936 : decode cL_law 936 = .ok (.iload 4, 2) := by decide +kernel
theorem dL_law_938 : decode cL_law 938 = .ok (.iconst 2, 1) := by decide +kernel
theorem dL_law_939 : decode cL_law 939 = .ok (.iadd, 1) := by decide +kernel
theorem dL_law_940 : decode cL_law 940 = .ok (.iaload, 1) := by decide +kernel
theorem dL_law_941 : decode cL_law 941 = .ok (.invokevirtual 168, 3) := by decide +kernel
theorem dL_law_944 : decode cL_law 944 = .ok (.istore 6, 2) := by decide +kernel
theorem dL_law_946 : decode cL_law 946 = .ok (.aload_n 2, 1) := by decide +kernel
theorem dL_law_947 : decode cL_law 947 = .ok (.invokevirtual 101, 3) := by decide +kernel
theorem dL_law_950 : decode cL_law 950 = .ok (.iload 5, 2) := by decide +kernel
theorem dL_law_952 : decode cL_law 952 = .ok (.if_icmp .eq 5, 3) := by decide +kernel
theorem dL_law_955 : decode cL_law 955 = .ok (.iconst 0, 1) := by decide +kernel
theorem dL_law_956 : decode cL_law 956 = .ok (.ireturn, 1) := by decide +kernel
theorem dL_law_957 : decode cL_law 957 = .ok (.iload 5, 2) := by decide +kernel
theorem dL_law_959 : decode cL_law 959 = .ok (.ifCond .ne 22, 3) := by decide +kernel
theorem dL_law_962 : decode cL_law 962 = .ok (.aload_n 3, 1) := by decide +kernel
theorem dL_law_963 : decode cL_law 963 = .ok (.iconst 0, 1) := by decide +kernel
theorem dL_law_964 : decode cL_law 964 = .ok (.laload, 1) := by decide +kernel
theorem dL_law_965 : decode cL_law 965 = .ok (.iload 6, 2) := by decide +kernel
theorem dL_law_967 : decode cL_law 967 = .ok (.ifCond .eq 7, 3) := by decide +kernel
theorem dL_law_970 : decode cL_law 970 = .ok (.lconst 1, 1) := by decide +kernel
theorem dL_law_971 : decode cL_law 971 = .ok (.goto 4, 3) := by decide +kernel
theorem dL_law_974 : decode cL_law 974 = .ok (.lconst 0, 1) := by decide +kernel
theorem dL_law_975 : decode cL_law 975 = .ok (.lcmp, 1) := by decide +kernel
theorem dL_law_976 : decode cL_law 976 = .ok (.ifCond .eq 5, 3) := by decide +kernel
theorem dL_law_979 : decode cL_law 979 = .ok (.iconst 0, 1) := by decide +kernel
theorem dL_law_980 : decode cL_law 980 = .ok (.ireturn, 1) := by decide +kernel
theorem dL_law_981 : decode cL_law 981 = .ok (.goto 794, 3) := by decide +kernel
theorem dL_law_984 : decode cL_law 984 = .ok (.aload_n 1, 1) := by decide +kernel
theorem dL_law_985 : decode cL_law 985 = .ok (.aload_n 0, 1) := by decide +kernel
theorem dL_law_986 : decode cL_law 986 = .ok (.iload 4, 2) := by decide +kernel
theorem dL_law_988 : decode cL_law 988 = .ok (.iconst 1, 1) := by decide +kernel
theorem dL_law_989 : decode cL_law 989 = .ok (.iadd, 1) := by decide +kernel
theorem dL_law_990 : decode cL_law 990 = .ok (.iaload, 1) := by decide +kernel
theorem dL_law_991 : decode cL_law 991 = .ok (.aload_n 3, 1) := by decide +kernel
theorem dL_law_992 : decode cL_law 992 = .ok (.invokestatic 169, 3) := by decide +kernel
theorem dL_law_995 : decode cL_law 995 = .ok (.istore 5, 2) := by decide +kernel
theorem dL_law_997 : decode cL_law 997 = .ok (.aload_n 2, 1) := by decide +kernel
theorem dL_law_998 : decode cL_law 998 = .ok (.aload_n 0, 1) := by decide +kernel
theorem dL_law_999 : decode cL_law 999 = .ok (.iload 4, 2) := by decide +kernel
theorem dL_law_1001 : decode cL_law 1001 = .ok (.iconst 1, 1) := by decide +kernel
theorem dL_law_1002 : decode cL_law 1002 = .ok (.iadd, 1) := by decide +kernel
theorem dL_law_1003 : decode cL_law 1003 = .ok (.iaload, 1) := by decide +kernel
theorem dL_law_1004 : decode cL_law 1004 = .ok (.invokevirtual 171, 3) := by decide +kernel
theorem dL_law_1007 : decode cL_law 1007 = .ok (.istore 6, 2) := by decide +kernel
theorem dL_law_1009 : decode cL_law 1009 = .ok (.aload_n 2, 1) := by decide +kernel
theorem dL_law_1010 : decode cL_law 1010 = .ok (.invokevirtual 101, 3) := by decide +kernel
theorem dL_law_1013 : decode cL_law 1013 = .ok (.iload 5, 2) := by decide +kernel
theorem dL_law_1015 : decode cL_law 1015 = .ok (.if_icmp .eq 5, 3) := by decide +kernel
theorem dL_law_1018 : decode cL_law 1018 = .ok (.iconst 0, 1) := by decide +kernel
theorem dL_law_1019 : decode cL_law 1019 = .ok (.ireturn, 1) := by decide +kernel
theorem dL_law_1020 : decode cL_law 1020 = .ok (.iload 5, 2) := by decide +kernel
theorem dL_law_1022 : decode cL_law 1022 = .ok (.ifCond .ne 15, 3) := by decide +kernel
theorem dL_law_1025 : decode cL_law 1025 = .ok (.aload_n 3, 1) := by decide +kernel
theorem dL_law_1026 : decode cL_law 1026 = .ok (.iconst 0, 1) := by decide +kernel
theorem dL_law_1027 : decode cL_law 1027 = .ok (.laload, 1) := by decide +kernel
theorem dL_law_1028 : decode cL_law 1028 = .ok (.iload 6, 2) := by decide +kernel
theorem dL_law_1030 : decode cL_law 1030 = .ok (.i2l, 1) := by decide +kernel
theorem dL_law_1031 : decode cL_law 1031 = .ok (.lcmp, 1) := by decide +kernel
theorem dL_law_1032 : decode cL_law 1032 = .ok (.ifCond .eq 5, 3) := by decide +kernel
theorem dL_law_1035 : decode cL_law 1035 = .ok (.iconst 0, 1) := by decide +kernel
theorem dL_law_1036 : decode cL_law 1036 = .ok (.ireturn, 1) := by decide +kernel
theorem dL_law_1037 : decode cL_law 1037 = .ok (.goto 738, 3) := by decide +kernel
theorem dL_law_1040 : decode cL_law 1040 = .ok (.aload_n 1, 1) := by decide +kernel
theorem dL_law_1041 : decode cL_law 1041 = .ok (.invokevirtual 172, 3) := by decide +kernel
theorem dL_law_1044 : decode cL_law 1044 = .ok (.aload_n 2, 1) := by decide +kernel
theorem dL_law_1045 : decode cL_law 1045 = .ok (.invokevirtual 175, 3) := by decide +kernel
theorem dL_law_1048 : decode cL_law 1048 = .ok (.if_icmp .eq 727, 3) := by decide +kernel
theorem dL_law_1051 : decode cL_law 1051 = .ok (.iconst 0, 1) := by decide +kernel
theorem dL_law_1052 : decode cL_law 1052 = .ok (.ireturn, 1) := by decide +kernel
theorem dL_law_1053 : decode cL_law 1053 = .ok (.aload_n 1, 1) := by decide +kernel
theorem dL_law_1054 : decode cL_law 1054 = .ok (.aload_n 0, 1) := by decide +kernel
theorem dL_law_1055 : decode cL_law 1055 = .ok (.iload 4, 2) := by decide +kernel
theorem dL_law_1057 : decode cL_law 1057 = .ok (.iconst 1, 1) := by decide +kernel
theorem dL_law_1058 : decode cL_law 1058 = .ok (.iadd, 1) := by decide +kernel
theorem dL_law_1059 : decode cL_law 1059 = .ok (.iaload, 1) := by decide +kernel
theorem dL_law_1060 : decode cL_law 1060 = .ok (.aload_n 3, 1) := by decide +kernel
theorem dL_law_1061 : decode cL_law 1061 = .ok (.invokestatic 176, 3) := by decide +kernel
theorem dL_law_1064 : decode cL_law 1064 = .ok (.istore 5, 2) := by decide +kernel
theorem dL_law_1066 : decode cL_law 1066 = .ok (.aload_n 2, 1) := by decide +kernel
theorem dL_law_1067 : decode cL_law 1067 = .ok (.aload_n 0, 1) := by decide +kernel
theorem dL_law_1068 : decode cL_law 1068 = .ok (.iload 4, 2) := by decide +kernel
theorem dL_law_1070 : decode cL_law 1070 = .ok (.iconst 1, 1) := by decide +kernel
theorem dL_law_1071 : decode cL_law 1071 = .ok (.iadd, 1) := by decide +kernel
theorem dL_law_1072 : decode cL_law 1072 = .ok (.iaload, 1) := by decide +kernel
theorem dL_law_1073 : decode cL_law 1073 = .ok (.invokevirtual 178, 3) := by decide +kernel
theorem dL_law_1076 : decode cL_law 1076 = .ok (.istore 6, 2) := by decide +kernel
theorem dL_law_1078 : decode cL_law 1078 = .ok (.aload_n 2, 1) := by decide +kernel
theorem dL_law_1079 : decode cL_law 1079 = .ok (.invokevirtual 101, 3) := by decide +kernel
theorem dL_law_1082 : decode cL_law 1082 = .ok (.iload 5, 2) := by decide +kernel
theorem dL_law_1084 : decode cL_law 1084 = .ok (.if_icmp .eq 5, 3) := by decide +kernel
theorem dL_law_1087 : decode cL_law 1087 = .ok (.iconst 0, 1) := by decide +kernel
theorem dL_law_1088 : decode cL_law 1088 = .ok (.ireturn, 1) := by decide +kernel
theorem dL_law_1089 : decode cL_law 1089 = .ok (.iload 5, 2) := by decide +kernel
theorem dL_law_1091 : decode cL_law 1091 = .ok (.ifCond .ne 15, 3) := by decide +kernel
theorem dL_law_1094 : decode cL_law 1094 = .ok (.aload_n 3, 1) := by decide +kernel
theorem dL_law_1095 : decode cL_law 1095 = .ok (.iconst 0, 1) := by decide +kernel
theorem dL_law_1096 : decode cL_law 1096 = .ok (.laload, 1) := by decide +kernel
theorem dL_law_1097 : decode cL_law 1097 = .ok (.iload 6, 2) := by decide +kernel
theorem dL_law_1099 : decode cL_law 1099 = .ok (.i2l, 1) := by decide +kernel
theorem dL_law_1100 : decode cL_law 1100 = .ok (.lcmp, 1) := by decide +kernel
theorem dL_law_1101 : decode cL_law 1101 = .ok (.ifCond .eq 5, 3) := by decide +kernel
theorem dL_law_1104 : decode cL_law 1104 = .ok (.iconst 0, 1) := by decide +kernel
theorem dL_law_1105 : decode cL_law 1105 = .ok (.ireturn, 1) := by decide +kernel
theorem dL_law_1106 : decode cL_law 1106 = .ok (.goto 669, 3) := by decide +kernel
theorem dL_law_1109 : decode cL_law 1109 = .ok (.aload_n 1, 1) := by decide +kernel
theorem dL_law_1110 : decode cL_law 1110 = .ok (.aload_n 0, 1) := by decide +kernel
theorem dL_law_1111 : decode cL_law 1111 = .ok (.iload 4, 2) := by decide +kernel
theorem dL_law_1113 : decode cL_law 1113 = .ok (.iconst 1, 1) := by decide +kernel
theorem dL_law_1114 : decode cL_law 1114 = .ok (.iadd, 1) := by decide +kernel
theorem dL_law_1115 : decode cL_law 1115 = .ok (.iaload, 1) := by decide +kernel
theorem dL_law_1116 : decode cL_law 1116 = .ok (.aload_n 3, 1) := by decide +kernel
theorem dL_law_1117 : decode cL_law 1117 = .ok (.invokestatic 179, 3) := by decide +kernel
theorem dL_law_1120 : decode cL_law 1120 = .ok (.istore 5, 2) := by decide +kernel
theorem dL_law_1122 : decode cL_law 1122 = .ok (.aload_n 2, 1) := by decide +kernel
theorem dL_law_1123 : decode cL_law 1123 = .ok (.aload_n 0, 1) := by decide +kernel
theorem dL_law_1124 : decode cL_law 1124 = .ok (.iload 4, 2) := by decide +kernel
theorem dL_law_1126 : decode cL_law 1126 = .ok (.iconst 1, 1) := by decide +kernel
theorem dL_law_1127 : decode cL_law 1127 = .ok (.iadd, 1) := by decide +kernel
theorem dL_law_1128 : decode cL_law 1128 = .ok (.iaload, 1) := by decide +kernel
theorem dL_law_1129 : decode cL_law 1129 = .ok (.invokevirtual 181, 3) := by decide +kernel
theorem dL_law_1132 : decode cL_law 1132 = .ok (.istore 6, 2) := by decide +kernel
theorem dL_law_1134 : decode cL_law 1134 = .ok (.aload_n 2, 1) := by decide +kernel
theorem dL_law_1135 : decode cL_law 1135 = .ok (.invokevirtual 101, 3) := by decide +kernel
theorem dL_law_1138 : decode cL_law 1138 = .ok (.iload 5, 2) := by decide +kernel
theorem dL_law_1140 : decode cL_law 1140 = .ok (.if_icmp .eq 5, 3) := by decide +kernel
theorem dL_law_1143 : decode cL_law 1143 = .ok (.iconst 0, 1) := by decide +kernel
theorem dL_law_1144 : decode cL_law 1144 = .ok (.ireturn, 1) := by decide +kernel
theorem dL_law_1145 : decode cL_law 1145 = .ok (.iload 5, 2) := by decide +kernel
theorem dL_law_1147 : decode cL_law 1147 = .ok (.ifCond .ne 22, 3) := by decide +kernel
theorem dL_law_1150 : decode cL_law 1150 = .ok (.aload_n 3, 1) := by decide +kernel
theorem dL_law_1151 : decode cL_law 1151 = .ok (.iconst 0, 1) := by decide +kernel
theorem dL_law_1152 : decode cL_law 1152 = .ok (.laload, 1) := by decide +kernel
theorem dL_law_1153 : decode cL_law 1153 = .ok (.iload 6, 2) := by decide +kernel
theorem dL_law_1155 : decode cL_law 1155 = .ok (.ifCond .eq 7, 3) := by decide +kernel
theorem dL_law_1158 : decode cL_law 1158 = .ok (.lconst 1, 1) := by decide +kernel
theorem dL_law_1159 : decode cL_law 1159 = .ok (.goto 4, 3) := by decide +kernel
theorem dL_law_1162 : decode cL_law 1162 = .ok (.lconst 0, 1) := by decide +kernel
theorem dL_law_1163 : decode cL_law 1163 = .ok (.lcmp, 1) := by decide +kernel
theorem dL_law_1164 : decode cL_law 1164 = .ok (.ifCond .eq 5, 3) := by decide +kernel
theorem dL_law_1167 : decode cL_law 1167 = .ok (.iconst 0, 1) := by decide +kernel
theorem dL_law_1168 : decode cL_law 1168 = .ok (.ireturn, 1) := by decide +kernel
theorem dL_law_1169 : decode cL_law 1169 = .ok (.goto 606, 3) := by decide +kernel
theorem dL_law_1172 : decode cL_law 1172 = .ok (.aload_n 1, 1) := by decide +kernel
theorem dL_law_1173 : decode cL_law 1173 = .ok (.aload_n 0, 1) := by decide +kernel
theorem dL_law_1174 : decode cL_law 1174 = .ok (.iload 4, 2) := by decide +kernel
theorem dL_law_1176 : decode cL_law 1176 = .ok (.iconst 1, 1) := by decide +kernel
theorem dL_law_1177 : decode cL_law 1177 = .ok (.iadd, 1) := by decide +kernel
theorem dL_law_1178 : decode cL_law 1178 = .ok (.iaload, 1) := by decide +kernel
theorem dL_law_1179 : decode cL_law 1179 = .ok (.aload_n 3, 1) := by decide +kernel
theorem dL_law_1180 : decode cL_law 1180 = .ok (.invokestatic 182, 3) := by decide +kernel
theorem dL_law_1183 : decode cL_law 1183 = .ok (.istore 5, 2) := by decide +kernel
theorem dL_law_1185 : decode cL_law 1185 = .ok (.aload_n 2, 1) := by decide +kernel
theorem dL_law_1186 : decode cL_law 1186 = .ok (.aload_n 0, 1) := by decide +kernel
theorem dL_law_1187 : decode cL_law 1187 = .ok (.iload 4, 2) := by decide +kernel
theorem dL_law_1189 : decode cL_law 1189 = .ok (.iconst 1, 1) := by decide +kernel
theorem dL_law_1190 : decode cL_law 1190 = .ok (.iadd, 1) := by decide +kernel
theorem dL_law_1191 : decode cL_law 1191 = .ok (.iaload, 1) := by decide +kernel
theorem dL_law_1192 : decode cL_law 1192 = .ok (.invokevirtual 184, 3) := by decide +kernel
theorem dL_law_1195 : decode cL_law 1195 = .ok (.istore 6, 2) := by decide +kernel
theorem dL_law_1197 : decode cL_law 1197 = .ok (.aload_n 2, 1) := by decide +kernel
theorem dL_law_1198 : decode cL_law 1198 = .ok (.invokevirtual 101, 3) := by decide +kernel
theorem dL_law_1201 : decode cL_law 1201 = .ok (.iload 5, 2) := by decide +kernel
theorem dL_law_1203 : decode cL_law 1203 = .ok (.if_icmp .eq 5, 3) := by decide +kernel
theorem dL_law_1206 : decode cL_law 1206 = .ok (.iconst 0, 1) := by decide +kernel
theorem dL_law_1207 : decode cL_law 1207 = .ok (.ireturn, 1) := by decide +kernel
theorem dL_law_1208 : decode cL_law 1208 = .ok (.iload 5, 2) := by decide +kernel
theorem dL_law_1210 : decode cL_law 1210 = .ok (.ifCond .ne 15, 3) := by decide +kernel
theorem dL_law_1213 : decode cL_law 1213 = .ok (.aload_n 3, 1) := by decide +kernel
theorem dL_law_1214 : decode cL_law 1214 = .ok (.iconst 0, 1) := by decide +kernel
theorem dL_law_1215 : decode cL_law 1215 = .ok (.laload, 1) := by decide +kernel
theorem dL_law_1216 : decode cL_law 1216 = .ok (.iload 6, 2) := by decide +kernel
theorem dL_law_1218 : decode cL_law 1218 = .ok (.i2l, 1) := by decide +kernel
theorem dL_law_1219 : decode cL_law 1219 = .ok (.lcmp, 1) := by decide +kernel
theorem dL_law_1220 : decode cL_law 1220 = .ok (.ifCond .eq 5, 3) := by decide +kernel
theorem dL_law_1223 : decode cL_law 1223 = .ok (.iconst 0, 1) := by decide +kernel
theorem dL_law_1224 : decode cL_law 1224 = .ok (.ireturn, 1) := by decide +kernel
theorem dL_law_1225 : decode cL_law 1225 = .ok (.goto 550, 3) := by decide +kernel
theorem dL_law_1228 : decode cL_law 1228 = .ok (.aload_n 1, 1) := by decide +kernel
theorem dL_law_1229 : decode cL_law 1229 = .ok (.aload_n 0, 1) := by decide +kernel
theorem dL_law_1230 : decode cL_law 1230 = .ok (.iload 4, 2) := by decide +kernel
theorem dL_law_1232 : decode cL_law 1232 = .ok (.iconst 1, 1) := by decide +kernel
theorem dL_law_1233 : decode cL_law 1233 = .ok (.iadd, 1) := by decide +kernel
theorem dL_law_1234 : decode cL_law 1234 = .ok (.iaload, 1) := by decide +kernel
theorem dL_law_1235 : decode cL_law 1235 = .ok (.aload_n 3, 1) := by decide +kernel
theorem dL_law_1236 : decode cL_law 1236 = .ok (.invokestatic 185, 3) := by decide +kernel
theorem dL_law_1239 : decode cL_law 1239 = .ok (.istore 5, 2) := by decide +kernel
theorem dL_law_1241 : decode cL_law 1241 = .ok (.aload_n 2, 1) := by decide +kernel
theorem dL_law_1242 : decode cL_law 1242 = .ok (.aload_n 0, 1) := by decide +kernel
theorem dL_law_1243 : decode cL_law 1243 = .ok (.iload 4, 2) := by decide +kernel
theorem dL_law_1245 : decode cL_law 1245 = .ok (.iconst 1, 1) := by decide +kernel
theorem dL_law_1246 : decode cL_law 1246 = .ok (.iadd, 1) := by decide +kernel
theorem dL_law_1247 : decode cL_law 1247 = .ok (.iaload, 1) := by decide +kernel
theorem dL_law_1248 : decode cL_law 1248 = .ok (.invokevirtual 187, 3) := by decide +kernel
theorem dL_law_1251 : decode cL_law 1251 = .ok (.istore 6, 2) := by decide +kernel
theorem dL_law_1253 : decode cL_law 1253 = .ok (.aload_n 2, 1) := by decide +kernel
theorem dL_law_1254 : decode cL_law 1254 = .ok (.invokevirtual 101, 3) := by decide +kernel
theorem dL_law_1257 : decode cL_law 1257 = .ok (.iload 5, 2) := by decide +kernel
theorem dL_law_1259 : decode cL_law 1259 = .ok (.if_icmp .eq 5, 3) := by decide +kernel
theorem dL_law_1262 : decode cL_law 1262 = .ok (.iconst 0, 1) := by decide +kernel
theorem dL_law_1263 : decode cL_law 1263 = .ok (.ireturn, 1) := by decide +kernel
theorem dL_law_1264 : decode cL_law 1264 = .ok (.iload 5, 2) := by decide +kernel
theorem dL_law_1266 : decode cL_law 1266 = .ok (.ifCond .ne 15, 3) := by decide +kernel
theorem dL_law_1269 : decode cL_law 1269 = .ok (.aload_n 3, 1) := by decide +kernel
theorem dL_law_1270 : decode cL_law 1270 = .ok (.iconst 0, 1) := by decide +kernel
theorem dL_law_1271 : decode cL_law 1271 = .ok (.laload, 1) := by decide +kernel
theorem dL_law_1272 : decode cL_law 1272 = .ok (.iload 6, 2) := by decide +kernel
theorem dL_law_1274 : decode cL_law 1274 = .ok (.i2l, 1) := by decide +kernel
theorem dL_law_1275 : decode cL_law 1275 = .ok (.lcmp, 1) := by decide +kernel
theorem dL_law_1276 : decode cL_law 1276 = .ok (.ifCond .eq 5, 3) := by decide +kernel
theorem dL_law_1279 : decode cL_law 1279 = .ok (.iconst 0, 1) := by decide +kernel
theorem dL_law_1280 : decode cL_law 1280 = .ok (.ireturn, 1) := by decide +kernel
theorem dL_law_1281 : decode cL_law 1281 = .ok (.goto 494, 3) := by decide +kernel
theorem dL_law_1284 : decode cL_law 1284 = .ok (.aload_n 1, 1) := by decide +kernel
theorem dL_law_1285 : decode cL_law 1285 = .ok (.aload_n 0, 1) := by decide +kernel
theorem dL_law_1286 : decode cL_law 1286 = .ok (.iload 4, 2) := by decide +kernel
theorem dL_law_1288 : decode cL_law 1288 = .ok (.iconst 1, 1) := by decide +kernel
theorem dL_law_1289 : decode cL_law 1289 = .ok (.iadd, 1) := by decide +kernel
theorem dL_law_1290 : decode cL_law 1290 = .ok (.iaload, 1) := by decide +kernel
theorem dL_law_1291 : decode cL_law 1291 = .ok (.aload_n 0, 1) := by decide +kernel
theorem dL_law_1292 : decode cL_law 1292 = .ok (.iload 4, 2) := by decide +kernel
theorem dL_law_1294 : decode cL_law 1294 = .ok (.iconst 2, 1) := by decide +kernel
theorem dL_law_1295 : decode cL_law 1295 = .ok (.iadd, 1) := by decide +kernel
theorem dL_law_1296 : decode cL_law 1296 = .ok (.iaload, 1) := by decide +kernel
theorem dL_law_1297 : decode cL_law 1297 = .ok (.aload_n 0, 1) := by decide +kernel
theorem dL_law_1298 : decode cL_law 1298 = .ok (.iload 4, 2) := by decide +kernel
theorem dL_law_1300 : decode cL_law 1300 = .ok (.iconst 3, 1) := by decide +kernel
theorem dL_law_1301 : decode cL_law 1301 = .ok (.iadd, 1) := by decide +kernel
theorem dL_law_1302 : decode cL_law 1302 = .ok (.iaload, 1) := by decide +kernel
theorem dL_law_1303 : decode cL_law 1303 = .ok (.aload_n 3, 1) := by decide +kernel
theorem dL_law_1304 : decode cL_law 1304 = .ok (.invokestatic 188, 3) := by decide +kernel
theorem dL_law_1307 : decode cL_law 1307 = .ok (.istore 5, 2) := by decide +kernel
theorem dL_law_1309 : decode cL_law 1309 = .ok (.aload_n 2, 1) := by decide +kernel
theorem dL_law_1310 : decode cL_law 1310 = .ok (.aload_n 0, 1) := by decide +kernel
theorem dL_law_1311 : decode cL_law 1311 = .ok (.iload 4, 2) := by decide +kernel
theorem dL_law_1313 : decode cL_law 1313 = .ok (.iconst 1, 1) := by decide +kernel
theorem dL_law_1314 : decode cL_law 1314 = .ok (.iadd, 1) := by decide +kernel
theorem dL_law_1315 : decode cL_law 1315 = .ok (.iaload, 1) := by decide +kernel
theorem dL_law_1316 : decode cL_law 1316 = .ok (.aload_n 0, 1) := by decide +kernel
theorem dL_law_1317 : decode cL_law 1317 = .ok (.iload 4, 2) := by decide +kernel
theorem dL_law_1319 : decode cL_law 1319 = .ok (.iconst 2, 1) := by decide +kernel
theorem dL_law_1320 : decode cL_law 1320 = .ok (.iadd, 1) := by decide +kernel
theorem dL_law_1321 : decode cL_law 1321 = .ok (.iaload, 1) := by decide +kernel
theorem dL_law_1322 : decode cL_law 1322 = .ok (.aload_n 0, 1) := by decide +kernel
theorem dL_law_1323 : decode cL_law 1323 = .ok (.iload 4, 2) := by decide +kernel
theorem dL_law_1325 : decode cL_law 1325 = .ok (.iconst 3, 1) := by decide +kernel
theorem dL_law_1326 : decode cL_law 1326 = .ok (.iadd, 1) := by decide +kernel
theorem dL_law_1327 : decode cL_law 1327 = .ok (.iaload, 1) := by decide +kernel
theorem dL_law_1328 : decode cL_law 1328 = .ok (.invokevirtual 191, 3) := by decide +kernel
theorem dL_law_1331 : decode cL_law 1331 = .ok (.istore 6, 2) := by decide +kernel
theorem dL_law_1333 : decode cL_law 1333 = .ok (.aload_n 2, 1) := by decide +kernel
theorem dL_law_1334 : decode cL_law 1334 = .ok (.invokevirtual 101, 3) := by decide +kernel
theorem dL_law_1337 : decode cL_law 1337 = .ok (.iload 5, 2) := by decide +kernel
theorem dL_law_1339 : decode cL_law 1339 = .ok (.if_icmp .eq 5, 3) := by decide +kernel
theorem dL_law_1342 : decode cL_law 1342 = .ok (.iconst 0, 1) := by decide +kernel
theorem dL_law_1343 : decode cL_law 1343 = .ok (.ireturn, 1) := by decide +kernel
theorem dL_law_1344 : decode cL_law 1344 = .ok (.iload 5, 2) := by decide +kernel
theorem dL_law_1346 : decode cL_law 1346 = .ok (.ifCond .ne 15, 3) := by decide +kernel
theorem dL_law_1349 : decode cL_law 1349 = .ok (.aload_n 3, 1) := by decide +kernel
theorem dL_law_1350 : decode cL_law 1350 = .ok (.iconst 0, 1) := by decide +kernel
theorem dL_law_1351 : decode cL_law 1351 = .ok (.laload, 1) := by decide +kernel
theorem dL_law_1352 : decode cL_law 1352 = .ok (.iload 6, 2) := by decide +kernel
theorem dL_law_1354 : decode cL_law 1354 = .ok (.i2l, 1) := by decide +kernel
theorem dL_law_1355 : decode cL_law 1355 = .ok (.lcmp, 1) := by decide +kernel
theorem dL_law_1356 : decode cL_law 1356 = .ok (.ifCond .eq 5, 3) := by decide +kernel
theorem dL_law_1359 : decode cL_law 1359 = .ok (.iconst 0, 1) := by decide +kernel
theorem dL_law_1360 : decode cL_law 1360 = .ok (.ireturn, 1) := by decide +kernel
theorem dL_law_1361 : decode cL_law 1361 = .ok (.goto 414, 3) := by decide +kernel
theorem dL_law_1364 : decode cL_law 1364 = .ok (.aload_n 1, 1) := by decide +kernel
theorem dL_law_1365 : decode cL_law 1365 = .ok (.aload_n 0, 1) := by decide +kernel
theorem dL_law_1366 : decode cL_law 1366 = .ok (.iload 4, 2) := by decide +kernel
theorem dL_law_1368 : decode cL_law 1368 = .ok (.iconst 1, 1) := by decide +kernel
theorem dL_law_1369 : decode cL_law 1369 = .ok (.iadd, 1) := by decide +kernel
theorem dL_law_1370 : decode cL_law 1370 = .ok (.iaload, 1) := by decide +kernel
theorem dL_law_1371 : decode cL_law 1371 = .ok (.aload_n 0, 1) := by decide +kernel
theorem dL_law_1372 : decode cL_law 1372 = .ok (.iload 4, 2) := by decide +kernel
theorem dL_law_1374 : decode cL_law 1374 = .ok (.iconst 2, 1) := by decide +kernel
theorem dL_law_1375 : decode cL_law 1375 = .ok (.iadd, 1) := by decide +kernel
theorem dL_law_1376 : decode cL_law 1376 = .ok (.iaload, 1) := by decide +kernel
theorem dL_law_1377 : decode cL_law 1377 = .ok (.aload_n 0, 1) := by decide +kernel
theorem dL_law_1378 : decode cL_law 1378 = .ok (.iload 4, 2) := by decide +kernel
theorem dL_law_1380 : decode cL_law 1380 = .ok (.iconst 3, 1) := by decide +kernel
theorem dL_law_1381 : decode cL_law 1381 = .ok (.iadd, 1) := by decide +kernel
theorem dL_law_1382 : decode cL_law 1382 = .ok (.iaload, 1) := by decide +kernel
theorem dL_law_1383 : decode cL_law 1383 = .ok (.aload_n 3, 1) := by decide +kernel
theorem dL_law_1384 : decode cL_law 1384 = .ok (.invokestatic 192, 3) := by decide +kernel
theorem dL_law_1387 : decode cL_law 1387 = .ok (.istore 5, 2) := by decide +kernel
theorem dL_law_1389 : decode cL_law 1389 = .ok (.aload_n 2, 1) := by decide +kernel
theorem dL_law_1390 : decode cL_law 1390 = .ok (.aload_n 0, 1) := by decide +kernel
theorem dL_law_1391 : decode cL_law 1391 = .ok (.iload 4, 2) := by decide +kernel
theorem dL_law_1393 : decode cL_law 1393 = .ok (.iconst 1, 1) := by decide +kernel
theorem dL_law_1394 : decode cL_law 1394 = .ok (.iadd, 1) := by decide +kernel
theorem dL_law_1395 : decode cL_law 1395 = .ok (.iaload, 1) := by decide +kernel
theorem dL_law_1396 : decode cL_law 1396 = .ok (.aload_n 0, 1) := by decide +kernel
theorem dL_law_1397 : decode cL_law 1397 = .ok (.iload 4, 2) := by decide +kernel
theorem dL_law_1399 : decode cL_law 1399 = .ok (.iconst 2, 1) := by decide +kernel
theorem dL_law_1400 : decode cL_law 1400 = .ok (.iadd, 1) := by decide +kernel
theorem dL_law_1401 : decode cL_law 1401 = .ok (.iaload, 1) := by decide +kernel
theorem dL_law_1402 : decode cL_law 1402 = .ok (.aload_n 0, 1) := by decide +kernel
theorem dL_law_1403 : decode cL_law 1403 = .ok (.iload 4, 2) := by decide +kernel
theorem dL_law_1405 : decode cL_law 1405 = .ok (.iconst 3, 1) := by decide +kernel
theorem dL_law_1406 : decode cL_law 1406 = .ok (.iadd, 1) := by decide +kernel
theorem dL_law_1407 : decode cL_law 1407 = .ok (.iaload, 1) := by decide +kernel
theorem dL_law_1408 : decode cL_law 1408 = .ok (.invokevirtual 194, 3) := by decide +kernel
theorem dL_law_1411 : decode cL_law 1411 = .ok (.istore 6, 2) := by decide +kernel
theorem dL_law_1413 : decode cL_law 1413 = .ok (.aload_n 2, 1) := by decide +kernel
theorem dL_law_1414 : decode cL_law 1414 = .ok (.invokevirtual 101, 3) := by decide +kernel
theorem dL_law_1417 : decode cL_law 1417 = .ok (.iload 5, 2) := by decide +kernel
theorem dL_law_1419 : decode cL_law 1419 = .ok (.if_icmp .eq 5, 3) := by decide +kernel
theorem dL_law_1422 : decode cL_law 1422 = .ok (.iconst 0, 1) := by decide +kernel
theorem dL_law_1423 : decode cL_law 1423 = .ok (.ireturn, 1) := by decide +kernel
theorem dL_law_1424 : decode cL_law 1424 = .ok (.iload 5, 2) := by decide +kernel
theorem dL_law_1426 : decode cL_law 1426 = .ok (.ifCond .ne 15, 3) := by decide +kernel
theorem dL_law_1429 : decode cL_law 1429 = .ok (.aload_n 3, 1) := by decide +kernel
theorem dL_law_1430 : decode cL_law 1430 = .ok (.iconst 0, 1) := by decide +kernel
theorem dL_law_1431 : decode cL_law 1431 = .ok (.laload, 1) := by decide +kernel
theorem dL_law_1432 : decode cL_law 1432 = .ok (.iload 6, 2) := by decide +kernel
theorem dL_law_1434 : decode cL_law 1434 = .ok (.i2l, 1) := by decide +kernel
theorem dL_law_1435 : decode cL_law 1435 = .ok (.lcmp, 1) := by decide +kernel
theorem dL_law_1436 : decode cL_law 1436 = .ok (.ifCond .eq 5, 3) := by decide +kernel
theorem dL_law_1439 : decode cL_law 1439 = .ok (.iconst 0, 1) := by decide +kernel
theorem dL_law_1440 : decode cL_law 1440 = .ok (.ireturn, 1) := by decide +kernel
theorem dL_law_1441 : decode cL_law 1441 = .ok (.goto 334, 3) := by decide +kernel
theorem dL_law_1444 : decode cL_law 1444 = .ok (.aload_n 1, 1) := by decide +kernel
theorem dL_law_1445 : decode cL_law 1445 = .ok (.aload_n 0, 1) := by decide +kernel
theorem dL_law_1446 : decode cL_law 1446 = .ok (.iload 4, 2) := by decide +kernel
theorem dL_law_1448 : decode cL_law 1448 = .ok (.iconst 1, 1) := by decide +kernel
theorem dL_law_1449 : decode cL_law 1449 = .ok (.iadd, 1) := by decide +kernel
theorem dL_law_1450 : decode cL_law 1450 = .ok (.iaload, 1) := by decide +kernel
theorem dL_law_1451 : decode cL_law 1451 = .ok (.aload_n 0, 1) := by decide +kernel
theorem dL_law_1452 : decode cL_law 1452 = .ok (.iload 4, 2) := by decide +kernel
theorem dL_law_1454 : decode cL_law 1454 = .ok (.iconst 2, 1) := by decide +kernel
theorem dL_law_1455 : decode cL_law 1455 = .ok (.iadd, 1) := by decide +kernel
theorem dL_law_1456 : decode cL_law 1456 = .ok (.iaload, 1) := by decide +kernel
theorem dL_law_1457 : decode cL_law 1457 = .ok (.aload_n 3, 1) := by decide +kernel
theorem dL_law_1458 : decode cL_law 1458 = .ok (.invokestatic 195, 3) := by decide +kernel
theorem dL_law_1461 : decode cL_law 1461 = .ok (.istore 5, 2) := by decide +kernel
theorem dL_law_1463 : decode cL_law 1463 = .ok (.aload_n 2, 1) := by decide +kernel
theorem dL_law_1464 : decode cL_law 1464 = .ok (.aload_n 0, 1) := by decide +kernel
theorem dL_law_1465 : decode cL_law 1465 = .ok (.iload 4, 2) := by decide +kernel
theorem dL_law_1467 : decode cL_law 1467 = .ok (.iconst 1, 1) := by decide +kernel
theorem dL_law_1468 : decode cL_law 1468 = .ok (.iadd, 1) := by decide +kernel
theorem dL_law_1469 : decode cL_law 1469 = .ok (.iaload, 1) := by decide +kernel
theorem dL_law_1470 : decode cL_law 1470 = .ok (.aload_n 0, 1) := by decide +kernel
theorem dL_law_1471 : decode cL_law 1471 = .ok (.iload 4, 2) := by decide +kernel
theorem dL_law_1473 : decode cL_law 1473 = .ok (.iconst 2, 1) := by decide +kernel
theorem dL_law_1474 : decode cL_law 1474 = .ok (.iadd, 1) := by decide +kernel
theorem dL_law_1475 : decode cL_law 1475 = .ok (.iaload, 1) := by decide +kernel
theorem dL_law_1476 : decode cL_law 1476 = .ok (.invokevirtual 197, 3) := by decide +kernel
theorem dL_law_1479 : decode cL_law 1479 = .ok (.istore 6, 2) := by decide +kernel
theorem dL_law_1481 : decode cL_law 1481 = .ok (.aload_n 2, 1) := by decide +kernel
theorem dL_law_1482 : decode cL_law 1482 = .ok (.invokevirtual 101, 3) := by decide +kernel
theorem dL_law_1485 : decode cL_law 1485 = .ok (.iload 5, 2) := by decide +kernel
theorem dL_law_1487 : decode cL_law 1487 = .ok (.if_icmp .eq 5, 3) := by decide +kernel
theorem dL_law_1490 : decode cL_law 1490 = .ok (.iconst 0, 1) := by decide +kernel
theorem dL_law_1491 : decode cL_law 1491 = .ok (.ireturn, 1) := by decide +kernel
theorem dL_law_1492 : decode cL_law 1492 = .ok (.iload 5, 2) := by decide +kernel
theorem dL_law_1494 : decode cL_law 1494 = .ok (.ifCond .ne 15, 3) := by decide +kernel
theorem dL_law_1497 : decode cL_law 1497 = .ok (.aload_n 3, 1) := by decide +kernel
theorem dL_law_1498 : decode cL_law 1498 = .ok (.iconst 0, 1) := by decide +kernel
theorem dL_law_1499 : decode cL_law 1499 = .ok (.laload, 1) := by decide +kernel
theorem dL_law_1500 : decode cL_law 1500 = .ok (.iload 6, 2) := by decide +kernel
theorem dL_law_1502 : decode cL_law 1502 = .ok (.i2l, 1) := by decide +kernel
theorem dL_law_1503 : decode cL_law 1503 = .ok (.lcmp, 1) := by decide +kernel
theorem dL_law_1504 : decode cL_law 1504 = .ok (.ifCond .eq 5, 3) := by decide +kernel
theorem dL_law_1507 : decode cL_law 1507 = .ok (.iconst 0, 1) := by decide +kernel
theorem dL_law_1508 : decode cL_law 1508 = .ok (.ireturn, 1) := by decide +kernel
theorem dL_law_1509 : decode cL_law 1509 = .ok (.goto 266, 3) := by decide +kernel
theorem dL_law_1512 : decode cL_law 1512 = .ok (.aload_n 1, 1) := by decide +kernel
theorem dL_law_1513 : decode cL_law 1513 = .ok (.aload_n 0, 1) := by decide +kernel
theorem dL_law_1514 : decode cL_law 1514 = .ok (.iload 4, 2) := by decide +kernel
theorem dL_law_1516 : decode cL_law 1516 = .ok (.iconst 1, 1) := by decide +kernel
theorem dL_law_1517 : decode cL_law 1517 = .ok (.iadd, 1) := by decide +kernel
theorem dL_law_1518 : decode cL_law 1518 = .ok (.iaload, 1) := by decide +kernel
theorem dL_law_1519 : decode cL_law 1519 = .ok (.aload_n 3, 1) := by decide +kernel
theorem dL_law_1520 : decode cL_law 1520 = .ok (.invokestatic 198, 3) := by decide +kernel
theorem dL_law_1523 : decode cL_law 1523 = .ok (.istore 5, 2) := by decide +kernel
theorem dL_law_1525 : decode cL_law 1525 = .ok (.aload_n 2, 1) := by decide +kernel
theorem dL_law_1526 : decode cL_law 1526 = .ok (.aload_n 0, 1) := by decide +kernel
theorem dL_law_1527 : decode cL_law 1527 = .ok (.iload 4, 2) := by decide +kernel
theorem dL_law_1529 : decode cL_law 1529 = .ok (.iconst 1, 1) := by decide +kernel
theorem dL_law_1530 : decode cL_law 1530 = .ok (.iadd, 1) := by decide +kernel
theorem dL_law_1531 : decode cL_law 1531 = .ok (.iaload, 1) := by decide +kernel
theorem dL_law_1532 : decode cL_law 1532 = .ok (.invokevirtual 200, 3) := by decide +kernel
theorem dL_law_1535 : decode cL_law 1535 = .ok (.istore 6, 2) := by decide +kernel
theorem dL_law_1537 : decode cL_law 1537 = .ok (.aload_n 2, 1) := by decide +kernel
theorem dL_law_1538 : decode cL_law 1538 = .ok (.invokevirtual 101, 3) := by decide +kernel
theorem dL_law_1541 : decode cL_law 1541 = .ok (.iload 5, 2) := by decide +kernel
theorem dL_law_1543 : decode cL_law 1543 = .ok (.if_icmp .eq 5, 3) := by decide +kernel
theorem dL_law_1546 : decode cL_law 1546 = .ok (.iconst 0, 1) := by decide +kernel
theorem dL_law_1547 : decode cL_law 1547 = .ok (.ireturn, 1) := by decide +kernel
theorem dL_law_1548 : decode cL_law 1548 = .ok (.iload 5, 2) := by decide +kernel
theorem dL_law_1550 : decode cL_law 1550 = .ok (.ifCond .ne 15, 3) := by decide +kernel
theorem dL_law_1553 : decode cL_law 1553 = .ok (.aload_n 3, 1) := by decide +kernel
theorem dL_law_1554 : decode cL_law 1554 = .ok (.iconst 0, 1) := by decide +kernel
theorem dL_law_1555 : decode cL_law 1555 = .ok (.laload, 1) := by decide +kernel
theorem dL_law_1556 : decode cL_law 1556 = .ok (.iload 6, 2) := by decide +kernel
theorem dL_law_1558 : decode cL_law 1558 = .ok (.i2l, 1) := by decide +kernel
theorem dL_law_1559 : decode cL_law 1559 = .ok (.lcmp, 1) := by decide +kernel
theorem dL_law_1560 : decode cL_law 1560 = .ok (.ifCond .eq 5, 3) := by decide +kernel
theorem dL_law_1563 : decode cL_law 1563 = .ok (.iconst 0, 1) := by decide +kernel
theorem dL_law_1564 : decode cL_law 1564 = .ok (.ireturn, 1) := by decide +kernel
theorem dL_law_1565 : decode cL_law 1565 = .ok (.goto 210, 3) := by decide +kernel
theorem dL_law_1568 : decode cL_law 1568 = .ok (.aload_n 1, 1) := by decide +kernel
theorem dL_law_1569 : decode cL_law 1569 = .ok (.aload_n 0, 1) := by decide +kernel
theorem dL_law_1570 : decode cL_law 1570 = .ok (.iload 4, 2) := by decide +kernel
theorem dL_law_1572 : decode cL_law 1572 = .ok (.iconst 1, 1) := by decide +kernel
theorem dL_law_1573 : decode cL_law 1573 = .ok (.iadd, 1) := by decide +kernel
theorem dL_law_1574 : decode cL_law 1574 = .ok (.iaload, 1) := by decide +kernel
theorem dL_law_1575 : decode cL_law 1575 = .ok (.aload_n 0, 1) := by decide +kernel
theorem dL_law_1576 : decode cL_law 1576 = .ok (.iload 4, 2) := by decide +kernel
theorem dL_law_1578 : decode cL_law 1578 = .ok (.iconst 2, 1) := by decide +kernel
theorem dL_law_1579 : decode cL_law 1579 = .ok (.iadd, 1) := by decide +kernel
theorem dL_law_1580 : decode cL_law 1580 = .ok (.iaload, 1) := by decide +kernel
theorem dL_law_1581 : decode cL_law 1581 = .ok (.aload_n 3, 1) := by decide +kernel
theorem dL_law_1582 : decode cL_law 1582 = .ok (.invokestatic 201, 3) := by decide +kernel
theorem dL_law_1585 : decode cL_law 1585 = .ok (.istore 5, 2) := by decide +kernel
theorem dL_law_1587 : decode cL_law 1587 = .ok (.aload_n 2, 1) := by decide +kernel
theorem dL_law_1588 : decode cL_law 1588 = .ok (.aload_n 0, 1) := by decide +kernel
theorem dL_law_1589 : decode cL_law 1589 = .ok (.iload 4, 2) := by decide +kernel
theorem dL_law_1591 : decode cL_law 1591 = .ok (.iconst 1, 1) := by decide +kernel
theorem dL_law_1592 : decode cL_law 1592 = .ok (.iadd, 1) := by decide +kernel
theorem dL_law_1593 : decode cL_law 1593 = .ok (.iaload, 1) := by decide +kernel
theorem dL_law_1594 : decode cL_law 1594 = .ok (.aload_n 0, 1) := by decide +kernel
theorem dL_law_1595 : decode cL_law 1595 = .ok (.iload 4, 2) := by decide +kernel
theorem dL_law_1597 : decode cL_law 1597 = .ok (.iconst 2, 1) := by decide +kernel
theorem dL_law_1598 : decode cL_law 1598 = .ok (.iadd, 1) := by decide +kernel
theorem dL_law_1599 : decode cL_law 1599 = .ok (.iaload, 1) := by decide +kernel
theorem dL_law_1600 : decode cL_law 1600 = .ok (.invokevirtual 203, 3) := by decide +kernel
theorem dL_law_1603 : decode cL_law 1603 = .ok (.istore 6, 2) := by decide +kernel
theorem dL_law_1605 : decode cL_law 1605 = .ok (.aload_n 2, 1) := by decide +kernel
theorem dL_law_1606 : decode cL_law 1606 = .ok (.invokevirtual 101, 3) := by decide +kernel
theorem dL_law_1609 : decode cL_law 1609 = .ok (.iload 5, 2) := by decide +kernel
theorem dL_law_1611 : decode cL_law 1611 = .ok (.if_icmp .eq 5, 3) := by decide +kernel
theorem dL_law_1614 : decode cL_law 1614 = .ok (.iconst 0, 1) := by decide +kernel
theorem dL_law_1615 : decode cL_law 1615 = .ok (.ireturn, 1) := by decide +kernel
theorem dL_law_1616 : decode cL_law 1616 = .ok (.iload 5, 2) := by decide +kernel
theorem dL_law_1618 : decode cL_law 1618 = .ok (.ifCond .ne 15, 3) := by decide +kernel
theorem dL_law_1621 : decode cL_law 1621 = .ok (.aload_n 3, 1) := by decide +kernel
theorem dL_law_1622 : decode cL_law 1622 = .ok (.iconst 0, 1) := by decide +kernel
theorem dL_law_1623 : decode cL_law 1623 = .ok (.laload, 1) := by decide +kernel
theorem dL_law_1624 : decode cL_law 1624 = .ok (.iload 6, 2) := by decide +kernel
theorem dL_law_1626 : decode cL_law 1626 = .ok (.i2l, 1) := by decide +kernel
theorem dL_law_1627 : decode cL_law 1627 = .ok (.lcmp, 1) := by decide +kernel
theorem dL_law_1628 : decode cL_law 1628 = .ok (.ifCond .eq 5, 3) := by decide +kernel
theorem dL_law_1631 : decode cL_law 1631 = .ok (.iconst 0, 1) := by decide +kernel
theorem dL_law_1632 : decode cL_law 1632 = .ok (.ireturn, 1) := by decide +kernel
theorem dL_law_1633 : decode cL_law 1633 = .ok (.goto 142, 3) := by decide +kernel
theorem dL_law_1636 : decode cL_law 1636 = .ok (.aload_n 1, 1) := by decide +kernel
theorem dL_law_1637 : decode cL_law 1637 = .ok (.aload_n 0, 1) := by decide +kernel
theorem dL_law_1638 : decode cL_law 1638 = .ok (.iload 4, 2) := by decide +kernel
theorem dL_law_1640 : decode cL_law 1640 = .ok (.iconst 1, 1) := by decide +kernel
theorem dL_law_1641 : decode cL_law 1641 = .ok (.iadd, 1) := by decide +kernel
theorem dL_law_1642 : decode cL_law 1642 = .ok (.iaload, 1) := by decide +kernel
theorem dL_law_1643 : decode cL_law 1643 = .ok (.aload_n 3, 1) := by decide +kernel
theorem dL_law_1644 : decode cL_law 1644 = .ok (.invokestatic 204, 3) := by decide +kernel
theorem dL_law_1647 : decode cL_law 1647 = .ok (.istore 5, 2) := by decide +kernel
theorem dL_law_1649 : decode cL_law 1649 = .ok (.aload_n 2, 1) := by decide +kernel
theorem dL_law_1650 : decode cL_law 1650 = .ok (.aload_n 0, 1) := by decide +kernel
theorem dL_law_1651 : decode cL_law 1651 = .ok (.iload 4, 2) := by decide +kernel
theorem dL_law_1653 : decode cL_law 1653 = .ok (.iconst 1, 1) := by decide +kernel
theorem dL_law_1654 : decode cL_law 1654 = .ok (.iadd, 1) := by decide +kernel
theorem dL_law_1655 : decode cL_law 1655 = .ok (.iaload, 1) := by decide +kernel
theorem dL_law_1656 : decode cL_law 1656 = .ok (.invokevirtual 206, 3) := by decide +kernel
theorem dL_law_1659 : decode cL_law 1659 = .ok (.istore 6, 2) := by decide +kernel
theorem dL_law_1661 : decode cL_law 1661 = .ok (.aload_n 2, 1) := by decide +kernel
theorem dL_law_1662 : decode cL_law 1662 = .ok (.invokevirtual 101, 3) := by decide +kernel
theorem dL_law_1665 : decode cL_law 1665 = .ok (.iload 5, 2) := by decide +kernel
theorem dL_law_1667 : decode cL_law 1667 = .ok (.if_icmp .eq 5, 3) := by decide +kernel
theorem dL_law_1670 : decode cL_law 1670 = .ok (.iconst 0, 1) := by decide +kernel
theorem dL_law_1671 : decode cL_law 1671 = .ok (.ireturn, 1) := by decide +kernel
theorem dL_law_1672 : decode cL_law 1672 = .ok (.iload 5, 2) := by decide +kernel
theorem dL_law_1674 : decode cL_law 1674 = .ok (.ifCond .ne 15, 3) := by decide +kernel
theorem dL_law_1677 : decode cL_law 1677 = .ok (.aload_n 3, 1) := by decide +kernel
theorem dL_law_1678 : decode cL_law 1678 = .ok (.iconst 0, 1) := by decide +kernel
theorem dL_law_1679 : decode cL_law 1679 = .ok (.laload, 1) := by decide +kernel
theorem dL_law_1680 : decode cL_law 1680 = .ok (.iload 6, 2) := by decide +kernel
theorem dL_law_1682 : decode cL_law 1682 = .ok (.i2l, 1) := by decide +kernel
theorem dL_law_1683 : decode cL_law 1683 = .ok (.lcmp, 1) := by decide +kernel
theorem dL_law_1684 : decode cL_law 1684 = .ok (.ifCond .eq 5, 3) := by decide +kernel
theorem dL_law_1687 : decode cL_law 1687 = .ok (.iconst 0, 1) := by decide +kernel
theorem dL_law_1688 : decode cL_law 1688 = .ok (.ireturn, 1) := by decide +kernel
theorem dL_law_1689 : decode cL_law 1689 = .ok (.goto 86, 3) := by decide +kernel
theorem dL_law_1692 : decode cL_law 1692 = .ok (.aload_n 1, 1) := by decide +kernel
theorem dL_law_1693 : decode cL_law 1693 = .ok (.aload_n 0, 1) := by decide +kernel
theorem dL_law_1694 : decode cL_law 1694 = .ok (.iload 4, 2) := by decide +kernel
theorem dL_law_1696 : decode cL_law 1696 = .ok (.iconst 1, 1) := by decide +kernel
theorem dL_law_1697 : decode cL_law 1697 = .ok (.iadd, 1) := by decide +kernel
theorem dL_law_1698 : decode cL_law 1698 = .ok (.iaload, 1) := by decide +kernel
theorem dL_law_1699 : decode cL_law 1699 = .ok (.aload_n 3, 1) := by decide +kernel
theorem dL_law_1700 : decode cL_law 1700 = .ok (.invokestatic 207, 3) := by decide +kernel
theorem dL_law_1703 : decode cL_law 1703 = .ok (.istore 5, 2) := by decide +kernel
theorem dL_law_1705 : decode cL_law 1705 = .ok (.aload_n 2, 1) := by decide +kernel
theorem dL_law_1706 : decode cL_law 1706 = .ok (.aload_n 0, 1) := by decide +kernel
theorem dL_law_1707 : decode cL_law 1707 = .ok (.iload 4, 2) := by decide +kernel
theorem dL_law_1709 : decode cL_law 1709 = .ok (.iconst 1, 1) := by decide +kernel
theorem dL_law_1710 : decode cL_law 1710 = .ok (.iadd, 1) := by decide +kernel
theorem dL_law_1711 : decode cL_law 1711 = .ok (.iaload, 1) := by decide +kernel
theorem dL_law_1712 : decode cL_law 1712 = .ok (.invokevirtual 209, 3) := by decide +kernel
theorem dL_law_1715 : decode cL_law 1715 = .ok (.istore 6, 2) := by decide +kernel
theorem dL_law_1717 : decode cL_law 1717 = .ok (.aload_n 2, 1) := by decide +kernel
theorem dL_law_1718 : decode cL_law 1718 = .ok (.invokevirtual 101, 3) := by decide +kernel
theorem dL_law_1721 : decode cL_law 1721 = .ok (.iload 5, 2) := by decide +kernel
theorem dL_law_1723 : decode cL_law 1723 = .ok (.if_icmp .eq 5, 3) := by decide +kernel
theorem dL_law_1726 : decode cL_law 1726 = .ok (.iconst 0, 1) := by decide +kernel
theorem dL_law_1727 : decode cL_law 1727 = .ok (.ireturn, 1) := by decide +kernel
theorem dL_law_1728 : decode cL_law 1728 = .ok (.iload 5, 2) := by decide +kernel
theorem dL_law_1730 : decode cL_law 1730 = .ok (.ifCond .ne 15, 3) := by decide +kernel
theorem dL_law_1733 : decode cL_law 1733 = .ok (.aload_n 3, 1) := by decide +kernel
theorem dL_law_1734 : decode cL_law 1734 = .ok (.iconst 0, 1) := by decide +kernel
theorem dL_law_1735 : decode cL_law 1735 = .ok (.laload, 1) := by decide +kernel
theorem dL_law_1736 : decode cL_law 1736 = .ok (.iload 6, 2) := by decide +kernel
theorem dL_law_1738 : decode cL_law 1738 = .ok (.i2l, 1) := by decide +kernel
theorem dL_law_1739 : decode cL_law 1739 = .ok (.lcmp, 1) := by decide +kernel
theorem dL_law_1740 : decode cL_law 1740 = .ok (.ifCond .eq 5, 3) := by decide +kernel
theorem dL_law_1743 : decode cL_law 1743 = .ok (.iconst 0, 1) := by decide +kernel
theorem dL_law_1744 : decode cL_law 1744 = .ok (.ireturn, 1) := by decide +kernel
theorem dL_law_1745 : decode cL_law 1745 = .ok (.goto 30, 3) := by decide +kernel
theorem dL_law_1748 : decode cL_law 1748 = .ok (.aload_n 1, 1) := by decide +kernel
theorem dL_law_1749 : decode cL_law 1749 = .ok (.invokevirtual 210, 3) := by decide +kernel
theorem dL_law_1752 : decode cL_law 1752 = .ok (.aload_n 2, 1) := by decide +kernel
theorem dL_law_1753 : decode cL_law 1753 = .ok (.invokevirtual 213, 3) := by decide +kernel
theorem dL_law_1756 : decode cL_law 1756 = .ok (.if_icmp .eq 19, 3) := by decide +kernel
theorem dL_law_1759 : decode cL_law 1759 = .ok (.iconst 0, 1) := by decide +kernel
theorem dL_law_1760 : decode cL_law 1760 = .ok (.ireturn, 1) := by decide +kernel
theorem dL_law_1761 : decode cL_law 1761 = .ok (.aload_n 1, 1) := by decide +kernel
theorem dL_law_1762 : decode cL_law 1762 = .ok (.invokevirtual 214, 3) := by decide +kernel
theorem dL_law_1765 : decode cL_law 1765 = .ok (.aload_n 2, 1) := by decide +kernel
theorem dL_law_1766 : decode cL_law 1766 = .ok (.invokevirtual 218, 3) := by decide +kernel
theorem dL_law_1769 : decode cL_law 1769 = .ok (.lcmp, 1) := by decide +kernel
theorem dL_law_1770 : decode cL_law 1770 = .ok (.ifCond .eq 5, 3) := by decide +kernel
theorem dL_law_1773 : decode cL_law 1773 = .ok (.iconst 0, 1) := by decide +kernel
theorem dL_law_1774 : decode cL_law 1774 = .ok (.ireturn, 1) := by decide +kernel
theorem dL_law_1775 : decode cL_law 1775 = .ok (.iinc 4 6, 3) := by decide +kernel
theorem dL_law_1778 : decode cL_law 1778 = .ok (.goto (-1755), 3) := by decide +kernel
theorem dL_law_1781 : decode cL_law 1781 = .ok (.iconst 1, 1) := by decide +kernel
theorem dL_law_1782 : decode cL_law 1782 = .ok (.ireturn, 1) := by decide +kernel
end
section
theorem dX0_init_0 : decode cX0_init 0 = .ok (.aload_n 0, 1) := by decide +kernel
theorem dX0_init_1 : decode cX0_init 1 = .ok (.invokespecial 3, 3) := by decide +kernel
theorem dX0_init_4 : decode cX0_init 4 = .ok (.aload_n 0, 1) := by decide +kernel
theorem dX0_init_5 : decode cX0_init 5 = .ok (.aload_n 1, 1) := by decide +kernel
theorem dX0_init_6 : decode cX0_init 6 = .ok (.putfield 9, 3) := by decide +kernel
theorem dX0_init_9 : decode cX0_init 9 = .ok (.aload_n 0, 1) := by decide +kernel
theorem dX0_init_10 : decode cX0_init 10 = .ok (.iconst 4, 1) := by decide +kernel
theorem dX0_init_11 : decode cX0_init 11 = .ok (.newarray .int, 2) := by decide +kernel
theorem dX0_init_13 : decode cX0_init 13 = .ok (.putfield 15, 3) := by decide +kernel
theorem dX0_init_16 : decode cX0_init 16 = .ok (.aload_n 0, 1) := by decide +kernel
theorem dX0_init_17 : decode cX0_init 17 = .ok (.iconst 4, 1) := by decide +kernel
theorem dX0_init_18 : decode cX0_init 18 = .ok (.newarray .int, 2) := by decide +kernel
theorem dX0_init_20 : decode cX0_init 20 = .ok (.putfield 19, 3) := by decide +kernel
theorem dX0_init_23 : decode cX0_init 23 = .ok (.aload_n 0, 1) := by decide +kernel
theorem dX0_init_24 : decode cX0_init 24 = .ok (.bipush 24, 2) := by decide +kernel
theorem dX0_init_26 : decode cX0_init 26 = .ok (.newarray .int, 2) := by decide +kernel
theorem dX0_init_28 : decode cX0_init 28 = .ok (.putfield 22, 3) := by decide +kernel
theorem dX0_init_31 : decode cX0_init 31 = .ok (.aload_n 0, 1) := by decide +kernel
theorem dX0_init_32 : decode cX0_init 32 = .ok (.bipush 24, 2) := by decide +kernel
theorem dX0_init_34 : decode cX0_init 34 = .ok (.newarray .int, 2) := by decide +kernel
theorem dX0_init_36 : decode cX0_init 36 = .ok (.putfield 25, 3) := by decide +kernel
theorem dX0_init_39 : decode cX0_init 39 = .ok (.aload_n 0, 1) := by decide +kernel
theorem dX0_init_40 : decode cX0_init 40 = .ok (.bipush 24, 2) := by decide +kernel
theorem dX0_init_42 : decode cX0_init 42 = .ok (.newarray .int, 2) := by decide +kernel
theorem dX0_init_44 : decode cX0_init 44 = .ok (.putfield 28, 3) := by decide +kernel
theorem dX0_init_47 : decode cX0_init 47 = .ok (.aload_n 0, 1) := by decide +kernel
theorem dX0_init_48 : decode cX0_init 48 = .ok (.bipush 24, 2) := by decide +kernel
theorem dX0_init_50 : decode cX0_init 50 = .ok (.newarray .int, 2) := by decide +kernel
theorem dX0_init_52 : decode cX0_init 52 = .ok (.putfield 31, 3) := by decide +kernel
theorem dX0_init_55 : decode cX0_init 55 = .ok (.aload_n 0, 1) := by decide +kernel
theorem dX0_init_56 : decode cX0_init 56 = .ok (.bipush 20, 2) := by decide +kernel
theorem dX0_init_58 : decode cX0_init 58 = .ok (.newarray .int, 2) := by decide +kernel
theorem dX0_init_60 : decode cX0_init 60 = .ok (.putfield 34, 3) := by decide +kernel
theorem dX0_init_63 : decode cX0_init 63 = .ok (.aload_n 0, 1) := by decide +kernel
theorem dX0_init_64 : decode cX0_init 64 = .ok (.bipush 20, 2) := by decide +kernel
theorem dX0_init_66 : decode cX0_init 66 = .ok (.newarray .int, 2) := by decide +kernel
theorem dX0_init_68 : decode cX0_init 68 = .ok (.putfield 37, 3) := by decide +kernel
theorem dX0_init_71 : decode cX0_init 71 = .ok (.aload_n 0, 1) := by decide +kernel
theorem dX0_init_72 : decode cX0_init 72 = .ok (.bipush 20, 2) := by decide +kernel
theorem dX0_init_74 : decode cX0_init 74 = .ok (.newarray .int, 2) := by decide +kernel
theorem dX0_init_76 : decode cX0_init 76 = .ok (.putfield 40, 3) := by decide +kernel
theorem dX0_init_79 : decode cX0_init 79 = .ok (.aload_n 0, 1) := by decide +kernel
theorem dX0_init_80 : decode cX0_init 80 = .ok (.bipush 20, 2) := by decide +kernel
theorem dX0_init_82 : decode cX0_init 82 = .ok (.newarray .int, 2) := by decide +kernel
theorem dX0_init_84 : decode cX0_init 84 = .ok (.putfield 43, 3) := by decide +kernel
theorem dX0_init_87 : decode cX0_init 87 = .ok (.aload_n 0, 1) := by decide +kernel
theorem dX0_init_88 : decode cX0_init 88 = .ok (.bipush 20, 2) := by decide +kernel
theorem dX0_init_90 : decode cX0_init 90 = .ok (.newarray .int, 2) := by decide +kernel
theorem dX0_init_92 : decode cX0_init 92 = .ok (.putfield 46, 3) := by decide +kernel
theorem dX0_init_95 : decode cX0_init 95 = .ok (.aload_n 0, 1) := by decide +kernel
theorem dX0_init_96 : decode cX0_init 96 = .ok (.bipush 20, 2) := by decide +kernel
theorem dX0_init_98 : decode cX0_init 98 = .ok (.newarray .int, 2) := by decide +kernel
theorem dX0_init_100 : decode cX0_init 100 = .ok (.putfield 49, 3) := by decide +kernel
theorem dX0_init_103 : decode cX0_init 103 = .ok (.aload_n 0, 1) := by decide +kernel
theorem dX0_init_104 : decode cX0_init 104 = .ok (.bipush 20, 2) := by decide +kernel
theorem dX0_init_106 : decode cX0_init 106 = .ok (.newarray .int, 2) := by decide +kernel
theorem dX0_init_108 : decode cX0_init 108 = .ok (.putfield 52, 3) := by decide +kernel
theorem dX0_init_111 : decode cX0_init 111 = .ok (.return_, 1) := by decide +kernel
theorem dX0_startAnew_0 : decode cX0_startAnew 0 = .ok (.aload_n 0, 1) := by decide +kernel
theorem dX0_startAnew_1 : decode cX0_startAnew 1 = .ok (.aload_n 1, 1) := by decide +kernel
theorem dX0_startAnew_2 : decode cX0_startAnew 2 = .ok (.putfield 9, 3) := by decide +kernel
theorem dX0_startAnew_5 : decode cX0_startAnew 5 = .ok (.aload_n 0, 1) := by decide +kernel
theorem dX0_startAnew_6 : decode cX0_startAnew 6 = .ok (.iconst 0, 1) := by decide +kernel
theorem dX0_startAnew_7 : decode cX0_startAnew 7 = .ok (.putfield 55, 3) := by decide +kernel
theorem dX0_startAnew_10 : decode cX0_startAnew 10 = .ok (.aload_n 0, 1) := by decide +kernel
theorem dX0_startAnew_11 : decode cX0_startAnew 11 = .ok (.getfield 15, 3) := by decide +kernel
theorem dX0_startAnew_14 : decode cX0_startAnew 14 = .ok (.iconst 0, 1) := by decide +kernel
theorem dX0_startAnew_15 : decode cX0_startAnew 15 = .ok (.invokestatic 59, 3) := by decide +kernel
theorem dX0_startAnew_18 : decode cX0_startAnew 18 = .ok (.aload_n 0, 1) := by decide +kernel
theorem dX0_startAnew_19 : decode cX0_startAnew 19 = .ok (.getfield 19, 3) := by decide +kernel
theorem dX0_startAnew_22 : decode cX0_startAnew 22 = .ok (.iconst 0, 1) := by decide +kernel
theorem dX0_startAnew_23 : decode cX0_startAnew 23 = .ok (.invokestatic 59, 3) := by decide +kernel
theorem dX0_startAnew_26 : decode cX0_startAnew 26 = .ok (.aload_n 0, 1) := by decide +kernel
theorem dX0_startAnew_27 : decode cX0_startAnew 27 = .ok (.iconst 0, 1) := by decide +kernel
theorem dX0_startAnew_28 : decode cX0_startAnew 28 = .ok (.putfield 65, 3) := by decide +kernel
theorem dX0_startAnew_31 : decode cX0_startAnew 31 = .ok (.aload_n 0, 1) := by decide +kernel
theorem dX0_startAnew_32 : decode cX0_startAnew 32 = .ok (.iconst 0, 1) := by decide +kernel
theorem dX0_startAnew_33 : decode cX0_startAnew 33 = .ok (.putfield 68, 3) := by decide +kernel
theorem dX0_startAnew_36 : decode cX0_startAnew 36 = .ok (.aload_n 0, 1) := by decide +kernel
theorem dX0_startAnew_37 : decode cX0_startAnew 37 = .ok (.iconst 0, 1) := by decide +kernel
theorem dX0_startAnew_38 : decode cX0_startAnew 38 = .ok (.putfield 71, 3) := by decide +kernel
theorem dX0_startAnew_41 : decode cX0_startAnew 41 = .ok (.return_, 1) := by decide +kernel
theorem dX0_copyFrom_0 : decode cX0_copyFrom 0 = .ok (.aload_n 0, 1) := by decide +kernel
theorem dX0_copyFrom_1 : decode cX0_copyFrom 1 = .ok (.aload_n 1, 1) := by decide +kernel
theorem dX0_copyFrom_2 : decode cX0_copyFrom 2 = .ok (.getfield 9, 3) := by decide +kernel
theorem dX0_copyFrom_5 : decode cX0_copyFrom 5 = .ok (.putfield 9, 3) := by decide +kernel
theorem dX0_copyFrom_8 : decode cX0_copyFrom 8 = .ok (.aload_n 0, 1) := by decide +kernel
theorem dX0_copyFrom_9 : decode cX0_copyFrom 9 = .ok (.aload_n 1, 1) := by decide +kernel
theorem dX0_copyFrom_10 : decode cX0_copyFrom 10 = .ok (.getfield 55, 3) := by decide +kernel
theorem dX0_copyFrom_13 : decode cX0_copyFrom 13 = .ok (.putfield 55, 3) := by decide +kernel
theorem dX0_copyFrom_16 : decode cX0_copyFrom 16 = .ok (.aload_n 0, 1) := by decide +kernel
theorem dX0_copyFrom_17 : decode cX0_copyFrom 17 = .ok (.aload_n 1, 1) := by decide +kernel
theorem dX0_copyFrom_18 : decode cX0_copyFrom 18 = .ok (.getfield 65, 3) := by decide +kernel
theorem dX0_copyFrom_21 : decode cX0_copyFrom 21 = .ok (.putfield 65, 3) := by decide +kernel
theorem dX0_copyFrom_24 : decode cX0_copyFrom 24 = .ok (.aload_n 0, 1) := by decide +kernel
theorem dX0_copyFrom_25 : decode cX0_copyFrom 25 = .ok (.aload_n 1, 1) := by decide +kernel
theorem dX0_copyFrom_26 : decode cX0_copyFrom 26 = .ok (.getfield 68, 3) := by decide +kernel
theorem dX0_copyFrom_29 : decode cX0_copyFrom 29 = .ok (.putfield 68, 3) := by decide +kernel
theorem dX0_copyFrom_32 : decode cX0_copyFrom 32 = .ok (.aload_n 0, 1) := by decide +kernel
theorem dX0_copyFrom_33 : decode cX0_copyFrom 33 = .ok (.aload_n 1, 1) := by decide +kernel
theorem dX0_copyFrom_34 : decode cX0_copyFrom 34 = .ok (.getfield 71, 3) := by decide +kernel
theorem dX0_copyFrom_37 : decode cX0_copyFrom 37 = .ok (.putfield 71, 3) := by decide +kernel
theorem dX0_copyFrom_40 : decode cX0_copyFrom 40 = .ok (.aload_n 1, 1) := by decide +kernel
theorem dX0_copyFrom_41 : decode cX0_copyFrom 41 = .ok (.getfield 15, 3) := by decide +kernel
theorem dX0_copyFrom_44 : decode cX0_copyFrom 44 = .ok (.iconst 0, 1) := by decide +kernel
theorem dX0_copyFrom_45 : decode cX0_copyFrom 45 = .ok (.aload_n 0, 1) := by decide +kernel
theorem dX0_copyFrom_46 : decode cX0_copyFrom 46 = .ok (.getfield 15, 3) := by decide +kernel
theorem dX0_copyFrom_49 : decode cX0_copyFrom 49 = .ok (.iconst 0, 1) := by decide +kernel
theorem dX0_copyFrom_50 : decode cX0_copyFrom 50 = .ok (.iconst 4, 1) := by decide +kernel
theorem dX0_copyFrom_51 : decode cX0_copyFrom 51 = .ok (.invokestatic 74, 3) := by decide +kernel
theorem dX0_copyFrom_54 : decode cX0_copyFrom 54 = .ok (.aload_n 1, 1) := by decide +kernel
theorem dX0_copyFrom_55 : decode cX0_copyFrom 55 = .ok (.getfield 19, 3) := by decide +kernel
theorem dX0_copyFrom_58 : decode cX0_copyFrom 58 = .ok (.iconst 0, 1) := by decide +kernel
theorem dX0_copyFrom_59 : decode cX0_copyFrom 59 = .ok (.aload_n 0, 1) := by decide +kernel
theorem dX0_copyFrom_60 : decode cX0_copyFrom 60 = .ok (.getfield 19, 3) := by decide +kernel
theorem dX0_copyFrom_63 : decode cX0_copyFrom 63 = .ok (.iconst 0, 1) := by decide +kernel
theorem dX0_copyFrom_64 : decode cX0_copyFrom 64 = .ok (.iconst 4, 1) := by decide +kernel
theorem dX0_copyFrom_65 : decode cX0_copyFrom 65 = .ok (.invokestatic 74, 3) := by decide +kernel
theorem dX0_copyFrom_68 : decode cX0_copyFrom 68 = .ok (.aload_n 1, 1) := by decide +kernel
theorem dX0_copyFrom_69 : decode cX0_copyFrom 69 = .ok (.getfield 22, 3) := by decide +kernel
theorem dX0_copyFrom_72 : decode cX0_copyFrom 72 = .ok (.iconst 0, 1) := by decide +kernel
theorem dX0_copyFrom_73 : decode cX0_copyFrom 73 = .ok (.aload_n 0, 1) := by decide +kernel
theorem dX0_copyFrom_74 : decode cX0_copyFrom 74 = .ok (.getfield 22, 3) := by decide +kernel
theorem dX0_copyFrom_77 : decode cX0_copyFrom 77 = .ok (.iconst 0, 1) := by decide +kernel
theorem dX0_copyFrom_78 : decode cX0_copyFrom 78 = .ok (.bipush 24, 2) := by decide +kernel
theorem dX0_copyFrom_80 : decode cX0_copyFrom 80 = .ok (.invokestatic 74, 3) := by decide +kernel
theorem dX0_copyFrom_83 : decode cX0_copyFrom 83 = .ok (.aload_n 1, 1) := by decide +kernel
theorem dX0_copyFrom_84 : decode cX0_copyFrom 84 = .ok (.getfield 25, 3) := by decide +kernel
theorem dX0_copyFrom_87 : decode cX0_copyFrom 87 = .ok (.iconst 0, 1) := by decide +kernel
theorem dX0_copyFrom_88 : decode cX0_copyFrom 88 = .ok (.aload_n 0, 1) := by decide +kernel
theorem dX0_copyFrom_89 : decode cX0_copyFrom 89 = .ok (.getfield 25, 3) := by decide +kernel
theorem dX0_copyFrom_92 : decode cX0_copyFrom 92 = .ok (.iconst 0, 1) := by decide +kernel
theorem dX0_copyFrom_93 : decode cX0_copyFrom 93 = .ok (.bipush 24, 2) := by decide +kernel
theorem dX0_copyFrom_95 : decode cX0_copyFrom 95 = .ok (.invokestatic 74, 3) := by decide +kernel
theorem dX0_copyFrom_98 : decode cX0_copyFrom 98 = .ok (.aload_n 1, 1) := by decide +kernel
theorem dX0_copyFrom_99 : decode cX0_copyFrom 99 = .ok (.getfield 28, 3) := by decide +kernel
theorem dX0_copyFrom_102 : decode cX0_copyFrom 102 = .ok (.iconst 0, 1) := by decide +kernel
theorem dX0_copyFrom_103 : decode cX0_copyFrom 103 = .ok (.aload_n 0, 1) := by decide +kernel
theorem dX0_copyFrom_104 : decode cX0_copyFrom 104 = .ok (.getfield 28, 3) := by decide +kernel
theorem dX0_copyFrom_107 : decode cX0_copyFrom 107 = .ok (.iconst 0, 1) := by decide +kernel
theorem dX0_copyFrom_108 : decode cX0_copyFrom 108 = .ok (.bipush 24, 2) := by decide +kernel
theorem dX0_copyFrom_110 : decode cX0_copyFrom 110 = .ok (.invokestatic 74, 3) := by decide +kernel
theorem dX0_copyFrom_113 : decode cX0_copyFrom 113 = .ok (.aload_n 1, 1) := by decide +kernel
theorem dX0_copyFrom_114 : decode cX0_copyFrom 114 = .ok (.getfield 31, 3) := by decide +kernel
theorem dX0_copyFrom_117 : decode cX0_copyFrom 117 = .ok (.iconst 0, 1) := by decide +kernel
theorem dX0_copyFrom_118 : decode cX0_copyFrom 118 = .ok (.aload_n 0, 1) := by decide +kernel
theorem dX0_copyFrom_119 : decode cX0_copyFrom 119 = .ok (.getfield 31, 3) := by decide +kernel
theorem dX0_copyFrom_122 : decode cX0_copyFrom 122 = .ok (.iconst 0, 1) := by decide +kernel
theorem dX0_copyFrom_123 : decode cX0_copyFrom 123 = .ok (.bipush 24, 2) := by decide +kernel
theorem dX0_copyFrom_125 : decode cX0_copyFrom 125 = .ok (.invokestatic 74, 3) := by decide +kernel
theorem dX0_copyFrom_128 : decode cX0_copyFrom 128 = .ok (.aload_n 1, 1) := by decide +kernel
theorem dX0_copyFrom_129 : decode cX0_copyFrom 129 = .ok (.getfield 34, 3) := by decide +kernel
theorem dX0_copyFrom_132 : decode cX0_copyFrom 132 = .ok (.iconst 0, 1) := by decide +kernel
theorem dX0_copyFrom_133 : decode cX0_copyFrom 133 = .ok (.aload_n 0, 1) := by decide +kernel
theorem dX0_copyFrom_134 : decode cX0_copyFrom 134 = .ok (.getfield 34, 3) := by decide +kernel
theorem dX0_copyFrom_137 : decode cX0_copyFrom 137 = .ok (.iconst 0, 1) := by decide +kernel
theorem dX0_copyFrom_138 : decode cX0_copyFrom 138 = .ok (.bipush 20, 2) := by decide +kernel
theorem dX0_copyFrom_140 : decode cX0_copyFrom 140 = .ok (.invokestatic 74, 3) := by decide +kernel
theorem dX0_copyFrom_143 : decode cX0_copyFrom 143 = .ok (.aload_n 1, 1) := by decide +kernel
theorem dX0_copyFrom_144 : decode cX0_copyFrom 144 = .ok (.getfield 37, 3) := by decide +kernel
theorem dX0_copyFrom_147 : decode cX0_copyFrom 147 = .ok (.iconst 0, 1) := by decide +kernel
theorem dX0_copyFrom_148 : decode cX0_copyFrom 148 = .ok (.aload_n 0, 1) := by decide +kernel
theorem dX0_copyFrom_149 : decode cX0_copyFrom 149 = .ok (.getfield 37, 3) := by decide +kernel
theorem dX0_copyFrom_152 : decode cX0_copyFrom 152 = .ok (.iconst 0, 1) := by decide +kernel
theorem dX0_copyFrom_153 : decode cX0_copyFrom 153 = .ok (.bipush 20, 2) := by decide +kernel
theorem dX0_copyFrom_155 : decode cX0_copyFrom 155 = .ok (.invokestatic 74, 3) := by decide +kernel
theorem dX0_copyFrom_158 : decode cX0_copyFrom 158 = .ok (.aload_n 1, 1) := by decide +kernel
theorem dX0_copyFrom_159 : decode cX0_copyFrom 159 = .ok (.getfield 40, 3) := by decide +kernel
theorem dX0_copyFrom_162 : decode cX0_copyFrom 162 = .ok (.iconst 0, 1) := by decide +kernel
theorem dX0_copyFrom_163 : decode cX0_copyFrom 163 = .ok (.aload_n 0, 1) := by decide +kernel
theorem dX0_copyFrom_164 : decode cX0_copyFrom 164 = .ok (.getfield 40, 3) := by decide +kernel
theorem dX0_copyFrom_167 : decode cX0_copyFrom 167 = .ok (.iconst 0, 1) := by decide +kernel
theorem dX0_copyFrom_168 : decode cX0_copyFrom 168 = .ok (.bipush 20, 2) := by decide +kernel
theorem dX0_copyFrom_170 : decode cX0_copyFrom 170 = .ok (.invokestatic 74, 3) := by decide +kernel
theorem dX0_copyFrom_173 : decode cX0_copyFrom 173 = .ok (.aload_n 1, 1) := by decide +kernel
theorem dX0_copyFrom_174 : decode cX0_copyFrom 174 = .ok (.getfield 43, 3) := by decide +kernel
theorem dX0_copyFrom_177 : decode cX0_copyFrom 177 = .ok (.iconst 0, 1) := by decide +kernel
theorem dX0_copyFrom_178 : decode cX0_copyFrom 178 = .ok (.aload_n 0, 1) := by decide +kernel
theorem dX0_copyFrom_179 : decode cX0_copyFrom 179 = .ok (.getfield 43, 3) := by decide +kernel
theorem dX0_copyFrom_182 : decode cX0_copyFrom 182 = .ok (.iconst 0, 1) := by decide +kernel
theorem dX0_copyFrom_183 : decode cX0_copyFrom 183 = .ok (.bipush 20, 2) := by decide +kernel
theorem dX0_copyFrom_185 : decode cX0_copyFrom 185 = .ok (.invokestatic 74, 3) := by decide +kernel
theorem dX0_copyFrom_188 : decode cX0_copyFrom 188 = .ok (.aload_n 1, 1) := by decide +kernel
theorem dX0_copyFrom_189 : decode cX0_copyFrom 189 = .ok (.getfield 46, 3) := by decide +kernel
theorem dX0_copyFrom_192 : decode cX0_copyFrom 192 = .ok (.iconst 0, 1) := by decide +kernel
theorem dX0_copyFrom_193 : decode cX0_copyFrom 193 = .ok (.aload_n 0, 1) := by decide +kernel
theorem dX0_copyFrom_194 : decode cX0_copyFrom 194 = .ok (.getfield 46, 3) := by decide +kernel
theorem dX0_copyFrom_197 : decode cX0_copyFrom 197 = .ok (.iconst 0, 1) := by decide +kernel
theorem dX0_copyFrom_198 : decode cX0_copyFrom 198 = .ok (.bipush 20, 2) := by decide +kernel
theorem dX0_copyFrom_200 : decode cX0_copyFrom 200 = .ok (.invokestatic 74, 3) := by decide +kernel
theorem dX0_copyFrom_203 : decode cX0_copyFrom 203 = .ok (.aload_n 1, 1) := by decide +kernel
theorem dX0_copyFrom_204 : decode cX0_copyFrom 204 = .ok (.getfield 49, 3) := by decide +kernel
theorem dX0_copyFrom_207 : decode cX0_copyFrom 207 = .ok (.iconst 0, 1) := by decide +kernel
theorem dX0_copyFrom_208 : decode cX0_copyFrom 208 = .ok (.aload_n 0, 1) := by decide +kernel
theorem dX0_copyFrom_209 : decode cX0_copyFrom 209 = .ok (.getfield 49, 3) := by decide +kernel
theorem dX0_copyFrom_212 : decode cX0_copyFrom 212 = .ok (.iconst 0, 1) := by decide +kernel
theorem dX0_copyFrom_213 : decode cX0_copyFrom 213 = .ok (.bipush 20, 2) := by decide +kernel
theorem dX0_copyFrom_215 : decode cX0_copyFrom 215 = .ok (.invokestatic 74, 3) := by decide +kernel
theorem dX0_copyFrom_218 : decode cX0_copyFrom 218 = .ok (.aload_n 1, 1) := by decide +kernel
theorem dX0_copyFrom_219 : decode cX0_copyFrom 219 = .ok (.getfield 52, 3) := by decide +kernel
theorem dX0_copyFrom_222 : decode cX0_copyFrom 222 = .ok (.iconst 0, 1) := by decide +kernel
theorem dX0_copyFrom_223 : decode cX0_copyFrom 223 = .ok (.aload_n 0, 1) := by decide +kernel
theorem dX0_copyFrom_224 : decode cX0_copyFrom 224 = .ok (.getfield 52, 3) := by decide +kernel
theorem dX0_copyFrom_227 : decode cX0_copyFrom 227 = .ok (.iconst 0, 1) := by decide +kernel
theorem dX0_copyFrom_228 : decode cX0_copyFrom 228 = .ok (.bipush 20, 2) := by decide +kernel
theorem dX0_copyFrom_230 : decode cX0_copyFrom 230 = .ok (.invokestatic 74, 3) := by decide +kernel
theorem dX0_copyFrom_233 : decode cX0_copyFrom 233 = .ok (.return_, 1) := by decide +kernel
theorem dX0_addPurchase_0 : decode cX0_addPurchase 0 = .ok (.aload_n 0, 1) := by decide +kernel
theorem dX0_addPurchase_1 : decode cX0_addPurchase 1 = .ok (.getfield 68, 3) := by decide +kernel
theorem dX0_addPurchase_4 : decode cX0_addPurchase 4 = .ok (.istore 4, 2) := by decide +kernel
theorem dX0_addPurchase_6 : decode cX0_addPurchase 6 = .ok (.iload 4, 2) := by decide +kernel
theorem dX0_addPurchase_8 : decode cX0_addPurchase 8 = .ok (.bipush 24, 2) := by decide +kernel
theorem dX0_addPurchase_10 : decode cX0_addPurchase 10 = .ok (.if_icmp .ge 56, 3) := by decide +kernel
theorem dX0_addPurchase_13 : decode cX0_addPurchase 13 = .ok (.aload_n 0, 1) := by decide +kernel
theorem dX0_addPurchase_14 : decode cX0_addPurchase 14 = .ok (.getfield 22, 3) := by decide +kernel
theorem dX0_addPurchase_17 : decode cX0_addPurchase 17 = .ok (.iload 4, 2) := by decide +kernel
theorem dX0_addPurchase_19 : decode cX0_addPurchase 19 = .ok (.iload_n 1, 1) := by decide +kernel
theorem dX0_addPurchase_20 : decode cX0_addPurchase 20 = .ok (.iastore, 1) := by decide +kernel
theorem dX0_addPurchase_21 : decode cX0_addPurchase 21 = .ok (.aload_n 0, 1) := by decide +kernel
theorem dX0_addPurchase_22 : decode cX0_addPurchase 22 = .ok (.getfield 25, 3) := by decide +kernel
theorem dX0_addPurchase_25 : decode cX0_addPurchase 25 = .ok (.iload 4, 2) := by decide +kernel
theorem dX0_addPurchase_27 : decode cX0_addPurchase 27 = .ok (.iload_n 2, 1) := by decide +kernel
theorem dX0_addPurchase_28 : decode cX0_addPurchase 28 = .ok (.iastore, 1) := by decide +kernel
theorem dX0_addPurchase_29 : decode cX0_addPurchase 29 = .ok (.aload_n 0, 1) := by decide +kernel
theorem dX0_addPurchase_30 : decode cX0_addPurchase 30 = .ok (.getfield 28, 3) := by decide +kernel
theorem dX0_addPurchase_33 : decode cX0_addPurchase 33 = .ok (.iload 4, 2) := by decide +kernel
theorem dX0_addPurchase_35 : decode cX0_addPurchase 35 = .ok (.iload_n 3, 1) := by decide +kernel
theorem dX0_addPurchase_36 : decode cX0_addPurchase 36 = .ok (.iastore, 1) := by decide +kernel
theorem dX0_addPurchase_37 : decode cX0_addPurchase 37 = .ok (.aload_n 0, 1) := by decide +kernel
theorem dX0_addPurchase_38 : decode cX0_addPurchase 38 = .ok (.getfield 31, 3) := by decide +kernel
theorem dX0_addPurchase_41 : decode cX0_addPurchase 41 = .ok (.iload 4, 2) := by decide +kernel
theorem dX0_addPurchase_43 : decode cX0_addPurchase 43 = .ok (.aload_n 0, 1) := by decide +kernel
theorem dX0_addPurchase_44 : decode cX0_addPurchase 44 = .ok (.getfield 55, 3) := by decide +kernel
theorem dX0_addPurchase_47 : decode cX0_addPurchase 47 = .ok (.iastore, 1) := by decide +kernel
theorem dX0_addPurchase_48 : decode cX0_addPurchase 48 = .ok (.aload_n 0, 1) := by decide +kernel
theorem dX0_addPurchase_49 : decode cX0_addPurchase 49 = .ok (.dup, 1) := by decide +kernel
theorem dX0_addPurchase_50 : decode cX0_addPurchase 50 = .ok (.getfield 68, 3) := by decide +kernel
theorem dX0_addPurchase_53 : decode cX0_addPurchase 53 = .ok (.iconst 1, 1) := by decide +kernel
theorem dX0_addPurchase_54 : decode cX0_addPurchase 54 = .ok (.iadd, 1) := by decide +kernel
theorem dX0_addPurchase_55 : decode cX0_addPurchase 55 = .ok (.putfield 68, 3) := by decide +kernel
theorem dX0_addPurchase_58 : decode cX0_addPurchase 58 = .ok (.aload_n 0, 1) := by decide +kernel
theorem dX0_addPurchase_59 : decode cX0_addPurchase 59 = .ok (.iload 4, 2) := by decide +kernel
theorem dX0_addPurchase_61 : decode cX0_addPurchase 61 = .ok (.iload_n 3, 1) := by decide +kernel
theorem dX0_addPurchase_62 : decode cX0_addPurchase 62 = .ok (.iconst 0, 1) := by decide +kernel
theorem dX0_addPurchase_63 : decode cX0_addPurchase 63 = .ok (.invokevirtual 80, 3) := by decide +kernel
theorem dX0_addPurchase_66 : decode cX0_addPurchase 66 = .ok (.iload 4, 2) := by decide +kernel
theorem dX0_addPurchase_68 : decode cX0_addPurchase 68 = .ok (.ireturn, 1) := by decide +kernel
theorem dX0_addDispute_0 : decode cX0_addDispute 0 = .ok (.aload_n 0, 1) := by decide +kernel
theorem dX0_addDispute_1 : decode cX0_addDispute 1 = .ok (.getfield 71, 3) := by decide +kernel
theorem dX0_addDispute_4 : decode cX0_addDispute 4 = .ok (.istore 4, 2) := by decide +kernel
theorem dX0_addDispute_6 : decode cX0_addDispute 6 = .ok (.iload 4, 2) := by decide +kernel
theorem dX0_addDispute_8 : decode cX0_addDispute 8 = .ok (.bipush 20, 2) := by decide +kernel
theorem dX0_addDispute_10 : decode cX0_addDispute 10 = .ok (.if_icmp .ge 107, 3) := by decide +kernel
theorem dX0_addDispute_13 : decode cX0_addDispute 13 = .ok (.aload_n 0, 1) := by decide +kernel
theorem dX0_addDispute_14 : decode cX0_addDispute 14 = .ok (.getfield 34, 3) := by decide +kernel
theorem dX0_addDispute_17 : decode cX0_addDispute 17 = .ok (.iload 4, 2) := by decide +kernel
theorem dX0_addDispute_19 : decode cX0_addDispute 19 = .ok (.iload_n 1, 1) := by decide +kernel
theorem dX0_addDispute_20 : decode cX0_addDispute 20 = .ok (.iastore, 1) := by decide +kernel
theorem dX0_addDispute_21 : decode cX0_addDispute 21 = .ok (.aload_n 0, 1) := by decide +kernel
theorem dX0_addDispute_22 : decode cX0_addDispute 22 = .ok (.getfield 37, 3) := by decide +kernel
theorem dX0_addDispute_25 : decode cX0_addDispute 25 = .ok (.iload 4, 2) := by decide +kernel
theorem dX0_addDispute_27 : decode cX0_addDispute 27 = .ok (.iload_n 2, 1) := by decide +kernel
theorem dX0_addDispute_28 : decode cX0_addDispute 28 = .ok (.iastore, 1) := by decide +kernel
theorem dX0_addDispute_29 : decode cX0_addDispute 29 = .ok (.aload_n 0, 1) := by decide +kernel
theorem dX0_addDispute_30 : decode cX0_addDispute 30 = .ok (.getfield 40, 3) := by decide +kernel
theorem dX0_addDispute_33 : decode cX0_addDispute 33 = .ok (.iload 4, 2) := by decide +kernel
theorem dX0_addDispute_35 : decode cX0_addDispute 35 = .ok (.iload_n 3, 1) := by decide +kernel
theorem dX0_addDispute_36 : decode cX0_addDispute 36 = .ok (.iastore, 1) := by decide +kernel
theorem dX0_addDispute_37 : decode cX0_addDispute 37 = .ok (.aload_n 0, 1) := by decide +kernel
theorem dX0_addDispute_38 : decode cX0_addDispute 38 = .ok (.getfield 43, 3) := by decide +kernel
theorem dX0_addDispute_41 : decode cX0_addDispute 41 = .ok (.iload 4, 2) := by decide +kernel
theorem dX0_addDispute_43 : decode cX0_addDispute 43 = .ok (.aload_n 0, 1) := by decide +kernel
theorem dX0_addDispute_44 : decode cX0_addDispute 44 = .ok (.getfield 55, 3) := by decide +kernel
theorem dX0_addDispute_47 : decode cX0_addDispute 47 = .ok (.iastore, 1) := by decide +kernel
theorem dX0_addDispute_48 : decode cX0_addDispute 48 = .ok (.aload_n 0, 1) := by decide +kernel
theorem dX0_addDispute_49 : decode cX0_addDispute 49 = .ok (.getfield 46, 3) := by decide +kernel
theorem dX0_addDispute_52 : decode cX0_addDispute 52 = .ok (.iload 4, 2) := by decide +kernel
theorem dX0_addDispute_54 : decode cX0_addDispute 54 = .ok (.iconst 0, 1) := by decide +kernel
theorem dX0_addDispute_55 : decode cX0_addDispute 55 = .ok (.iastore, 1) := by decide +kernel
theorem dX0_addDispute_56 : decode cX0_addDispute 56 = .ok (.aload_n 0, 1) := by decide +kernel
theorem dX0_addDispute_57 : decode cX0_addDispute 57 = .ok (.getfield 49, 3) := by decide +kernel
theorem dX0_addDispute_60 : decode cX0_addDispute 60 = .ok (.iload 4, 2) := by decide +kernel
theorem dX0_addDispute_62 : decode cX0_addDispute 62 = .ok (.iconst 0, 1) := by decide +kernel
theorem dX0_addDispute_63 : decode cX0_addDispute 63 = .ok (.iastore, 1) := by decide +kernel
theorem dX0_addDispute_64 : decode cX0_addDispute 64 = .ok (.aload_n 0, 1) := by decide +kernel
theorem dX0_addDispute_65 : decode cX0_addDispute 65 = .ok (.getfield 52, 3) := by decide +kernel
theorem dX0_addDispute_68 : decode cX0_addDispute 68 = .ok (.iload 4, 2) := by decide +kernel
theorem dX0_addDispute_70 : decode cX0_addDispute 70 = .ok (.aload_n 0, 1) := by decide +kernel
theorem dX0_addDispute_71 : decode cX0_addDispute 71 = .ok (.getfield 55, 3) := by decide +kernel
theorem dX0_addDispute_74 : decode cX0_addDispute 74 = .ok (.aload_n 0, 1) := by decide +kernel
theorem dX0_addDispute_75 : decode cX0_addDispute 75 = .ok (.getfield 9, 3) := by decide +kernel
theorem dX0_addDispute_78 : decode cX0_addDispute 78 = .ok (.getfield 84, 3) := by decide +kernel
theorem dX0_addDispute_81 : decode cX0_addDispute 81 = .ok (.iload_n 2, 1) := by decide +kernel
theorem dX0_addDispute_82 : decode cX0_addDispute 82 = .ok (.iaload, 1) := by decide +kernel
theorem dX0_addDispute_83 : decode cX0_addDispute 83 = .ok (.iadd, 1) := by decide +kernel
theorem dX0_addDispute_84 : decode cX0_addDispute 84 = .ok (.iastore, 1) := by decide +kernel
theorem dX0_addDispute_85 : decode cX0_addDispute 85 = .ok (.aload_n 0, 1) := by decide +kernel
theorem dX0_addDispute_86 : decode cX0_addDispute 86 = .ok (.dup, 1) := by decide +kernel
theorem dX0_addDispute_87 : decode cX0_addDispute 87 = .ok (.getfield 71, 3) := by decide +kernel
theorem dX0_addDispute_90 : decode cX0_addDispute 90 = .ok (.iconst 1, 1) := by decide +kernel
theorem dX0_addDispute_91 : decode cX0_addDispute 91 = .ok (.iadd, 1) := by decide +kernel
theorem dX0_addDispute_92 : decode cX0_addDispute 92 = .ok (.putfield 71, 3) := by decide +kernel
theorem dX0_addDispute_95 : decode cX0_addDispute 95 = .ok (.aload_n 0, 1) := by decide +kernel
theorem dX0_addDispute_96 : decode cX0_addDispute 96 = .ok (.iload_n 1, 1) := by decide +kernel
theorem dX0_addDispute_97 : decode cX0_addDispute 97 = .ok (.iload_n 3, 1) := by decide +kernel
theorem dX0_addDispute_98 : decode cX0_addDispute 98 = .ok (.ineg, 1) := by decide +kernel
theorem dX0_addDispute_99 : decode cX0_addDispute 99 = .ok (.aload_n 0, 1) := by decide +kernel
theorem dX0_addDispute_100 : decode cX0_addDispute 100 = .ok (.getfield 9, 3) := by decide +kernel
theorem dX0_addDispute_103 : decode cX0_addDispute 103 = .ok (.getfield 89, 3) := by decide +kernel
theorem dX0_addDispute_106 : decode cX0_addDispute 106 = .ok (.isub, 1) := by decide +kernel
theorem dX0_addDispute_107 : decode cX0_addDispute 107 = .ok (.aload_n 0, 1) := by decide +kernel
theorem dX0_addDispute_108 : decode cX0_addDispute 108 = .ok (.getfield 9, 3) := by decide +kernel
theorem dX0_addDispute_111 : decode cX0_addDispute 111 = .ok (.getfield 89, 3) := by decide +kernel
theorem dX0_addDispute_114 : decode cX0_addDispute 114 = .ok (.invokevirtual 80, 3) := by decide +kernel
theorem dX0_addDispute_117 : decode cX0_addDispute 117 = .ok (.iload 4, 2) := by decide +kernel
theorem dX0_addDispute_119 : decode cX0_addDispute 119 = .ok (.ireturn, 1) := by decide +kernel
theorem dX0_toRepresented_0 : decode cX0_toRepresented 0 = .ok (.aload_n 0, 1) := by decide +kernel
theorem dX0_toRepresented_1 : decode cX0_toRepresented 1 = .ok (.getfield 46, 3) := by decide +kernel
theorem dX0_toRepresented_4 : decode cX0_toRepresented 4 = .ok (.iload_n 1, 1) := by decide +kernel
theorem dX0_toRepresented_5 : decode cX0_toRepresented 5 = .ok (.dup2, 1) := by decide +kernel
theorem dX0_toRepresented_6 : decode cX0_toRepresented 6 = .ok (.iaload, 1) := by decide +kernel
theorem dX0_toRepresented_7 : decode cX0_toRepresented 7 = .ok (.iload_n 2, 1) := by decide +kernel
theorem dX0_toRepresented_8 : decode cX0_toRepresented 8 = .ok (.ior, 1) := by decide +kernel
theorem dX0_toRepresented_9 : decode cX0_toRepresented 9 = .ok (.iastore, 1) := by decide +kernel
theorem dX0_toRepresented_10 : decode cX0_toRepresented 10 = .ok (.aload_n 0, 1) := by decide +kernel
theorem dX0_toRepresented_11 : decode cX0_toRepresented 11 = .ok (.getfield 49, 3) := by decide +kernel
theorem dX0_toRepresented_14 : decode cX0_toRepresented 14 = .ok (.iload_n 1, 1) := by decide +kernel
theorem dX0_toRepresented_15 : decode cX0_toRepresented 15 = .ok (.iconst 1, 1) := by decide +kernel
theorem dX0_toRepresented_16 : decode cX0_toRepresented 16 = .ok (.iastore, 1) := by decide +kernel
theorem dX0_toRepresented_17 : decode cX0_toRepresented 17 = .ok (.aload_n 0, 1) := by decide +kernel
theorem dX0_toRepresented_18 : decode cX0_toRepresented 18 = .ok (.getfield 52, 3) := by decide +kernel
theorem dX0_toRepresented_21 : decode cX0_toRepresented 21 = .ok (.iload_n 1, 1) := by decide +kernel
theorem dX0_toRepresented_22 : decode cX0_toRepresented 22 = .ok (.aload_n 0, 1) := by decide +kernel
theorem dX0_toRepresented_23 : decode cX0_toRepresented 23 = .ok (.getfield 55, 3) := by decide +kernel
theorem dX0_toRepresented_26 : decode cX0_toRepresented 26 = .ok (.aload_n 0, 1) := by decide +kernel
theorem dX0_toRepresented_27 : decode cX0_toRepresented 27 = .ok (.getfield 9, 3) := by decide +kernel
theorem dX0_toRepresented_30 : decode cX0_toRepresented 30 = .ok (.getfield 92, 3) := by decide +kernel
theorem dX0_toRepresented_33 : decode cX0_toRepresented 33 = .ok (.aload_n 0, 1) := by decide +kernel
theorem dX0_toRepresented_34 : decode cX0_toRepresented 34 = .ok (.getfield 37, 3) := by decide +kernel
theorem dX0_toRepresented_37 : decode cX0_toRepresented 37 = .ok (.iload_n 1, 1) := by decide +kernel
theorem dX0_toRepresented_38 : decode cX0_toRepresented 38 = .ok (.iaload, 1) := by decide +kernel
theorem dX0_toRepresented_39 : decode cX0_toRepresented 39 = .ok (.iaload, 1) := by decide +kernel
theorem dX0_toRepresented_40 : decode cX0_toRepresented 40 = .ok (.iadd, 1) := by decide +kernel
theorem dX0_toRepresented_41 : decode cX0_toRepresented 41 = .ok (.iastore, 1) := by decide +kernel
theorem dX0_toRepresented_42 : decode cX0_toRepresented 42 = .ok (.aload_n 0, 1) := by decide +kernel
theorem dX0_toRepresented_43 : decode cX0_toRepresented 43 = .ok (.aload_n 0, 1) := by decide +kernel
theorem dX0_toRepresented_44 : decode cX0_toRepresented 44 = .ok (.getfield 34, 3) := by decide +kernel
theorem dX0_toRepresented_47 : decode cX0_toRepresented 47 = .ok (.iload_n 1, 1) := by decide +kernel
theorem dX0_toRepresented_48 : decode cX0_toRepresented 48 = .ok (.iaload, 1) := by decide +kernel
theorem dX0_toRepresented_49 : decode cX0_toRepresented 49 = .ok (.aload_n 0, 1) := by decide +kernel
theorem dX0_toRepresented_50 : decode cX0_toRepresented 50 = .ok (.getfield 40, 3) := by decide +kernel
theorem dX0_toRepresented_53 : decode cX0_toRepresented 53 = .ok (.iload_n 1, 1) := by decide +kernel
theorem dX0_toRepresented_54 : decode cX0_toRepresented 54 = .ok (.iaload, 1) := by decide +kernel
theorem dX0_toRepresented_55 : decode cX0_toRepresented 55 = .ok (.iconst 0, 1) := by decide +kernel
theorem dX0_toRepresented_56 : decode cX0_toRepresented 56 = .ok (.invokevirtual 80, 3) := by decide +kernel
theorem dX0_toRepresented_59 : decode cX0_toRepresented 59 = .ok (.return_, 1) := by decide +kernel
theorem dX0_toEscalated_0 : decode cX0_toEscalated 0 = .ok (.aload_n 0, 1) := by decide +kernel
theorem dX0_toEscalated_1 : decode cX0_toEscalated 1 = .ok (.getfield 49, 3) := by decide +kernel
theorem dX0_toEscalated_4 : decode cX0_toEscalated 4 = .ok (.iload_n 1, 1) := by decide +kernel
theorem dX0_toEscalated_5 : decode cX0_toEscalated 5 = .ok (.iconst 2, 1) := by decide +kernel
theorem dX0_toEscalated_6 : decode cX0_toEscalated 6 = .ok (.iastore, 1) := by decide +kernel
theorem dX0_toEscalated_7 : decode cX0_toEscalated 7 = .ok (.aload_n 0, 1) := by decide +kernel
theorem dX0_toEscalated_8 : decode cX0_toEscalated 8 = .ok (.getfield 52, 3) := by decide +kernel
theorem dX0_toEscalated_11 : decode cX0_toEscalated 11 = .ok (.iload_n 1, 1) := by decide +kernel
theorem dX0_toEscalated_12 : decode cX0_toEscalated 12 = .ok (.aload_n 0, 1) := by decide +kernel
theorem dX0_toEscalated_13 : decode cX0_toEscalated 13 = .ok (.getfield 55, 3) := by decide +kernel
theorem dX0_toEscalated_16 : decode cX0_toEscalated 16 = .ok (.aload_n 0, 1) := by decide +kernel
theorem dX0_toEscalated_17 : decode cX0_toEscalated 17 = .ok (.getfield 9, 3) := by decide +kernel
theorem dX0_toEscalated_20 : decode cX0_toEscalated 20 = .ok (.getfield 84, 3) := by decide +kernel
theorem dX0_toEscalated_23 : decode cX0_toEscalated 23 = .ok (.aload_n 0, 1) := by decide +kernel
theorem dX0_toEscalated_24 : decode cX0_toEscalated 24 = .ok (.getfield 37, 3) := by decide +kernel
theorem dX0_toEscalated_27 : decode cX0_toEscalated 27 = .ok (.iload_n 1, 1) := by decide +kernel
theorem dX0_toEscalated_28 : decode cX0_toEscalated 28 = .ok (.iaload, 1) := by decide +kernel
theorem dX0_toEscalated_29 : decode cX0_toEscalated 29 = .ok (.iaload, 1) := by decide +kernel
theorem dX0_toEscalated_30 : decode cX0_toEscalated 30 = .ok (.iadd, 1) := by decide +kernel
theorem dX0_toEscalated_31 : decode cX0_toEscalated 31 = .ok (.iastore, 1) := by decide +kernel
theorem dX0_toEscalated_32 : decode cX0_toEscalated 32 = .ok (.aload_n 0, 1) := by decide +kernel
theorem dX0_toEscalated_33 : decode cX0_toEscalated 33 = .ok (.aload_n 0, 1) := by decide +kernel
theorem dX0_toEscalated_34 : decode cX0_toEscalated 34 = .ok (.getfield 34, 3) := by decide +kernel
theorem dX0_toEscalated_37 : decode cX0_toEscalated 37 = .ok (.iload_n 1, 1) := by decide +kernel
theorem dX0_toEscalated_38 : decode cX0_toEscalated 38 = .ok (.iaload, 1) := by decide +kernel
theorem dX0_toEscalated_39 : decode cX0_toEscalated 39 = .ok (.aload_n 0, 1) := by decide +kernel
theorem dX0_toEscalated_40 : decode cX0_toEscalated 40 = .ok (.getfield 40, 3) := by decide +kernel
theorem dX0_toEscalated_43 : decode cX0_toEscalated 43 = .ok (.iload_n 1, 1) := by decide +kernel
theorem dX0_toEscalated_44 : decode cX0_toEscalated 44 = .ok (.iaload, 1) := by decide +kernel
theorem dX0_toEscalated_45 : decode cX0_toEscalated 45 = .ok (.ineg, 1) := by decide +kernel
theorem dX0_toEscalated_46 : decode cX0_toEscalated 46 = .ok (.iconst 0, 1) := by decide +kernel
theorem dX0_toEscalated_47 : decode cX0_toEscalated 47 = .ok (.invokevirtual 80, 3) := by decide +kernel
theorem dX0_toEscalated_50 : decode cX0_toEscalated 50 = .ok (.return_, 1) := by decide +kernel
theorem dX0_toArbitration_0 : decode cX0_toArbitration 0 = .ok (.aload_n 0, 1) := by decide +kernel
theorem dX0_toArbitration_1 : decode cX0_toArbitration 1 = .ok (.getfield 46, 3) := by decide +kernel
theorem dX0_toArbitration_4 : decode cX0_toArbitration 4 = .ok (.iload_n 1, 1) := by decide +kernel
theorem dX0_toArbitration_5 : decode cX0_toArbitration 5 = .ok (.dup2, 1) := by decide +kernel
theorem dX0_toArbitration_6 : decode cX0_toArbitration 6 = .ok (.iaload, 1) := by decide +kernel
theorem dX0_toArbitration_7 : decode cX0_toArbitration 7 = .ok (.iload_n 2, 1) := by decide +kernel
theorem dX0_toArbitration_8 : decode cX0_toArbitration 8 = .ok (.ior, 1) := by decide +kernel
theorem dX0_toArbitration_9 : decode cX0_toArbitration 9 = .ok (.iastore, 1) := by decide +kernel
theorem dX0_toArbitration_10 : decode cX0_toArbitration 10 = .ok (.aload_n 0, 1) := by decide +kernel
theorem dX0_toArbitration_11 : decode cX0_toArbitration 11 = .ok (.getfield 49, 3) := by decide +kernel
theorem dX0_toArbitration_14 : decode cX0_toArbitration 14 = .ok (.iload_n 1, 1) := by decide +kernel
theorem dX0_toArbitration_15 : decode cX0_toArbitration 15 = .ok (.iconst 3, 1) := by decide +kernel
theorem dX0_toArbitration_16 : decode cX0_toArbitration 16 = .ok (.iastore, 1) := by decide +kernel
theorem dX0_toArbitration_17 : decode cX0_toArbitration 17 = .ok (.aload_n 0, 1) := by decide +kernel
theorem dX0_toArbitration_18 : decode cX0_toArbitration 18 = .ok (.getfield 52, 3) := by decide +kernel
theorem dX0_toArbitration_21 : decode cX0_toArbitration 21 = .ok (.iload_n 1, 1) := by decide +kernel
theorem dX0_toArbitration_22 : decode cX0_toArbitration 22 = .ok (.aload_n 0, 1) := by decide +kernel
theorem dX0_toArbitration_23 : decode cX0_toArbitration 23 = .ok (.getfield 55, 3) := by decide +kernel
theorem dX0_toArbitration_26 : decode cX0_toArbitration 26 = .ok (.bipush 10, 2) := by decide +kernel
theorem dX0_toArbitration_28 : decode cX0_toArbitration 28 = .ok (.iadd, 1) := by decide +kernel
theorem dX0_toArbitration_29 : decode cX0_toArbitration 29 = .ok (.iastore, 1) := by decide +kernel
theorem dX0_toArbitration_30 : decode cX0_toArbitration 30 = .ok (.return_, 1) := by decide +kernel
theorem dX0_finish_0 : decode cX0_finish 0 = .ok (.aload_n 0, 1) := by decide +kernel
theorem dX0_finish_1 : decode cX0_finish 1 = .ok (.getfield 49, 3) := by decide +kernel
theorem dX0_finish_4 : decode cX0_finish 4 = .ok (.iload_n 1, 1) := by decide +kernel
theorem dX0_finish_5 : decode cX0_finish 5 = .ok (.iaload, 1) := by decide +kernel
theorem dX0_finish_6 : decode cX0_finish 6 = .ok (.iconst 3, 1) := by decide +kernel
theorem dX0_finish_7 : decode cX0_finish 7 = .ok (.if_icmp .ne 13, 3) := by decide +kernel
theorem dX0_finish_10 : decode cX0_finish 10 = .ok (.aload_n 0, 1) := by decide +kernel
theorem dX0_finish_11 : decode cX0_finish 11 = .ok (.getfield 9, 3) := by decide +kernel
theorem dX0_finish_14 : decode cX0_finish 14 = .ok (.getfield 95, 3) := by decide +kernel
theorem dX0_finish_17 : decode cX0_finish 17 = .ok (.goto 4, 3) := by decide +kernel
theorem dX0_finish_20 : decode cX0_finish 20 = .ok (.iconst 0, 1) := by decide +kernel
theorem dX0_finish_21 : decode cX0_finish 21 = .ok (.istore_n 3, 1) := by decide +kernel
theorem dX0_finish_22 : decode cX0_finish 22 = .ok (.aload_n 0, 1) := by decide +kernel
theorem dX0_finish_23 : decode cX0_finish 23 = .ok (.aload_n 0, 1) := by decide +kernel
theorem dX0_finish_24 : decode cX0_finish 24 = .ok (.getfield 34, 3) := by decide +kernel
theorem dX0_finish_27 : decode cX0_finish 27 = .ok (.iload_n 1, 1) := by decide +kernel
theorem dX0_finish_28 : decode cX0_finish 28 = .ok (.iaload, 1) := by decide +kernel
theorem dX0_finish_29 : decode cX0_finish 29 = .ok (.aload_n 0, 1) := by decide +kernel
theorem dX0_finish_30 : decode cX0_finish 30 = .ok (.iload_n 1, 1) := by decide +kernel
theorem dX0_finish_31 : decode cX0_finish 31 = .ok (.iload_n 2, 1) := by decide +kernel
theorem dX0_finish_32 : decode cX0_finish 32 = .ok (.invokevirtual 98, 3) := by decide +kernel
theorem dX0_finish_35 : decode cX0_finish 35 = .ok (.iload_n 3, 1) := by decide +kernel
theorem dX0_finish_36 : decode cX0_finish 36 = .ok (.invokevirtual 80, 3) := by decide +kernel
theorem dX0_finish_39 : decode cX0_finish 39 = .ok (.aload_n 0, 1) := by decide +kernel
theorem dX0_finish_40 : decode cX0_finish 40 = .ok (.getfield 49, 3) := by decide +kernel
theorem dX0_finish_43 : decode cX0_finish 43 = .ok (.iload_n 1, 1) := by decide +kernel
theorem dX0_finish_44 : decode cX0_finish 44 = .ok (.iload_n 2, 1) := by decide +kernel
theorem dX0_finish_45 : decode cX0_finish 45 = .ok (.iastore, 1) := by decide +kernel
theorem dX0_finish_46 : decode cX0_finish 46 = .ok (.aload_n 0, 1) := by decide +kernel
theorem dX0_finish_47 : decode cX0_finish 47 = .ok (.getfield 52, 3) := by decide +kernel
theorem dX0_finish_50 : decode cX0_finish 50 = .ok (.iload_n 1, 1) := by decide +kernel
theorem dX0_finish_51 : decode cX0_finish 51 = .ok (.iconst (-1), 1) := by decide +kernel
theorem dX0_finish_52 : decode cX0_finish 52 = .ok (.iastore, 1) := by decide +kernel
theorem dX0_finish_53 : decode cX0_finish 53 = .ok (.return_, 1) := by decide +kernel
theorem dX0_endDay_0 : decode cX0_endDay 0 = .ok (.aload_n 0, 1) := by decide +kernel
theorem dX0_endDay_1 : decode cX0_endDay 1 = .ok (.dup, 1) := by decide +kernel
theorem dX0_endDay_2 : decode cX0_endDay 2 = .ok (.getfield 55, 3) := by decide +kernel
theorem dX0_endDay_5 : decode cX0_endDay 5 = .ok (.iconst 1, 1) := by decide +kernel
theorem dX0_endDay_6 : decode cX0_endDay 6 = .ok (.iadd, 1) := by decide +kernel
theorem dX0_endDay_7 : decode cX0_endDay 7 = .ok (.putfield 55, 3) := by decide +kernel
theorem dX0_endDay_10 : decode cX0_endDay 10 = .ok (.iconst 0, 1) := by decide +kernel
theorem dX0_endDay_11 : decode cX0_endDay 11 = .ok (.istore_n 1, 1) := by decide +kernel
theorem dX0_endDay_12 : decode cX0_endDay 12 = .ok (.iconst 0, 1) := by decide +kernel
theorem dX0_endDay_13 : decode cX0_endDay 13 = .ok (.istore_n 2, 1) := by decide +kernel
theorem dX0_endDay_14 : decode cX0_endDay 14 = .ok (.iload_n 2, 1) := by decide +kernel
theorem dX0_endDay_15 : decode cX0_endDay 15 = .ok (.aload_n 0, 1) := by decide +kernel
theorem dX0_endDay_16 : decode cX0_endDay 16 = .ok (.getfield 71, 3) := by decide +kernel
theorem dX0_endDay_19 : decode cX0_endDay 19 = .ok (.if_icmp .ge 43, 3) := by decide +kernel
theorem dX0_endDay_22 : decode cX0_endDay 22 = .ok (.aload_n 0, 1) := by decide +kernel
theorem dX0_endDay_23 : decode cX0_endDay 23 = .ok (.iload_n 2, 1) := by decide +kernel
theorem dX0_endDay_24 : decode cX0_endDay 24 = .ok (.invokevirtual 102, 3) := by decide +kernel
theorem dX0_endDay_27 : decode cX0_endDay 27 = .ok (.ifCond .ne 29, 3) := by decide +kernel
theorem dX0_endDay_30 : decode cX0_endDay 30 = .ok (.aload_n 0, 1) := by decide +kernel
theorem dX0_endDay_31 : decode cX0_endDay 31 = .ok (.getfield 52, 3) := by decide +kernel
theorem dX0_endDay_34 : decode cX0_endDay 34 = .ok (.iload_n 2, 1) := by decide +kernel
theorem dX0_endDay_35 : decode cX0_endDay 35 = .ok (.iaload, 1) := by decide +kernel
theorem dX0_endDay_36 : decode cX0_endDay 36 = .ok (.aload_n 0, 1) := by decide +kernel
theorem dX0_endDay_37 : decode cX0_endDay 37 = .ok (.getfield 55, 3) := by decide +kernel
theorem dX0_endDay_40 : decode cX0_endDay 40 = .ok (.if_icmp .ge 16, 3) := by decide +kernel
theorem dX0_endDay_43 : decode cX0_endDay 43 = .ok (.aload_n 0, 1) := by decide +kernel
theorem dX0_endDay_44 : decode cX0_endDay 44 = .ok (.iload_n 2, 1) := by decide +kernel
theorem dX0_endDay_45 : decode cX0_endDay 45 = .ok (.aload_n 0, 1) := by decide +kernel
theorem dX0_endDay_46 : decode cX0_endDay 46 = .ok (.iload_n 2, 1) := by decide +kernel
theorem dX0_endDay_47 : decode cX0_endDay 47 = .ok (.invokevirtual 106, 3) := by decide +kernel
theorem dX0_endDay_50 : decode cX0_endDay 50 = .ok (.invokevirtual 110, 3) := by decide +kernel
theorem dX0_endDay_53 : decode cX0_endDay 53 = .ok (.iinc 1 1, 3) := by decide +kernel
theorem dX0_endDay_56 : decode cX0_endDay 56 = .ok (.iinc 2 1, 3) := by decide +kernel
theorem dX0_endDay_59 : decode cX0_endDay 59 = .ok (.goto (-45), 3) := by decide +kernel
theorem dX0_endDay_62 : decode cX0_endDay 62 = .ok (.iload_n 1, 1) := by decide +kernel
theorem dX0_endDay_63 : decode cX0_endDay 63 = .ok (.ireturn, 1) := by decide +kernel
theorem dX0_idleOutcome_0 : decode cX0_idleOutcome 0 = .ok (.aload_n 0, 1) := by decide +kernel
theorem dX0_idleOutcome_1 : decode cX0_idleOutcome 1 = .ok (.getfield 49, 3) := by decide +kernel
theorem dX0_idleOutcome_4 : decode cX0_idleOutcome 4 = .ok (.iload_n 1, 1) := by decide +kernel
theorem dX0_idleOutcome_5 : decode cX0_idleOutcome 5 = .ok (.iaload, 1) := by decide +kernel
theorem dX0_idleOutcome_6 : decode cX0_idleOutcome 6 = .ok (.lookupswitch 48 #[(1, 26), (3, 28)], 26) := by decide +kernel
theorem dX0_idleOutcome_32 : decode cX0_idleOutcome 32 = .ok (.iconst 5, 1) := by decide +kernel
theorem dX0_idleOutcome_33 : decode cX0_idleOutcome 33 = .ok (.ireturn, 1) := by decide +kernel
theorem dX0_idleOutcome_34 : decode cX0_idleOutcome 34 = .ok (.aload_n 0, 1) := by decide +kernel
theorem dX0_idleOutcome_35 : decode cX0_idleOutcome 35 = .ok (.iload_n 1, 1) := by decide +kernel
theorem dX0_idleOutcome_36 : decode cX0_idleOutcome 36 = .ok (.aload_n 0, 1) := by decide +kernel
theorem dX0_idleOutcome_37 : decode cX0_idleOutcome 37 = .ok (.getfield 46, 3) := by decide +kernel
theorem dX0_idleOutcome_40 : decode cX0_idleOutcome 40 = .ok (.iload_n 1, 1) := by decide +kernel
theorem dX0_idleOutcome_41 : decode cX0_idleOutcome 41 = .ok (.iaload, 1) := by decide +kernel
theorem dX0_idleOutcome_42 : decode cX0_idleOutcome 42 = .ok (.invokevirtual 114, 3) := by decide +kernel
theorem dX0_idleOutcome_45 : decode cX0_idleOutcome 45 = .ok (.ifCond .eq 7, 3) := by decide +kernel
theorem dX0_idleOutcome_48 : decode cX0_idleOutcome 48 = .ok (.iconst 5, 1) := by decide +kernel
theorem dX0_idleOutcome_49 : decode cX0_idleOutcome 49 = .ok (.goto 4, 3) := by decide +kernel
theorem dX0_idleOutcome_52 : decode cX0_idleOutcome 52 = .ok (.iconst 4, 1) := by decide +kernel
theorem dX0_idleOutcome_53 : decode cX0_idleOutcome 53 = .ok (.ireturn, 1) := by decide +kernel
theorem dX0_idleOutcome_54 : decode cX0_idleOutcome 54 = .ok (.iconst 4, 1) := by decide +kernel
theorem dX0_idleOutcome_55 : decode cX0_idleOutcome 55 = .ok (.ireturn, 1) := by decide +kernel
theorem dX0_isFinal_0 : decode cX0_isFinal 0 = .ok (.aload_n 0, 1) := by decide +kernel
theorem dX0_isFinal_1 : decode cX0_isFinal 1 = .ok (.getfield 49, 3) := by decide +kernel
theorem dX0_isFinal_4 : decode cX0_isFinal 4 = .ok (.iload_n 1, 1) := by decide +kernel
theorem dX0_isFinal_5 : decode cX0_isFinal 5 = .ok (.iaload, 1) := by decide +kernel
theorem dX0_isFinal_6 : decode cX0_isFinal 6 = .ok (.iconst 4, 1) := by decide +kernel
theorem dX0_isFinal_7 : decode cX0_isFinal 7 = .ok (.if_icmp .eq 13, 3) := by decide +kernel
theorem dX0_isFinal_10 : decode cX0_isFinal 10 = .ok (.aload_n 0, 1) := by decide +kernel
theorem dX0_isFinal_11 : decode cX0_isFinal 11 = .ok (.getfield 49, 3) := by decide +kernel
theorem dX0_isFinal_14 : decode cX0_isFinal 14 = .ok (.iload_n 1, 1) := by decide +kernel
theorem dX0_isFinal_15 : decode cX0_isFinal 15 = .ok (.iaload, 1) := by decide +kernel
theorem dX0_isFinal_16 : decode cX0_isFinal 16 = .ok (.iconst 5, 1) := by decide +kernel
theorem dX0_isFinal_17 : decode cX0_isFinal 17 = .ok (.if_icmp .ne 7, 3) := by decide +kernel
theorem dX0_isFinal_20 : decode cX0_isFinal 20 = .ok (.iconst 1, 1) := by decide +kernel
theorem dX0_isFinal_21 : decode cX0_isFinal 21 = .ok (.goto 4, 3) := by decide +kernel
theorem dX0_isFinal_24 : decode cX0_isFinal 24 = .ok (.iconst 0, 1) := by decide +kernel
theorem dX0_isFinal_25 : decode cX0_isFinal 25 = .ok (.ireturn, 1) := by decide +kernel
theorem dX0_merchantHolds_0 : decode cX0_merchantHolds 0 = .ok (.aload_n 0, 1) := by decide +kernel
theorem dX0_merchantHolds_1 : decode cX0_merchantHolds 1 = .ok (.getfield 49, 3) := by decide +kernel
theorem dX0_merchantHolds_4 : decode cX0_merchantHolds 4 = .ok (.iload_n 1, 1) := by decide +kernel
theorem dX0_merchantHolds_5 : decode cX0_merchantHolds 5 = .ok (.iaload, 1) := by decide +kernel
theorem dX0_merchantHolds_6 : decode cX0_merchantHolds 6 = .ok (.iconst 1, 1) := by decide +kernel
theorem dX0_merchantHolds_7 : decode cX0_merchantHolds 7 = .ok (.if_icmp .eq 13, 3) := by decide +kernel
theorem dX0_merchantHolds_10 : decode cX0_merchantHolds 10 = .ok (.aload_n 0, 1) := by decide +kernel
theorem dX0_merchantHolds_11 : decode cX0_merchantHolds 11 = .ok (.getfield 49, 3) := by decide +kernel
theorem dX0_merchantHolds_14 : decode cX0_merchantHolds 14 = .ok (.iload_n 1, 1) := by decide +kernel
theorem dX0_merchantHolds_15 : decode cX0_merchantHolds 15 = .ok (.iaload, 1) := by decide +kernel
theorem dX0_merchantHolds_16 : decode cX0_merchantHolds 16 = .ok (.iconst 5, 1) := by decide +kernel
theorem dX0_merchantHolds_17 : decode cX0_merchantHolds 17 = .ok (.if_icmp .ne 7, 3) := by decide +kernel
theorem dX0_merchantHolds_20 : decode cX0_merchantHolds 20 = .ok (.iconst 1, 1) := by decide +kernel
theorem dX0_merchantHolds_21 : decode cX0_merchantHolds 21 = .ok (.goto 4, 3) := by decide +kernel
theorem dX0_merchantHolds_24 : decode cX0_merchantHolds 24 = .ok (.iconst 0, 1) := by decide +kernel
theorem dX0_merchantHolds_25 : decode cX0_merchantHolds 25 = .ok (.ireturn, 1) := by decide +kernel
theorem dX0_isTooLate_0 : decode cX0_isTooLate 0 = .ok (.aload_n 0, 1) := by decide +kernel
theorem dX0_isTooLate_1 : decode cX0_isTooLate 1 = .ok (.getfield 55, 3) := by decide +kernel
theorem dX0_isTooLate_4 : decode cX0_isTooLate 4 = .ok (.aload_n 0, 1) := by decide +kernel
theorem dX0_isTooLate_5 : decode cX0_isTooLate 5 = .ok (.getfield 31, 3) := by decide +kernel
theorem dX0_isTooLate_8 : decode cX0_isTooLate 8 = .ok (.iload_n 1, 1) := by decide +kernel
theorem dX0_isTooLate_9 : decode cX0_isTooLate 9 = .ok (.iaload, 1) := by decide +kernel
theorem dX0_isTooLate_10 : decode cX0_isTooLate 10 = .ok (.aload_n 0, 1) := by decide +kernel
theorem dX0_isTooLate_11 : decode cX0_isTooLate 11 = .ok (.getfield 9, 3) := by decide +kernel
theorem dX0_isTooLate_14 : decode cX0_isTooLate 14 = .ok (.getfield 118, 3) := by decide +kernel
theorem dX0_isTooLate_17 : decode cX0_isTooLate 17 = .ok (.iload_n 2, 1) := by decide +kernel
theorem dX0_isTooLate_18 : decode cX0_isTooLate 18 = .ok (.iaload, 1) := by decide +kernel
theorem dX0_isTooLate_19 : decode cX0_isTooLate 19 = .ok (.iadd, 1) := by decide +kernel
theorem dX0_isTooLate_20 : decode cX0_isTooLate 20 = .ok (.if_icmp .le 7, 3) := by decide +kernel
theorem dX0_isTooLate_23 : decode cX0_isTooLate 23 = .ok (.iconst 1, 1) := by decide +kernel
theorem dX0_isTooLate_24 : decode cX0_isTooLate 24 = .ok (.goto 4, 3) := by decide +kernel
theorem dX0_isTooLate_27 : decode cX0_isTooLate 27 = .ok (.iconst 0, 1) := by decide +kernel
theorem dX0_isTooLate_28 : decode cX0_isTooLate 28 = .ok (.ireturn, 1) := by decide +kernel
theorem dX0_disputedAmount_0 : decode cX0_disputedAmount 0 = .ok (.iconst 0, 1) := by decide +kernel
theorem dX0_disputedAmount_1 : decode cX0_disputedAmount 1 = .ok (.istore_n 2, 1) := by decide +kernel
theorem dX0_disputedAmount_2 : decode cX0_disputedAmount 2 = .ok (.iconst 0, 1) := by decide +kernel
theorem dX0_disputedAmount_3 : decode cX0_disputedAmount 3 = .ok (.istore_n 3, 1) := by decide +kernel
theorem dX0_disputedAmount_4 : decode cX0_disputedAmount 4 = .ok (.iload_n 3, 1) := by decide +kernel
theorem dX0_disputedAmount_5 : decode cX0_disputedAmount 5 = .ok (.aload_n 0, 1) := by decide +kernel
theorem dX0_disputedAmount_6 : decode cX0_disputedAmount 6 = .ok (.getfield 71, 3) := by decide +kernel
theorem dX0_disputedAmount_9 : decode cX0_disputedAmount 9 = .ok (.if_icmp .ge 38, 3) := by decide +kernel
theorem dX0_disputedAmount_12 : decode cX0_disputedAmount 12 = .ok (.aload_n 0, 1) := by decide +kernel
theorem dX0_disputedAmount_13 : decode cX0_disputedAmount 13 = .ok (.getfield 34, 3) := by decide +kernel
theorem dX0_disputedAmount_16 : decode cX0_disputedAmount 16 = .ok (.iload_n 3, 1) := by decide +kernel
theorem dX0_disputedAmount_17 : decode cX0_disputedAmount 17 = .ok (.iaload, 1) := by decide +kernel
theorem dX0_disputedAmount_18 : decode cX0_disputedAmount 18 = .ok (.iload_n 1, 1) := by decide +kernel
theorem dX0_disputedAmount_19 : decode cX0_disputedAmount 19 = .ok (.if_icmp .ne 22, 3) := by decide +kernel
theorem dX0_disputedAmount_22 : decode cX0_disputedAmount 22 = .ok (.aload_n 0, 1) := by decide +kernel
theorem dX0_disputedAmount_23 : decode cX0_disputedAmount 23 = .ok (.getfield 49, 3) := by decide +kernel
theorem dX0_disputedAmount_26 : decode cX0_disputedAmount 26 = .ok (.iload_n 3, 1) := by decide +kernel
theorem dX0_disputedAmount_27 : decode cX0_disputedAmount 27 = .ok (.iaload, 1) := by decide +kernel
theorem dX0_disputedAmount_28 : decode cX0_disputedAmount 28 = .ok (.iconst 5, 1) := by decide +kernel
theorem dX0_disputedAmount_29 : decode cX0_disputedAmount 29 = .ok (.if_icmp .eq 12, 3) := by decide +kernel
theorem dX0_disputedAmount_32 : decode cX0_disputedAmount 32 = .ok (.iload_n 2, 1) := by decide +kernel
theorem dX0_disputedAmount_33 : decode cX0_disputedAmount 33 = .ok (.aload_n 0, 1) := by decide +kernel
theorem dX0_disputedAmount_34 : decode cX0_disputedAmount 34 = .ok (.getfield 40, 3) := by decide +kernel
theorem dX0_disputedAmount_37 : decode cX0_disputedAmount 37 = .ok (.iload_n 3, 1) := by decide +kernel
theorem dX0_disputedAmount_38 : decode cX0_disputedAmount 38 = .ok (.iaload, 1) := by decide +kernel
theorem dX0_disputedAmount_39 : decode cX0_disputedAmount 39 = .ok (.iadd, 1) := by decide +kernel
theorem dX0_disputedAmount_40 : decode cX0_disputedAmount 40 = .ok (.istore_n 2, 1) := by decide +kernel
theorem dX0_disputedAmount_41 : decode cX0_disputedAmount 41 = .ok (.iinc 3 1, 3) := by decide +kernel
theorem dX0_disputedAmount_44 : decode cX0_disputedAmount 44 = .ok (.goto (-40), 3) := by decide +kernel
theorem dX0_disputedAmount_47 : decode cX0_disputedAmount 47 = .ok (.iload_n 2, 1) := by decide +kernel
theorem dX0_disputedAmount_48 : decode cX0_disputedAmount 48 = .ok (.ireturn, 1) := by decide +kernel
theorem dX0_ownScore_0 : decode cX0_ownScore 0 = .ok (.aload_n 0, 1) := by decide +kernel
theorem dX0_ownScore_1 : decode cX0_ownScore 1 = .ok (.iload_n 1, 1) := by decide +kernel
theorem dX0_ownScore_2 : decode cX0_ownScore 2 = .ok (.aload_n 0, 1) := by decide +kernel
theorem dX0_ownScore_3 : decode cX0_ownScore 3 = .ok (.getfield 46, 3) := by decide +kernel
theorem dX0_ownScore_6 : decode cX0_ownScore 6 = .ok (.iload_n 1, 1) := by decide +kernel
theorem dX0_ownScore_7 : decode cX0_ownScore 7 = .ok (.iaload, 1) := by decide +kernel
theorem dX0_ownScore_8 : decode cX0_ownScore 8 = .ok (.invokevirtual 121, 3) := by decide +kernel
theorem dX0_ownScore_11 : decode cX0_ownScore 11 = .ok (.ireturn, 1) := by decide +kernel
theorem dX0_convinces_0 : decode cX0_convinces 0 = .ok (.aload_n 0, 1) := by decide +kernel
theorem dX0_convinces_1 : decode cX0_convinces 1 = .ok (.getfield 37, 3) := by decide +kernel
theorem dX0_convinces_4 : decode cX0_convinces 4 = .ok (.iload_n 1, 1) := by decide +kernel
theorem dX0_convinces_5 : decode cX0_convinces 5 = .ok (.iaload, 1) := by decide +kernel
theorem dX0_convinces_6 : decode cX0_convinces 6 = .ok (.istore_n 3, 1) := by decide +kernel
theorem dX0_convinces_7 : decode cX0_convinces 7 = .ok (.aload_n 0, 1) := by decide +kernel
theorem dX0_convinces_8 : decode cX0_convinces 8 = .ok (.getfield 9, 3) := by decide +kernel
theorem dX0_convinces_11 : decode cX0_convinces 11 = .ok (.getfield 124, 3) := by decide +kernel
theorem dX0_convinces_14 : decode cX0_convinces 14 = .ok (.iload_n 3, 1) := by decide +kernel
theorem dX0_convinces_15 : decode cX0_convinces 15 = .ok (.iaload, 1) := by decide +kernel
theorem dX0_convinces_16 : decode cX0_convinces 16 = .ok (.iload_n 2, 1) := by decide +kernel
theorem dX0_convinces_17 : decode cX0_convinces 17 = .ok (.iconst (-1), 1) := by decide +kernel
theorem dX0_convinces_18 : decode cX0_convinces 18 = .ok (.ixor, 1) := by decide +kernel
theorem dX0_convinces_19 : decode cX0_convinces 19 = .ok (.iand, 1) := by decide +kernel
theorem dX0_convinces_20 : decode cX0_convinces 20 = .ok (.istore 4, 2) := by decide +kernel
theorem dX0_convinces_22 : decode cX0_convinces 22 = .ok (.iload 4, 2) := by decide +kernel
theorem dX0_convinces_24 : decode cX0_convinces 24 = .ok (.ifCond .ne 25, 3) := by decide +kernel
theorem dX0_convinces_27 : decode cX0_convinces 27 = .ok (.aload_n 0, 1) := by decide +kernel
theorem dX0_convinces_28 : decode cX0_convinces 28 = .ok (.iload_n 1, 1) := by decide +kernel
theorem dX0_convinces_29 : decode cX0_convinces 29 = .ok (.iload_n 2, 1) := by decide +kernel
theorem dX0_convinces_30 : decode cX0_convinces 30 = .ok (.invokevirtual 121, 3) := by decide +kernel
theorem dX0_convinces_33 : decode cX0_convinces 33 = .ok (.aload_n 0, 1) := by decide +kernel
theorem dX0_convinces_34 : decode cX0_convinces 34 = .ok (.getfield 9, 3) := by decide +kernel
theorem dX0_convinces_37 : decode cX0_convinces 37 = .ok (.getfield 127, 3) := by decide +kernel
theorem dX0_convinces_40 : decode cX0_convinces 40 = .ok (.iload_n 3, 1) := by decide +kernel
theorem dX0_convinces_41 : decode cX0_convinces 41 = .ok (.iaload, 1) := by decide +kernel
theorem dX0_convinces_42 : decode cX0_convinces 42 = .ok (.if_icmp .lt 7, 3) := by decide +kernel
theorem dX0_convinces_45 : decode cX0_convinces 45 = .ok (.iconst 1, 1) := by decide +kernel
theorem dX0_convinces_46 : decode cX0_convinces 46 = .ok (.goto 4, 3) := by decide +kernel
theorem dX0_convinces_49 : decode cX0_convinces 49 = .ok (.iconst 0, 1) := by decide +kernel
theorem dX0_convinces_50 : decode cX0_convinces 50 = .ok (.ireturn, 1) := by decide +kernel
theorem dX0_leastConvincing_0 : decode cX0_leastConvincing 0 = .ok (.aload_n 0, 1) := by decide +kernel
theorem dX0_leastConvincing_1 : decode cX0_leastConvincing 1 = .ok (.getfield 46, 3) := by decide +kernel
theorem dX0_leastConvincing_4 : decode cX0_leastConvincing 4 = .ok (.iload_n 1, 1) := by decide +kernel
theorem dX0_leastConvincing_5 : decode cX0_leastConvincing 5 = .ok (.iaload, 1) := by decide +kernel
theorem dX0_leastConvincing_6 : decode cX0_leastConvincing 6 = .ok (.aload_n 0, 1) := by decide +kernel
theorem dX0_leastConvincing_7 : decode cX0_leastConvincing 7 = .ok (.getfield 9, 3) := by decide +kernel
theorem dX0_leastConvincing_10 : decode cX0_leastConvincing 10 = .ok (.getfield 124, 3) := by decide +kernel
theorem dX0_leastConvincing_13 : decode cX0_leastConvincing 13 = .ok (.aload_n 0, 1) := by decide +kernel
theorem dX0_leastConvincing_14 : decode cX0_leastConvincing 14 = .ok (.getfield 37, 3) := by decide +kernel
theorem dX0_leastConvincing_17 : decode cX0_leastConvincing 17 = .ok (.iload_n 1, 1) := by decide +kernel
theorem dX0_leastConvincing_18 : decode cX0_leastConvincing 18 = .ok (.iaload, 1) := by decide +kernel
theorem dX0_leastConvincing_19 : decode cX0_leastConvincing 19 = .ok (.iaload, 1) := by decide +kernel
theorem dX0_leastConvincing_20 : decode cX0_leastConvincing 20 = .ok (.ior, 1) := by decide +kernel
theorem dX0_leastConvincing_21 : decode cX0_leastConvincing 21 = .ok (.istore_n 2, 1) := by decide +kernel
theorem dX0_leastConvincing_22 : decode cX0_leastConvincing 22 = .ok (.iconst 0, 1) := by decide +kernel
theorem dX0_leastConvincing_23 : decode cX0_leastConvincing 23 = .ok (.istore_n 3, 1) := by decide +kernel
theorem dX0_leastConvincing_24 : decode cX0_leastConvincing 24 = .ok (.iload_n 3, 1) := by decide +kernel
theorem dX0_leastConvincing_25 : decode cX0_leastConvincing 25 = .ok (.bipush 8, 2) := by decide +kernel
theorem dX0_leastConvincing_27 : decode cX0_leastConvincing 27 = .ok (.if_icmp .gt 33, 3) := by decide +kernel
theorem dX0_leastConvincing_30 : decode cX0_leastConvincing 30 = .ok (.iload_n 2, 1) := by decide +kernel
theorem dX0_leastConvincing_31 : decode cX0_leastConvincing 31 = .ok (.sipush 255, 3) := by decide +kernel
theorem dX0_leastConvincing_34 : decode cX0_leastConvincing 34 = .ok (.if_icmp .gt 26, 3) := by decide +kernel
theorem dX0_leastConvincing_37 : decode cX0_leastConvincing 37 = .ok (.aload_n 0, 1) := by decide +kernel
theorem dX0_leastConvincing_38 : decode cX0_leastConvincing 38 = .ok (.iload_n 1, 1) := by decide +kernel
theorem dX0_leastConvincing_39 : decode cX0_leastConvincing 39 = .ok (.iload_n 2, 1) := by decide +kernel
theorem dX0_leastConvincing_40 : decode cX0_leastConvincing 40 = .ok (.invokevirtual 114, 3) := by decide +kernel
theorem dX0_leastConvincing_43 : decode cX0_leastConvincing 43 = .ok (.ifCond .eq 5, 3) := by decide +kernel
theorem dX0_leastConvincing_46 : decode cX0_leastConvincing 46 = .ok (.iload_n 2, 1) := by decide +kernel
theorem dX0_leastConvincing_47 : decode cX0_leastConvincing 47 = .ok (.ireturn, 1) := by decide +kernel
theorem dX0_leastConvincing_48 : decode cX0_leastConvincing 48 = .ok (.iload_n 2, 1) := by decide +kernel
theorem dX0_leastConvincing_49 : decode cX0_leastConvincing 49 = .ok (.iload_n 2, 1) := by decide +kernel
theorem dX0_leastConvincing_50 : decode cX0_leastConvincing 50 = .ok (.iconst 1, 1) := by decide +kernel
theorem dX0_leastConvincing_51 : decode cX0_leastConvincing 51 = .ok (.iadd, 1) := by decide +kernel
theorem dX0_leastConvincing_52 : decode cX0_leastConvincing 52 = .ok (.ior, 1) := by decide +kernel
theorem dX0_leastConvincing_53 : decode cX0_leastConvincing 53 = .ok (.istore_n 2, 1) := by decide +kernel
theorem dX0_leastConvincing_54 : decode cX0_leastConvincing 54 = .ok (.iinc 3 1, 3) := by decide +kernel
theorem dX0_leastConvincing_57 : decode cX0_leastConvincing 57 = .ok (.goto (-33), 3) := by decide +kernel
theorem dX0_leastConvincing_60 : decode cX0_leastConvincing 60 = .ok (.iconst (-1), 1) := by decide +kernel
theorem dX0_leastConvincing_61 : decode cX0_leastConvincing 61 = .ok (.ireturn, 1) := by decide +kernel
theorem dX0_earliestDeadline_0 : decode cX0_earliestDeadline 0 = .ok (.iconst (-1), 1) := by decide +kernel
theorem dX0_earliestDeadline_1 : decode cX0_earliestDeadline 1 = .ok (.istore_n 1, 1) := by decide +kernel
theorem dX0_earliestDeadline_2 : decode cX0_earliestDeadline 2 = .ok (.iconst 0, 1) := by decide +kernel
theorem dX0_earliestDeadline_3 : decode cX0_earliestDeadline 3 = .ok (.istore_n 2, 1) := by decide +kernel
theorem dX0_earliestDeadline_4 : decode cX0_earliestDeadline 4 = .ok (.iload_n 2, 1) := by decide +kernel
theorem dX0_earliestDeadline_5 : decode cX0_earliestDeadline 5 = .ok (.aload_n 0, 1) := by decide +kernel
theorem dX0_earliestDeadline_6 : decode cX0_earliestDeadline 6 = .ok (.getfield 71, 3) := by decide +kernel
theorem dX0_earliestDeadline_9 : decode cX0_earliestDeadline 9 = .ok (.if_icmp .ge 39, 3) := by decide +kernel
theorem dX0_earliestDeadline_12 : decode cX0_earliestDeadline 12 = .ok (.aload_n 0, 1) := by decide +kernel
theorem dX0_earliestDeadline_13 : decode cX0_earliestDeadline 13 = .ok (.iload_n 2, 1) := by decide +kernel
theorem dX0_earliestDeadline_14 : decode cX0_earliestDeadline 14 = .ok (.invokevirtual 102, 3) := by decide +kernel
theorem dX0_earliestDeadline_17 : decode cX0_earliestDeadline 17 = .ok (.ifCond .ne 25, 3) := by decide +kernel
theorem dX0_earliestDeadline_20 : decode cX0_earliestDeadline 20 = .ok (.iload_n 1, 1) := by decide +kernel
theorem dX0_earliestDeadline_21 : decode cX0_earliestDeadline 21 = .ok (.iconst (-1), 1) := by decide +kernel
theorem dX0_earliestDeadline_22 : decode cX0_earliestDeadline 22 = .ok (.if_icmp .eq 13, 3) := by decide +kernel
theorem dX0_earliestDeadline_25 : decode cX0_earliestDeadline 25 = .ok (.aload_n 0, 1) := by decide +kernel
theorem dX0_earliestDeadline_26 : decode cX0_earliestDeadline 26 = .ok (.getfield 52, 3) := by decide +kernel
theorem dX0_earliestDeadline_29 : decode cX0_earliestDeadline 29 = .ok (.iload_n 2, 1) := by decide +kernel
theorem dX0_earliestDeadline_30 : decode cX0_earliestDeadline 30 = .ok (.iaload, 1) := by decide +kernel
theorem dX0_earliestDeadline_31 : decode cX0_earliestDeadline 31 = .ok (.iload_n 1, 1) := by decide +kernel
theorem dX0_earliestDeadline_32 : decode cX0_earliestDeadline 32 = .ok (.if_icmp .ge 10, 3) := by decide +kernel
theorem dX0_earliestDeadline_35 : decode cX0_earliestDeadline 35 = .ok (.aload_n 0, 1) := by decide +kernel
theorem dX0_earliestDeadline_36 : decode cX0_earliestDeadline 36 = .ok (.getfield 52, 3) := by decide +kernel
theorem dX0_earliestDeadline_39 : decode cX0_earliestDeadline 39 = .ok (.iload_n 2, 1) := by decide +kernel
theorem dX0_earliestDeadline_40 : decode cX0_earliestDeadline 40 = .ok (.iaload, 1) := by decide +kernel
theorem dX0_earliestDeadline_41 : decode cX0_earliestDeadline 41 = .ok (.istore_n 1, 1) := by decide +kernel
theorem dX0_earliestDeadline_42 : decode cX0_earliestDeadline 42 = .ok (.iinc 2 1, 3) := by decide +kernel
theorem dX0_earliestDeadline_45 : decode cX0_earliestDeadline 45 = .ok (.goto (-41), 3) := by decide +kernel
theorem dX0_earliestDeadline_48 : decode cX0_earliestDeadline 48 = .ok (.iload_n 1, 1) := by decide +kernel
theorem dX0_earliestDeadline_49 : decode cX0_earliestDeadline 49 = .ok (.ireturn, 1) := by decide +kernel
theorem dX0_disputeRate_0 : decode cX0_disputeRate 0 = .ok (.iconst 0, 1) := by decide +kernel
theorem dX0_disputeRate_1 : decode cX0_disputeRate 1 = .ok (.istore_n 2, 1) := by decide +kernel
theorem dX0_disputeRate_2 : decode cX0_disputeRate 2 = .ok (.iconst 0, 1) := by decide +kernel
theorem dX0_disputeRate_3 : decode cX0_disputeRate 3 = .ok (.istore_n 3, 1) := by decide +kernel
theorem dX0_disputeRate_4 : decode cX0_disputeRate 4 = .ok (.iload_n 3, 1) := by decide +kernel
theorem dX0_disputeRate_5 : decode cX0_disputeRate 5 = .ok (.aload_n 0, 1) := by decide +kernel
theorem dX0_disputeRate_6 : decode cX0_disputeRate 6 = .ok (.getfield 68, 3) := by decide +kernel
theorem dX0_disputeRate_9 : decode cX0_disputeRate 9 = .ok (.if_icmp .ge 35, 3) := by decide +kernel
theorem dX0_disputeRate_12 : decode cX0_disputeRate 12 = .ok (.aload_n 0, 1) := by decide +kernel
theorem dX0_disputeRate_13 : decode cX0_disputeRate 13 = .ok (.getfield 25, 3) := by decide +kernel
theorem dX0_disputeRate_16 : decode cX0_disputeRate 16 = .ok (.iload_n 3, 1) := by decide +kernel
theorem dX0_disputeRate_17 : decode cX0_disputeRate 17 = .ok (.iaload, 1) := by decide +kernel
theorem dX0_disputeRate_18 : decode cX0_disputeRate 18 = .ok (.iload_n 1, 1) := by decide +kernel
theorem dX0_disputeRate_19 : decode cX0_disputeRate 19 = .ok (.if_icmp .ne 19, 3) := by decide +kernel
theorem dX0_disputeRate_22 : decode cX0_disputeRate 22 = .ok (.aload_n 0, 1) := by decide +kernel
theorem dX0_disputeRate_23 : decode cX0_disputeRate 23 = .ok (.aload_n 0, 1) := by decide +kernel
theorem dX0_disputeRate_24 : decode cX0_disputeRate 24 = .ok (.getfield 31, 3) := by decide +kernel
theorem dX0_disputeRate_27 : decode cX0_disputeRate 27 = .ok (.iload_n 3, 1) := by decide +kernel
theorem dX0_disputeRate_28 : decode cX0_disputeRate 28 = .ok (.iaload, 1) := by decide +kernel
theorem dX0_disputeRate_29 : decode cX0_disputeRate 29 = .ok (.invokevirtual 130, 3) := by decide +kernel
theorem dX0_disputeRate_32 : decode cX0_disputeRate 32 = .ok (.ifCond .eq 6, 3) := by decide +kernel
theorem dX0_disputeRate_35 : decode cX0_disputeRate 35 = .ok (.iinc 2 1, 3) := by decide +kernel
theorem dX0_disputeRate_38 : decode cX0_disputeRate 38 = .ok (.iinc 3 1, 3) := by decide +kernel
theorem dX0_disputeRate_41 : decode cX0_disputeRate 41 = .ok (.goto (-37), 3) := by decide +kernel
theorem dX0_disputeRate_44 : decode cX0_disputeRate 44 = .ok (.iconst 0, 1) := by decide +kernel
theorem dX0_disputeRate_45 : decode cX0_disputeRate 45 = .ok (.istore_n 3, 1) := by decide +kernel
theorem dX0_disputeRate_46 : decode cX0_disputeRate 46 = .ok (.iconst 0, 1) := by decide +kernel
theorem dX0_disputeRate_47 : decode cX0_disputeRate 47 = .ok (.istore 4, 2) := by decide +kernel
theorem dX0_disputeRate_49 : decode cX0_disputeRate 49 = .ok (.iload 4, 2) := by decide +kernel
theorem dX0_disputeRate_51 : decode cX0_disputeRate 51 = .ok (.aload_n 0, 1) := by decide +kernel
theorem dX0_disputeRate_52 : decode cX0_disputeRate 52 = .ok (.getfield 71, 3) := by decide +kernel
theorem dX0_disputeRate_55 : decode cX0_disputeRate 55 = .ok (.if_icmp .ge 36, 3) := by decide +kernel
theorem dX0_disputeRate_58 : decode cX0_disputeRate 58 = .ok (.aload_n 0, 1) := by decide +kernel
theorem dX0_disputeRate_59 : decode cX0_disputeRate 59 = .ok (.iload 4, 2) := by decide +kernel
theorem dX0_disputeRate_61 : decode cX0_disputeRate 61 = .ok (.invokevirtual 133, 3) := by decide +kernel
theorem dX0_disputeRate_64 : decode cX0_disputeRate 64 = .ok (.iload_n 1, 1) := by decide +kernel
theorem dX0_disputeRate_65 : decode cX0_disputeRate 65 = .ok (.if_icmp .ne 20, 3) := by decide +kernel
theorem dX0_disputeRate_68 : decode cX0_disputeRate 68 = .ok (.aload_n 0, 1) := by decide +kernel
theorem dX0_disputeRate_69 : decode cX0_disputeRate 69 = .ok (.aload_n 0, 1) := by decide +kernel
theorem dX0_disputeRate_70 : decode cX0_disputeRate 70 = .ok (.getfield 43, 3) := by decide +kernel
theorem dX0_disputeRate_73 : decode cX0_disputeRate 73 = .ok (.iload 4, 2) := by decide +kernel
theorem dX0_disputeRate_75 : decode cX0_disputeRate 75 = .ok (.iaload, 1) := by decide +kernel
theorem dX0_disputeRate_76 : decode cX0_disputeRate 76 = .ok (.invokevirtual 130, 3) := by decide +kernel
theorem dX0_disputeRate_79 : decode cX0_disputeRate 79 = .ok (.ifCond .eq 6, 3) := by decide +kernel
theorem dX0_disputeRate_82 : decode cX0_disputeRate 82 = .ok (.iinc 3 1, 3) := by decide +kernel
theorem dX0_disputeRate_85 : decode cX0_disputeRate 85 = .ok (.iinc 4 1, 3) := by decide +kernel
theorem dX0_disputeRate_88 : decode cX0_disputeRate 88 = .ok (.goto (-39), 3) := by decide +kernel
theorem dX0_disputeRate_91 : decode cX0_disputeRate 91 = .ok (.iload_n 2, 1) := by decide +kernel
theorem dX0_disputeRate_92 : decode cX0_disputeRate 92 = .ok (.ifCond .ne 7, 3) := by decide +kernel
theorem dX0_disputeRate_95 : decode cX0_disputeRate 95 = .ok (.iconst 0, 1) := by decide +kernel
theorem dX0_disputeRate_96 : decode cX0_disputeRate 96 = .ok (.goto 10, 3) := by decide +kernel
theorem dX0_disputeRate_99 : decode cX0_disputeRate 99 = .ok (.iload_n 3, 1) := by decide +kernel
theorem dX0_disputeRate_100 : decode cX0_disputeRate 100 = .ok (.sipush 1000, 3) := by decide +kernel
theorem dX0_disputeRate_103 : decode cX0_disputeRate 103 = .ok (.imul, 1) := by decide +kernel
theorem dX0_disputeRate_104 : decode cX0_disputeRate 104 = .ok (.iload_n 2, 1) := by decide +kernel
theorem dX0_disputeRate_105 : decode cX0_disputeRate 105 = .ok (.idiv, 1) := by decide +kernel
theorem dX0_disputeRate_106 : decode cX0_disputeRate 106 = .ok (.ireturn, 1) := by decide +kernel
theorem dX0_openAmount_0 : decode cX0_openAmount 0 = .ok (.iconst 0, 1) := by decide +kernel
theorem dX0_openAmount_1 : decode cX0_openAmount 1 = .ok (.istore_n 2, 1) := by decide +kernel
theorem dX0_openAmount_2 : decode cX0_openAmount 2 = .ok (.iconst 0, 1) := by decide +kernel
theorem dX0_openAmount_3 : decode cX0_openAmount 3 = .ok (.istore_n 3, 1) := by decide +kernel
theorem dX0_openAmount_4 : decode cX0_openAmount 4 = .ok (.iload_n 3, 1) := by decide +kernel
theorem dX0_openAmount_5 : decode cX0_openAmount 5 = .ok (.aload_n 0, 1) := by decide +kernel
theorem dX0_openAmount_6 : decode cX0_openAmount 6 = .ok (.getfield 71, 3) := by decide +kernel
theorem dX0_openAmount_9 : decode cX0_openAmount 9 = .ok (.if_icmp .ge 35, 3) := by decide +kernel
theorem dX0_openAmount_12 : decode cX0_openAmount 12 = .ok (.aload_n 0, 1) := by decide +kernel
theorem dX0_openAmount_13 : decode cX0_openAmount 13 = .ok (.iload_n 3, 1) := by decide +kernel
theorem dX0_openAmount_14 : decode cX0_openAmount 14 = .ok (.invokevirtual 133, 3) := by decide +kernel
theorem dX0_openAmount_17 : decode cX0_openAmount 17 = .ok (.iload_n 1, 1) := by decide +kernel
theorem dX0_openAmount_18 : decode cX0_openAmount 18 = .ok (.if_icmp .ne 20, 3) := by decide +kernel
theorem dX0_openAmount_21 : decode cX0_openAmount 21 = .ok (.aload_n 0, 1) := by decide +kernel
theorem dX0_openAmount_22 : decode cX0_openAmount 22 = .ok (.iload_n 3, 1) := by decide +kernel
theorem dX0_openAmount_23 : decode cX0_openAmount 23 = .ok (.invokevirtual 102, 3) := by decide +kernel
theorem dX0_openAmount_26 : decode cX0_openAmount 26 = .ok (.ifCond .ne 12, 3) := by decide +kernel
theorem dX0_openAmount_29 : decode cX0_openAmount 29 = .ok (.iload_n 2, 1) := by decide +kernel
theorem dX0_openAmount_30 : decode cX0_openAmount 30 = .ok (.aload_n 0, 1) := by decide +kernel
theorem dX0_openAmount_31 : decode cX0_openAmount 31 = .ok (.getfield 40, 3) := by decide +kernel
theorem dX0_openAmount_34 : decode cX0_openAmount 34 = .ok (.iload_n 3, 1) := by decide +kernel
theorem dX0_openAmount_35 : decode cX0_openAmount 35 = .ok (.iaload, 1) := by decide +kernel
theorem dX0_openAmount_36 : decode cX0_openAmount 36 = .ok (.iadd, 1) := by decide +kernel
theorem dX0_openAmount_37 : decode cX0_openAmount 37 = .ok (.istore_n 2, 1) := by decide +kernel
theorem dX0_openAmount_38 : decode cX0_openAmount 38 = .ok (.iinc 3 1, 3) := by decide +kernel
theorem dX0_openAmount_41 : decode cX0_openAmount 41 = .ok (.goto (-37), 3) := by decide +kernel
theorem dX0_openAmount_44 : decode cX0_openAmount 44 = .ok (.iload_n 2, 1) := by decide +kernel
theorem dX0_openAmount_45 : decode cX0_openAmount 45 = .ok (.ireturn, 1) := by decide +kernel
theorem dX0_predictedAccount_0 : decode cX0_predictedAccount 0 = .ok (.aload_n 0, 1) := by decide +kernel
theorem dX0_predictedAccount_1 : decode cX0_predictedAccount 1 = .ok (.getfield 19, 3) := by decide +kernel
theorem dX0_predictedAccount_4 : decode cX0_predictedAccount 4 = .ok (.iload_n 1, 1) := by decide +kernel
theorem dX0_predictedAccount_5 : decode cX0_predictedAccount 5 = .ok (.iaload, 1) := by decide +kernel
theorem dX0_predictedAccount_6 : decode cX0_predictedAccount 6 = .ok (.istore_n 2, 1) := by decide +kernel
theorem dX0_predictedAccount_7 : decode cX0_predictedAccount 7 = .ok (.iconst 0, 1) := by decide +kernel
theorem dX0_predictedAccount_8 : decode cX0_predictedAccount 8 = .ok (.istore_n 3, 1) := by decide +kernel
theorem dX0_predictedAccount_9 : decode cX0_predictedAccount 9 = .ok (.iload_n 3, 1) := by decide +kernel
theorem dX0_predictedAccount_10 : decode cX0_predictedAccount 10 = .ok (.aload_n 0, 1) := by decide +kernel
theorem dX0_predictedAccount_11 : decode cX0_predictedAccount 11 = .ok (.getfield 71, 3) := by decide +kernel
theorem dX0_predictedAccount_14 : decode cX0_predictedAccount 14 = .ok (.if_icmp .ge 39, 3) := by decide +kernel
theorem dX0_predictedAccount_17 : decode cX0_predictedAccount 17 = .ok (.aload_n 0, 1) := by decide +kernel
theorem dX0_predictedAccount_18 : decode cX0_predictedAccount 18 = .ok (.iload_n 3, 1) := by decide +kernel
theorem dX0_predictedAccount_19 : decode cX0_predictedAccount 19 = .ok (.invokevirtual 133, 3) := by decide +kernel
theorem dX0_predictedAccount_22 : decode cX0_predictedAccount 22 = .ok (.iload_n 1, 1) := by decide +kernel
theorem dX0_predictedAccount_23 : decode cX0_predictedAccount 23 = .ok (.if_icmp .ne 24, 3) := by decide +kernel
theorem dX0_predictedAccount_26 : decode cX0_predictedAccount 26 = .ok (.aload_n 0, 1) := by decide +kernel
theorem dX0_predictedAccount_27 : decode cX0_predictedAccount 27 = .ok (.iload_n 3, 1) := by decide +kernel
theorem dX0_predictedAccount_28 : decode cX0_predictedAccount 28 = .ok (.invokevirtual 102, 3) := by decide +kernel
theorem dX0_predictedAccount_31 : decode cX0_predictedAccount 31 = .ok (.ifCond .ne 16, 3) := by decide +kernel
theorem dX0_predictedAccount_34 : decode cX0_predictedAccount 34 = .ok (.iload_n 2, 1) := by decide +kernel
theorem dX0_predictedAccount_35 : decode cX0_predictedAccount 35 = .ok (.aload_n 0, 1) := by decide +kernel
theorem dX0_predictedAccount_36 : decode cX0_predictedAccount 36 = .ok (.iload_n 3, 1) := by decide +kernel
theorem dX0_predictedAccount_37 : decode cX0_predictedAccount 37 = .ok (.aload_n 0, 1) := by decide +kernel
theorem dX0_predictedAccount_38 : decode cX0_predictedAccount 38 = .ok (.iload_n 3, 1) := by decide +kernel
theorem dX0_predictedAccount_39 : decode cX0_predictedAccount 39 = .ok (.invokevirtual 106, 3) := by decide +kernel
theorem dX0_predictedAccount_42 : decode cX0_predictedAccount 42 = .ok (.invokevirtual 98, 3) := by decide +kernel
theorem dX0_predictedAccount_45 : decode cX0_predictedAccount 45 = .ok (.iadd, 1) := by decide +kernel
theorem dX0_predictedAccount_46 : decode cX0_predictedAccount 46 = .ok (.istore_n 2, 1) := by decide +kernel
theorem dX0_predictedAccount_47 : decode cX0_predictedAccount 47 = .ok (.iinc 3 1, 3) := by decide +kernel
theorem dX0_predictedAccount_50 : decode cX0_predictedAccount 50 = .ok (.goto (-41), 3) := by decide +kernel
theorem dX0_predictedAccount_53 : decode cX0_predictedAccount 53 = .ok (.iload_n 2, 1) := by decide +kernel
theorem dX0_predictedAccount_54 : decode cX0_predictedAccount 54 = .ok (.ireturn, 1) := by decide +kernel
theorem dX0_merchantOf_0 : decode cX0_merchantOf 0 = .ok (.aload_n 0, 1) := by decide +kernel
theorem dX0_merchantOf_1 : decode cX0_merchantOf 1 = .ok (.getfield 25, 3) := by decide +kernel
theorem dX0_merchantOf_4 : decode cX0_merchantOf 4 = .ok (.aload_n 0, 1) := by decide +kernel
theorem dX0_merchantOf_5 : decode cX0_merchantOf 5 = .ok (.getfield 34, 3) := by decide +kernel
theorem dX0_merchantOf_8 : decode cX0_merchantOf 8 = .ok (.iload_n 1, 1) := by decide +kernel
theorem dX0_merchantOf_9 : decode cX0_merchantOf 9 = .ok (.iaload, 1) := by decide +kernel
theorem dX0_merchantOf_10 : decode cX0_merchantOf 10 = .ok (.iaload, 1) := by decide +kernel
theorem dX0_merchantOf_11 : decode cX0_merchantOf 11 = .ok (.ireturn, 1) := by decide +kernel
theorem dX0_isRecent_0 : decode cX0_isRecent 0 = .ok (.iload_n 1, 1) := by decide +kernel
theorem dX0_isRecent_1 : decode cX0_isRecent 1 = .ok (.aload_n 0, 1) := by decide +kernel
theorem dX0_isRecent_2 : decode cX0_isRecent 2 = .ok (.getfield 55, 3) := by decide +kernel
theorem dX0_isRecent_5 : decode cX0_isRecent 5 = .ok (.bipush 30, 2) := by decide +kernel
theorem dX0_isRecent_7 : decode cX0_isRecent 7 = .ok (.isub, 1) := by decide +kernel
theorem dX0_isRecent_8 : decode cX0_isRecent 8 = .ok (.if_icmp .le 7, 3) := by decide +kernel
theorem dX0_isRecent_11 : decode cX0_isRecent 11 = .ok (.iconst 1, 1) := by decide +kernel
theorem dX0_isRecent_12 : decode cX0_isRecent 12 = .ok (.goto 4, 3) := by decide +kernel
theorem dX0_isRecent_15 : decode cX0_isRecent 15 = .ok (.iconst 0, 1) := by decide +kernel
theorem dX0_isRecent_16 : decode cX0_isRecent 16 = .ok (.ireturn, 1) := by decide +kernel
theorem dX0_scoreWith_0 : decode cX0_scoreWith 0 = .ok (.iload_n 2, 1) := by decide +kernel
theorem dX0_scoreWith_1 : decode cX0_scoreWith 1 = .ok (.invokestatic 136, 3) := by decide +kernel
theorem dX0_scoreWith_4 : decode cX0_scoreWith 4 = .ok (.istore_n 3, 1) := by decide +kernel
theorem dX0_scoreWith_5 : decode cX0_scoreWith 5 = .ok (.iload_n 2, 1) := by decide +kernel
theorem dX0_scoreWith_6 : decode cX0_scoreWith 6 = .ok (.aload_n 0, 1) := by decide +kernel
theorem dX0_scoreWith_7 : decode cX0_scoreWith 7 = .ok (.getfield 9, 3) := by decide +kernel
theorem dX0_scoreWith_10 : decode cX0_scoreWith 10 = .ok (.getfield 124, 3) := by decide +kernel
theorem dX0_scoreWith_13 : decode cX0_scoreWith 13 = .ok (.aload_n 0, 1) := by decide +kernel
theorem dX0_scoreWith_14 : decode cX0_scoreWith 14 = .ok (.getfield 37, 3) := by decide +kernel
theorem dX0_scoreWith_17 : decode cX0_scoreWith 17 = .ok (.iload_n 1, 1) := by decide +kernel
theorem dX0_scoreWith_18 : decode cX0_scoreWith 18 = .ok (.iaload, 1) := by decide +kernel
theorem dX0_scoreWith_19 : decode cX0_scoreWith 19 = .ok (.iaload, 1) := by decide +kernel
theorem dX0_scoreWith_20 : decode cX0_scoreWith 20 = .ok (.iand, 1) := by decide +kernel
theorem dX0_scoreWith_21 : decode cX0_scoreWith 21 = .ok (.invokestatic 136, 3) := by decide +kernel
theorem dX0_scoreWith_24 : decode cX0_scoreWith 24 = .ok (.istore 4, 2) := by decide +kernel
theorem dX0_scoreWith_26 : decode cX0_scoreWith 26 = .ok (.aload_n 0, 1) := by decide +kernel
theorem dX0_scoreWith_27 : decode cX0_scoreWith 27 = .ok (.getfield 43, 3) := by decide +kernel
theorem dX0_scoreWith_30 : decode cX0_scoreWith 30 = .ok (.iload_n 1, 1) := by decide +kernel
theorem dX0_scoreWith_31 : decode cX0_scoreWith 31 = .ok (.iaload, 1) := by decide +kernel
theorem dX0_scoreWith_32 : decode cX0_scoreWith 32 = .ok (.aload_n 0, 1) := by decide +kernel
theorem dX0_scoreWith_33 : decode cX0_scoreWith 33 = .ok (.getfield 31, 3) := by decide +kernel
theorem dX0_scoreWith_36 : decode cX0_scoreWith 36 = .ok (.aload_n 0, 1) := by decide +kernel
theorem dX0_scoreWith_37 : decode cX0_scoreWith 37 = .ok (.getfield 34, 3) := by decide +kernel
theorem dX0_scoreWith_40 : decode cX0_scoreWith 40 = .ok (.iload_n 1, 1) := by decide +kernel
theorem dX0_scoreWith_41 : decode cX0_scoreWith 41 = .ok (.iaload, 1) := by decide +kernel
theorem dX0_scoreWith_42 : decode cX0_scoreWith 42 = .ok (.iaload, 1) := by decide +kernel
theorem dX0_scoreWith_43 : decode cX0_scoreWith 43 = .ok (.isub, 1) := by decide +kernel
theorem dX0_scoreWith_44 : decode cX0_scoreWith 44 = .ok (.istore 5, 2) := by decide +kernel
theorem dX0_scoreWith_46 : decode cX0_scoreWith 46 = .ok (.aload_n 0, 1) := by decide +kernel
theorem dX0_scoreWith_47 : decode cX0_scoreWith 47 = .ok (.getfield 9, 3) := by decide +kernel
theorem dX0_scoreWith_50 : decode cX0_scoreWith 50 = .ok (.getfield 141, 3) := by decide +kernel
theorem dX0_scoreWith_53 : decode cX0_scoreWith 53 = .ok (.iload_n 3, 1) := by decide +kernel
theorem dX0_scoreWith_54 : decode cX0_scoreWith 54 = .ok (.iload 4, 2) := by decide +kernel
theorem dX0_scoreWith_56 : decode cX0_scoreWith 56 = .ok (.aload_n 0, 1) := by decide +kernel
theorem dX0_scoreWith_57 : decode cX0_scoreWith 57 = .ok (.getfield 40, 3) := by decide +kernel
theorem dX0_scoreWith_60 : decode cX0_scoreWith 60 = .ok (.iload_n 1, 1) := by decide +kernel
theorem dX0_scoreWith_61 : decode cX0_scoreWith 61 = .ok (.iaload, 1) := by decide +kernel
theorem dX0_scoreWith_62 : decode cX0_scoreWith 62 = .ok (.iload 5, 2) := by decide +kernel
theorem dX0_scoreWith_64 : decode cX0_scoreWith 64 = .ok (.invokevirtual 145, 3) := by decide +kernel
theorem dX0_scoreWith_67 : decode cX0_scoreWith 67 = .ok (.ireturn, 1) := by decide +kernel
theorem dX0_merchantGain_0 : decode cX0_merchantGain 0 = .ok (.iload_n 2, 1) := by decide +kernel
theorem dX0_merchantGain_1 : decode cX0_merchantGain 1 = .ok (.iconst 5, 1) := by decide +kernel
theorem dX0_merchantGain_2 : decode cX0_merchantGain 2 = .ok (.if_icmp .ne 32, 3) := by decide +kernel
theorem dX0_merchantGain_5 : decode cX0_merchantGain 5 = .ok (.aload_n 0, 1) := by decide +kernel
theorem dX0_merchantGain_6 : decode cX0_merchantGain 6 = .ok (.iload_n 1, 1) := by decide +kernel
theorem dX0_merchantGain_7 : decode cX0_merchantGain 7 = .ok (.invokevirtual 151, 3) := by decide +kernel
theorem dX0_merchantGain_10 : decode cX0_merchantGain 10 = .ok (.ifCond .eq 7, 3) := by decide +kernel
theorem dX0_merchantGain_13 : decode cX0_merchantGain 13 = .ok (.iconst 0, 1) := by decide +kernel
theorem dX0_merchantGain_14 : decode cX0_merchantGain 14 = .ok (.goto 9, 3) := by decide +kernel
theorem dX0_merchantGain_17 : decode cX0_merchantGain 17 = .ok (.aload_n 0, 1) := by decide +kernel
theorem dX0_merchantGain_18 : decode cX0_merchantGain 18 = .ok (.getfield 40, 3) := by decide +kernel
theorem dX0_merchantGain_21 : decode cX0_merchantGain 21 = .ok (.iload_n 1, 1) := by decide +kernel
theorem dX0_merchantGain_22 : decode cX0_merchantGain 22 = .ok (.iaload, 1) := by decide +kernel
theorem dX0_merchantGain_23 : decode cX0_merchantGain 23 = .ok (.istore_n 3, 1) := by decide +kernel
theorem dX0_merchantGain_24 : decode cX0_merchantGain 24 = .ok (.iload_n 3, 1) := by decide +kernel
theorem dX0_merchantGain_25 : decode cX0_merchantGain 25 = .ok (.aload_n 0, 1) := by decide +kernel
theorem dX0_merchantGain_26 : decode cX0_merchantGain 26 = .ok (.getfield 9, 3) := by decide +kernel
theorem dX0_merchantGain_29 : decode cX0_merchantGain 29 = .ok (.getfield 89, 3) := by decide +kernel
theorem dX0_merchantGain_32 : decode cX0_merchantGain 32 = .ok (.iadd, 1) := by decide +kernel
theorem dX0_merchantGain_33 : decode cX0_merchantGain 33 = .ok (.ireturn, 1) := by decide +kernel
theorem dX0_merchantGain_34 : decode cX0_merchantGain 34 = .ok (.aload_n 0, 1) := by decide +kernel
theorem dX0_merchantGain_35 : decode cX0_merchantGain 35 = .ok (.iload_n 1, 1) := by decide +kernel
theorem dX0_merchantGain_36 : decode cX0_merchantGain 36 = .ok (.invokevirtual 151, 3) := by decide +kernel
theorem dX0_merchantGain_39 : decode cX0_merchantGain 39 = .ok (.ifCond .eq 12, 3) := by decide +kernel
theorem dX0_merchantGain_42 : decode cX0_merchantGain 42 = .ok (.aload_n 0, 1) := by decide +kernel
theorem dX0_merchantGain_43 : decode cX0_merchantGain 43 = .ok (.getfield 40, 3) := by decide +kernel
theorem dX0_merchantGain_46 : decode cX0_merchantGain 46 = .ok (.iload_n 1, 1) := by decide +kernel
theorem dX0_merchantGain_47 : decode cX0_merchantGain 47 = .ok (.iaload, 1) := by decide +kernel
theorem dX0_merchantGain_48 : decode cX0_merchantGain 48 = .ok (.goto 4, 3) := by decide +kernel
theorem dX0_merchantGain_51 : decode cX0_merchantGain 51 = .ok (.iconst 0, 1) := by decide +kernel
theorem dX0_merchantGain_52 : decode cX0_merchantGain 52 = .ok (.istore_n 3, 1) := by decide +kernel
theorem dX0_merchantGain_53 : decode cX0_merchantGain 53 = .ok (.aload_n 0, 1) := by decide +kernel
theorem dX0_merchantGain_54 : decode cX0_merchantGain 54 = .ok (.getfield 49, 3) := by decide +kernel
theorem dX0_merchantGain_57 : decode cX0_merchantGain 57 = .ok (.iload_n 1, 1) := by decide +kernel
theorem dX0_merchantGain_58 : decode cX0_merchantGain 58 = .ok (.iaload, 1) := by decide +kernel
theorem dX0_merchantGain_59 : decode cX0_merchantGain 59 = .ok (.iconst 3, 1) := by decide +kernel
theorem dX0_merchantGain_60 : decode cX0_merchantGain 60 = .ok (.if_icmp .ne 13, 3) := by decide +kernel
theorem dX0_merchantGain_63 : decode cX0_merchantGain 63 = .ok (.aload_n 0, 1) := by decide +kernel
theorem dX0_merchantGain_64 : decode cX0_merchantGain 64 = .ok (.getfield 9, 3) := by decide +kernel
theorem dX0_merchantGain_67 : decode cX0_merchantGain 67 = .ok (.getfield 95, 3) := by decide +kernel
theorem dX0_merchantGain_70 : decode cX0_merchantGain 70 = .ok (.goto 4, 3) := by decide +kernel
theorem dX0_merchantGain_73 : decode cX0_merchantGain 73 = .ok (.iconst 0, 1) := by decide +kernel
theorem dX0_merchantGain_74 : decode cX0_merchantGain 74 = .ok (.istore 4, 2) := by decide +kernel
theorem dX0_merchantGain_76 : decode cX0_merchantGain 76 = .ok (.iload_n 3, 1) := by decide +kernel
theorem dX0_merchantGain_77 : decode cX0_merchantGain 77 = .ok (.ineg, 1) := by decide +kernel
theorem dX0_merchantGain_78 : decode cX0_merchantGain 78 = .ok (.iload 4, 2) := by decide +kernel
theorem dX0_merchantGain_80 : decode cX0_merchantGain 80 = .ok (.isub, 1) := by decide +kernel
theorem dX0_merchantGain_81 : decode cX0_merchantGain 81 = .ok (.ireturn, 1) := by decide +kernel
theorem dX0_moveMoney_0 : decode cX0_moveMoney 0 = .ok (.aload_n 0, 1) := by decide +kernel
theorem dX0_moveMoney_1 : decode cX0_moveMoney 1 = .ok (.getfield 19, 3) := by decide +kernel
theorem dX0_moveMoney_4 : decode cX0_moveMoney 4 = .ok (.aload_n 0, 1) := by decide +kernel
theorem dX0_moveMoney_5 : decode cX0_moveMoney 5 = .ok (.getfield 25, 3) := by decide +kernel
theorem dX0_moveMoney_8 : decode cX0_moveMoney 8 = .ok (.iload_n 1, 1) := by decide +kernel
theorem dX0_moveMoney_9 : decode cX0_moveMoney 9 = .ok (.iaload, 1) := by decide +kernel
theorem dX0_moveMoney_10 : decode cX0_moveMoney 10 = .ok (.dup2, 1) := by decide +kernel
theorem dX0_moveMoney_11 : decode cX0_moveMoney 11 = .ok (.iaload, 1) := by decide +kernel
theorem dX0_moveMoney_12 : decode cX0_moveMoney 12 = .ok (.iload_n 2, 1) := by decide +kernel
theorem dX0_moveMoney_13 : decode cX0_moveMoney 13 = .ok (.iadd, 1) := by decide +kernel
theorem dX0_moveMoney_14 : decode cX0_moveMoney 14 = .ok (.iastore, 1) := by decide +kernel
theorem dX0_moveMoney_15 : decode cX0_moveMoney 15 = .ok (.aload_n 0, 1) := by decide +kernel
theorem dX0_moveMoney_16 : decode cX0_moveMoney 16 = .ok (.dup, 1) := by decide +kernel
theorem dX0_moveMoney_17 : decode cX0_moveMoney 17 = .ok (.getfield 65, 3) := by decide +kernel
theorem dX0_moveMoney_20 : decode cX0_moveMoney 20 = .ok (.iload_n 3, 1) := by decide +kernel
theorem dX0_moveMoney_21 : decode cX0_moveMoney 21 = .ok (.iadd, 1) := by decide +kernel
theorem dX0_moveMoney_22 : decode cX0_moveMoney 22 = .ok (.putfield 65, 3) := by decide +kernel
theorem dX0_moveMoney_25 : decode cX0_moveMoney 25 = .ok (.aload_n 0, 1) := by decide +kernel
theorem dX0_moveMoney_26 : decode cX0_moveMoney 26 = .ok (.getfield 15, 3) := by decide +kernel
theorem dX0_moveMoney_29 : decode cX0_moveMoney 29 = .ok (.aload_n 0, 1) := by decide +kernel
theorem dX0_moveMoney_30 : decode cX0_moveMoney 30 = .ok (.getfield 22, 3) := by decide +kernel
theorem dX0_moveMoney_33 : decode cX0_moveMoney 33 = .ok (.iload_n 1, 1) := by decide +kernel
theorem dX0_moveMoney_34 : decode cX0_moveMoney 34 = .ok (.iaload, 1) := by decide +kernel
theorem dX0_moveMoney_35 : decode cX0_moveMoney 35 = .ok (.dup2, 1) := by decide +kernel
theorem dX0_moveMoney_36 : decode cX0_moveMoney 36 = .ok (.iaload, 1) := by decide +kernel
theorem dX0_moveMoney_37 : decode cX0_moveMoney 37 = .ok (.iload_n 2, 1) := by decide +kernel
theorem dX0_moveMoney_38 : decode cX0_moveMoney 38 = .ok (.iload_n 3, 1) := by decide +kernel
theorem dX0_moveMoney_39 : decode cX0_moveMoney 39 = .ok (.iadd, 1) := by decide +kernel
theorem dX0_moveMoney_40 : decode cX0_moveMoney 40 = .ok (.isub, 1) := by decide +kernel
theorem dX0_moveMoney_41 : decode cX0_moveMoney 41 = .ok (.iastore, 1) := by decide +kernel
theorem dX0_moveMoney_42 : decode cX0_moveMoney 42 = .ok (.return_, 1) := by decide +kernel
end
section
theorem dX1_init_0 : decode cX1_init 0 = .ok (.aload_n 0, 1) := by decide +kernel
theorem dX1_init_1 : decode cX1_init 1 = .ok (.invokespecial 1, 3) := by decide +kernel
theorem dX1_init_4 : decode cX1_init 4 = .ok (.aload_n 0, 1) := by decide +kernel
theorem dX1_init_5 : decode cX1_init 5 = .ok (.iconst 0, 1) := by decide +kernel
theorem dX1_init_6 : decode cX1_init 6 = .ok (.iload_n 1, 1) := by decide +kernel
theorem dX1_init_7 : decode cX1_init 7 = .ok (.invokestatic 7, 3) := by decide +kernel
theorem dX1_init_10 : decode cX1_init 10 = .ok (.newarray .int, 2) := by decide +kernel
theorem dX1_init_12 : decode cX1_init 12 = .ok (.putfield 13, 3) := by decide +kernel
theorem dX1_init_15 : decode cX1_init 15 = .ok (.aload_n 0, 1) := by decide +kernel
theorem dX1_init_16 : decode cX1_init 16 = .ok (.bipush 11, 2) := by decide +kernel
theorem dX1_init_18 : decode cX1_init 18 = .ok (.newarray .int, 2) := by decide +kernel
theorem dX1_init_20 : decode cX1_init 20 = .ok (.putfield 19, 3) := by decide +kernel
theorem dX1_init_23 : decode cX1_init 23 = .ok (.return_, 1) := by decide +kernel
theorem dX1_add_0 : decode cX1_add 0 = .ok (.aload_n 0, 1) := by decide +kernel
theorem dX1_add_1 : decode cX1_add 1 = .ok (.getfield 22, 3) := by decide +kernel
theorem dX1_add_4 : decode cX1_add 4 = .ok (.aload_n 0, 1) := by decide +kernel
theorem dX1_add_5 : decode cX1_add 5 = .ok (.getfield 13, 3) := by decide +kernel
theorem dX1_add_8 : decode cX1_add 8 = .ok (.arraylength, 1) := by decide +kernel
theorem dX1_add_9 : decode cX1_add 9 = .ok (.if_icmp .ge 23, 3) := by decide +kernel
theorem dX1_add_12 : decode cX1_add 12 = .ok (.aload_n 0, 1) := by decide +kernel
theorem dX1_add_13 : decode cX1_add 13 = .ok (.getfield 13, 3) := by decide +kernel
theorem dX1_add_16 : decode cX1_add 16 = .ok (.aload_n 0, 1) := by decide +kernel
theorem dX1_add_17 : decode cX1_add 17 = .ok (.getfield 22, 3) := by decide +kernel
theorem dX1_add_20 : decode cX1_add 20 = .ok (.iload_n 1, 1) := by decide +kernel
theorem dX1_add_21 : decode cX1_add 21 = .ok (.iastore, 1) := by decide +kernel
theorem dX1_add_22 : decode cX1_add 22 = .ok (.aload_n 0, 1) := by decide +kernel
theorem dX1_add_23 : decode cX1_add 23 = .ok (.dup, 1) := by decide +kernel
theorem dX1_add_24 : decode cX1_add 24 = .ok (.getfield 22, 3) := by decide +kernel
theorem dX1_add_27 : decode cX1_add 27 = .ok (.iconst 1, 1) := by decide +kernel
theorem dX1_add_28 : decode cX1_add 28 = .ok (.iadd, 1) := by decide +kernel
theorem dX1_add_29 : decode cX1_add 29 = .ok (.putfield 22, 3) := by decide +kernel
theorem dX1_add_32 : decode cX1_add 32 = .ok (.return_, 1) := by decide +kernel
theorem dX1_valueFor_0 : decode cX1_valueFor 0 = .ok (.iconst 0, 1) := by decide +kernel
theorem dX1_valueFor_1 : decode cX1_valueFor 1 = .ok (.istore 5, 2) := by decide +kernel
theorem dX1_valueFor_3 : decode cX1_valueFor 3 = .ok (.iconst 0, 1) := by decide +kernel
theorem dX1_valueFor_4 : decode cX1_valueFor 4 = .ok (.istore 6, 2) := by decide +kernel
theorem dX1_valueFor_6 : decode cX1_valueFor 6 = .ok (.iload 6, 2) := by decide +kernel
theorem dX1_valueFor_8 : decode cX1_valueFor 8 = .ok (.aload_n 0, 1) := by decide +kernel
theorem dX1_valueFor_9 : decode cX1_valueFor 9 = .ok (.getfield 22, 3) := by decide +kernel
theorem dX1_valueFor_12 : decode cX1_valueFor 12 = .ok (.if_icmp .ge 96, 3) := by decide +kernel
theorem dX1_valueFor_15 : decode cX1_valueFor 15 = .ok (.aload_n 0, 1) := by decide +kernel
theorem dX1_valueFor_16 : decode cX1_valueFor 16 = .ok (.getfield 13, 3) := by decide +kernel
theorem dX1_valueFor_19 : decode cX1_valueFor 19 = .ok (.iload 6, 2) := by decide +kernel
theorem dX1_valueFor_21 : decode cX1_valueFor 21 = .ok (.iaload, 1) := by decide +kernel
theorem dX1_valueFor_22 : decode cX1_valueFor 22 = .ok (.istore 7, 2) := by decide +kernel
theorem dX1_valueFor_24 : decode cX1_valueFor 24 = .ok (.iload 7, 2) := by decide +kernel
theorem dX1_valueFor_26 : decode cX1_valueFor 26 = .ok (.bipush (-5), 2) := by decide +kernel
theorem dX1_valueFor_28 : decode cX1_valueFor 28 = .ok (.if_icmp .le 33, 3) := by decide +kernel
theorem dX1_valueFor_31 : decode cX1_valueFor 31 = .ok (.iload 5, 2) := by decide +kernel
theorem dX1_valueFor_33 : decode cX1_valueFor 33 = .ok (.bipush 11, 2) := by decide +kernel
theorem dX1_valueFor_35 : decode cX1_valueFor 35 = .ok (.if_icmp .ge 67, 3) := by decide +kernel
theorem dX1_valueFor_38 : decode cX1_valueFor 38 = .ok (.aload_n 0, 1) := by decide +kernel
theorem dX1_valueFor_39 : decode cX1_valueFor 39 = .ok (.getfield 19, 3) := by decide +kernel
theorem dX1_valueFor_42 : decode cX1_valueFor 42 = .ok (.iload 5, 2) := by decide +kernel
theorem dX1_valueFor_44 : decode cX1_valueFor 44 = .ok (.iload 7, 2) := by decide +kernel
theorem dX1_valueFor_46 : decode cX1_valueFor 46 = .ok (.iload_n 1, 1) := by decide +kernel
theorem dX1_valueFor_47 : decode cX1_valueFor 47 = .ok (.iload_n 2, 1) := by decide +kernel
theorem dX1_valueFor_48 : decode cX1_valueFor 48 = .ok (.iload_n 3, 1) := by decide +kernel
theorem dX1_valueFor_49 : decode cX1_valueFor 49 = .ok (.iload 4, 2) := by decide +kernel
theorem dX1_valueFor_51 : decode cX1_valueFor 51 = .ok (.invokestatic 26, 3) := by decide +kernel
theorem dX1_valueFor_54 : decode cX1_valueFor 54 = .ok (.iastore, 1) := by decide +kernel
theorem dX1_valueFor_55 : decode cX1_valueFor 55 = .ok (.iinc 5 1, 3) := by decide +kernel
theorem dX1_valueFor_58 : decode cX1_valueFor 58 = .ok (.goto 44, 3) := by decide +kernel
theorem dX1_valueFor_61 : decode cX1_valueFor 61 = .ok (.iload 5, 2) := by decide +kernel
theorem dX1_valueFor_63 : decode cX1_valueFor 63 = .ok (.iconst 2, 1) := by decide +kernel
theorem dX1_valueFor_64 : decode cX1_valueFor 64 = .ok (.if_icmp .lt 38, 3) := by decide +kernel
theorem dX1_valueFor_67 : decode cX1_valueFor 67 = .ok (.iinc 5 (-1), 3) := by decide +kernel
theorem dX1_valueFor_70 : decode cX1_valueFor 70 = .ok (.aload_n 0, 1) := by decide +kernel
theorem dX1_valueFor_71 : decode cX1_valueFor 71 = .ok (.getfield 19, 3) := by decide +kernel
theorem dX1_valueFor_74 : decode cX1_valueFor 74 = .ok (.iload 5, 2) := by decide +kernel
theorem dX1_valueFor_76 : decode cX1_valueFor 76 = .ok (.iconst 1, 1) := by decide +kernel
theorem dX1_valueFor_77 : decode cX1_valueFor 77 = .ok (.isub, 1) := by decide +kernel
theorem dX1_valueFor_78 : decode cX1_valueFor 78 = .ok (.iload 7, 2) := by decide +kernel
theorem dX1_valueFor_80 : decode cX1_valueFor 80 = .ok (.aload_n 0, 1) := by decide +kernel
theorem dX1_valueFor_81 : decode cX1_valueFor 81 = .ok (.getfield 19, 3) := by decide +kernel
theorem dX1_valueFor_84 : decode cX1_valueFor 84 = .ok (.iload 5, 2) := by decide +kernel
theorem dX1_valueFor_86 : decode cX1_valueFor 86 = .ok (.iconst 1, 1) := by decide +kernel
theorem dX1_valueFor_87 : decode cX1_valueFor 87 = .ok (.isub, 1) := by decide +kernel
theorem dX1_valueFor_88 : decode cX1_valueFor 88 = .ok (.iaload, 1) := by decide +kernel
theorem dX1_valueFor_89 : decode cX1_valueFor 89 = .ok (.i2l, 1) := by decide +kernel
theorem dX1_valueFor_90 : decode cX1_valueFor 90 = .ok (.aload_n 0, 1) := by decide +kernel
theorem dX1_valueFor_91 : decode cX1_valueFor 91 = .ok (.getfield 19, 3) := by decide +kernel
theorem dX1_valueFor_94 : decode cX1_valueFor 94 = .ok (.iload 5, 2) := by decide +kernel
theorem dX1_valueFor_96 : decode cX1_valueFor 96 = .ok (.iaload, 1) := by decide +kernel
theorem dX1_valueFor_97 : decode cX1_valueFor 97 = .ok (.i2l, 1) := by decide +kernel
theorem dX1_valueFor_98 : decode cX1_valueFor 98 = .ok (.invokestatic 30, 3) := by decide +kernel
theorem dX1_valueFor_101 : decode cX1_valueFor 101 = .ok (.iastore, 1) := by decide +kernel
theorem dX1_valueFor_102 : decode cX1_valueFor 102 = .ok (.iinc 6 1, 3) := by decide +kernel
theorem dX1_valueFor_105 : decode cX1_valueFor 105 = .ok (.goto (-99), 3) := by decide +kernel
theorem dX1_valueFor_108 : decode cX1_valueFor 108 = .ok (.iload 5, 2) := by decide +kernel
theorem dX1_valueFor_110 : decode cX1_valueFor 110 = .ok (.ifCond .le 15, 3) := by decide +kernel
theorem dX1_valueFor_113 : decode cX1_valueFor 113 = .ok (.aload_n 0, 1) := by decide +kernel
theorem dX1_valueFor_114 : decode cX1_valueFor 114 = .ok (.getfield 19, 3) := by decide +kernel
theorem dX1_valueFor_117 : decode cX1_valueFor 117 = .ok (.iload 5, 2) := by decide +kernel
theorem dX1_valueFor_119 : decode cX1_valueFor 119 = .ok (.iconst 1, 1) := by decide +kernel
theorem dX1_valueFor_120 : decode cX1_valueFor 120 = .ok (.isub, 1) := by decide +kernel
theorem dX1_valueFor_121 : decode cX1_valueFor 121 = .ok (.iaload, 1) := by decide +kernel
theorem dX1_valueFor_122 : decode cX1_valueFor 122 = .ok (.goto 4, 3) := by decide +kernel
theorem dX1_valueFor_125 : decode cX1_valueFor 125 = .ok (.iconst 0, 1) := by decide +kernel
theorem dX1_valueFor_126 : decode cX1_valueFor 126 = .ok (.ireturn, 1) := by decide +kernel
theorem dX1_operand_0 : decode cX1_operand 0 = .ok (.iload_n 0, 1) := by decide +kernel
theorem dX1_operand_1 : decode cX1_operand 1 = .ok (.tableswitch 40 (-4) (-1) #[37, 35, 33, 31], 31) := by decide +kernel
theorem dX1_operand_32 : decode cX1_operand 32 = .ok (.iload_n 1, 1) := by decide +kernel
theorem dX1_operand_33 : decode cX1_operand 33 = .ok (.ireturn, 1) := by decide +kernel
theorem dX1_operand_34 : decode cX1_operand 34 = .ok (.iload_n 2, 1) := by decide +kernel
theorem dX1_operand_35 : decode cX1_operand 35 = .ok (.ireturn, 1) := by decide +kernel
theorem dX1_operand_36 : decode cX1_operand 36 = .ok (.iload_n 3, 1) := by decide +kernel
theorem dX1_operand_37 : decode cX1_operand 37 = .ok (.ireturn, 1) := by decide +kernel
theorem dX1_operand_38 : decode cX1_operand 38 = .ok (.iload 4, 2) := by decide +kernel
theorem dX1_operand_40 : decode cX1_operand 40 = .ok (.ireturn, 1) := by decide +kernel
theorem dX1_operand_41 : decode cX1_operand 41 = .ok (.iload_n 0, 1) := by decide +kernel
theorem dX1_operand_42 : decode cX1_operand 42 = .ok (.ireturn, 1) := by decide +kernel
theorem dX1_result_0 : decode cX1_result 0 = .ok (.iload_n 0, 1) := by decide +kernel
theorem dX1_result_1 : decode cX1_result 1 = .ok (.tableswitch 51 (-7) (-5) #[43, 35, 27], 27) := by decide +kernel
theorem dX1_result_28 : decode cX1_result 28 = .ok (.lload_n 1, 1) := by decide +kernel
theorem dX1_result_29 : decode cX1_result 29 = .ok (.lload_n 3, 1) := by decide +kernel
theorem dX1_result_30 : decode cX1_result 30 = .ok (.ladd, 1) := by decide +kernel
theorem dX1_result_31 : decode cX1_result 31 = .ok (.lstore 5, 2) := by decide +kernel
theorem dX1_result_33 : decode cX1_result 33 = .ok (.goto 34, 3) := by decide +kernel
theorem dX1_result_36 : decode cX1_result 36 = .ok (.lload_n 1, 1) := by decide +kernel
theorem dX1_result_37 : decode cX1_result 37 = .ok (.lload_n 3, 1) := by decide +kernel
theorem dX1_result_38 : decode cX1_result 38 = .ok (.lsub, 1) := by decide +kernel
theorem dX1_result_39 : decode cX1_result 39 = .ok (.lstore 5, 2) := by decide +kernel
theorem dX1_result_41 : decode cX1_result 41 = .ok (.goto 26, 3) := by decide +kernel
theorem dX1_result_44 : decode cX1_result 44 = .ok (.lload_n 1, 1) := by decide +kernel
theorem dX1_result_45 : decode cX1_result 45 = .ok (.lload_n 3, 1) := by decide +kernel
theorem dX1_result_46 : decode cX1_result 46 = .ok (.lmul, 1) := by decide +kernel
theorem dX1_result_47 : decode cX1_result 47 = .ok (.lstore 5, 2) := by decide +kernel
theorem dX1_result_49 : decode cX1_result 49 = .ok (.goto 18, 3) := by decide +kernel
theorem dX1_result_52 : decode cX1_result 52 = .ok (.lload_n 3, 1) := by decide +kernel
theorem dX1_result_53 : decode cX1_result 53 = .ok (.lconst 0, 1) := by decide +kernel
theorem dX1_result_54 : decode cX1_result 54 = .ok (.lcmp, 1) := by decide +kernel
theorem dX1_result_55 : decode cX1_result 55 = .ok (.ifCond .ne 7, 3) := by decide +kernel
theorem dX1_result_58 : decode cX1_result 58 = .ok (.lconst 0, 1) := by decide +kernel
theorem dX1_result_59 : decode cX1_result 59 = .ok (.goto 6, 3) := by decide +kernel
theorem dX1_result_62 : decode cX1_result 62 = .ok (.lload_n 1, 1) := by decide +kernel
theorem dX1_result_63 : decode cX1_result 63 = .ok (.lload_n 3, 1) := by decide +kernel
theorem dX1_result_64 : decode cX1_result 64 = .ok (.ldiv, 1) := by decide +kernel
theorem dX1_result_65 : decode cX1_result 65 = .ok (.lstore 5, 2) := by decide +kernel
theorem dX1_result_67 : decode cX1_result 67 = .ok (.ldc2_w 34, 3) := by decide +kernel
theorem dX1_result_70 : decode cX1_result 70 = .ok (.ldc2_w 36, 3) := by decide +kernel
theorem dX1_result_73 : decode cX1_result 73 = .ok (.lload 5, 2) := by decide +kernel
theorem dX1_result_75 : decode cX1_result 75 = .ok (.invokestatic 38, 3) := by decide +kernel
theorem dX1_result_78 : decode cX1_result 78 = .ok (.invokestatic 42, 3) := by decide +kernel
theorem dX1_result_81 : decode cX1_result 81 = .ok (.l2i, 1) := by decide +kernel
theorem dX1_result_82 : decode cX1_result 82 = .ok (.ireturn, 1) := by decide +kernel
end
section
theorem dX2_init_0 : decode cX2_init 0 = .ok (.aload_n 0, 1) := by decide +kernel
theorem dX2_init_1 : decode cX2_init 1 = .ok (.invokespecial 5, 3) := by decide +kernel
theorem dX2_init_4 : decode cX2_init 4 = .ok (.aload_n 0, 1) := by decide +kernel
theorem dX2_init_5 : decode cX2_init 5 = .ok (.bipush 9, 2) := by decide +kernel
theorem dX2_init_7 : decode cX2_init 7 = .ok (.anewarray 11, 3) := by decide +kernel
theorem dX2_init_10 : decode cX2_init 10 = .ok (.putfield 13, 3) := by decide +kernel
theorem dX2_init_13 : decode cX2_init 13 = .ok (.iconst 0, 1) := by decide +kernel
theorem dX2_init_14 : decode cX2_init 14 = .ok (.istore_n 2, 1) := by decide +kernel
theorem dX2_init_15 : decode cX2_init 15 = .ok (.iload_n 2, 1) := by decide +kernel
theorem dX2_init_16 : decode cX2_init 16 = .ok (.bipush 9, 2) := by decide +kernel
theorem dX2_init_18 : decode cX2_init 18 = .ok (.if_icmp .ge 23, 3) := by decide +kernel
theorem dX2_init_21 : decode cX2_init 21 = .ok (.aload_n 0, 1) := by decide +kernel
theorem dX2_init_22 : decode cX2_init 22 = .ok (.getfield 13, 3) := by decide +kernel
theorem dX2_init_25 : decode cX2_init 25 = .ok (.iload_n 2, 1) := by decide +kernel
theorem dX2_init_26 : decode cX2_init 26 = .ok (.new 11, 3) := by decide +kernel
theorem dX2_init_29 : decode cX2_init 29 = .ok (.dup, 1) := by decide +kernel
theorem dX2_init_30 : decode cX2_init 30 = .ok (.aload_n 1, 1) := by decide +kernel
theorem dX2_init_31 : decode cX2_init 31 = .ok (.invokespecial 17, 3) := by decide +kernel
theorem dX2_init_34 : decode cX2_init 34 = .ok (.aastore, 1) := by decide +kernel
theorem dX2_init_35 : decode cX2_init 35 = .ok (.iinc 2 1, 3) := by decide +kernel
theorem dX2_init_38 : decode cX2_init 38 = .ok (.goto (-23), 3) := by decide +kernel
theorem dX2_init_41 : decode cX2_init 41 = .ok (.return_, 1) := by decide +kernel
theorem dX2_present_0 : decode cX2_present 0 = .ok (.aload_n 0, 1) := by decide +kernel
theorem dX2_present_1 : decode cX2_present 1 = .ok (.getfield 13, 3) := by decide +kernel
theorem dX2_present_4 : decode cX2_present 4 = .ok (.aload_n 0, 1) := by decide +kernel
theorem dX2_present_5 : decode cX2_present 5 = .ok (.getfield 20, 3) := by decide +kernel
theorem dX2_present_8 : decode cX2_present 8 = .ok (.aaload, 1) := by decide +kernel
theorem dX2_present_9 : decode cX2_present 9 = .ok (.areturn, 1) := by decide +kernel
theorem dX2_beginChange_0 : decode cX2_beginChange 0 = .ok (.aload_n 0, 1) := by decide +kernel
theorem dX2_beginChange_1 : decode cX2_beginChange 1 = .ok (.getfield 13, 3) := by decide +kernel
theorem dX2_beginChange_4 : decode cX2_beginChange 4 = .ok (.aload_n 0, 1) := by decide +kernel
theorem dX2_beginChange_5 : decode cX2_beginChange 5 = .ok (.getfield 20, 3) := by decide +kernel
theorem dX2_beginChange_8 : decode cX2_beginChange 8 = .ok (.aaload, 1) := by decide +kernel
theorem dX2_beginChange_9 : decode cX2_beginChange 9 = .ok (.astore_n 1, 1) := by decide +kernel
theorem dX2_beginChange_10 : decode cX2_beginChange 10 = .ok (.aload_n 0, 1) := by decide +kernel
theorem dX2_beginChange_11 : decode cX2_beginChange 11 = .ok (.aload_n 0, 1) := by decide +kernel
theorem dX2_beginChange_12 : decode cX2_beginChange 12 = .ok (.getfield 20, 3) := by decide +kernel
theorem dX2_beginChange_15 : decode cX2_beginChange 15 = .ok (.iconst 1, 1) := by decide +kernel
theorem dX2_beginChange_16 : decode cX2_beginChange 16 = .ok (.iadd, 1) := by decide +kernel
theorem dX2_beginChange_17 : decode cX2_beginChange 17 = .ok (.bipush 9, 2) := by decide +kernel
theorem dX2_beginChange_19 : decode cX2_beginChange 19 = .ok (.irem, 1) := by decide +kernel
theorem dX2_beginChange_20 : decode cX2_beginChange 20 = .ok (.putfield 20, 3) := by decide +kernel
theorem dX2_beginChange_23 : decode cX2_beginChange 23 = .ok (.aload_n 0, 1) := by decide +kernel
theorem dX2_beginChange_24 : decode cX2_beginChange 24 = .ok (.getfield 13, 3) := by decide +kernel
theorem dX2_beginChange_27 : decode cX2_beginChange 27 = .ok (.aload_n 0, 1) := by decide +kernel
theorem dX2_beginChange_28 : decode cX2_beginChange 28 = .ok (.getfield 20, 3) := by decide +kernel
theorem dX2_beginChange_31 : decode cX2_beginChange 31 = .ok (.aaload, 1) := by decide +kernel
theorem dX2_beginChange_32 : decode cX2_beginChange 32 = .ok (.aload_n 1, 1) := by decide +kernel
theorem dX2_beginChange_33 : decode cX2_beginChange 33 = .ok (.invokevirtual 24, 3) := by decide +kernel
theorem dX2_beginChange_36 : decode cX2_beginChange 36 = .ok (.aload_n 0, 1) := by decide +kernel
theorem dX2_beginChange_37 : decode cX2_beginChange 37 = .ok (.aload_n 0, 1) := by decide +kernel
theorem dX2_beginChange_38 : decode cX2_beginChange 38 = .ok (.getfield 28, 3) := by decide +kernel
theorem dX2_beginChange_41 : decode cX2_beginChange 41 = .ok (.iconst 1, 1) := by decide +kernel
theorem dX2_beginChange_42 : decode cX2_beginChange 42 = .ok (.iadd, 1) := by decide +kernel
theorem dX2_beginChange_43 : decode cX2_beginChange 43 = .ok (.bipush 8, 2) := by decide +kernel
theorem dX2_beginChange_45 : decode cX2_beginChange 45 = .ok (.invokestatic 31, 3) := by decide +kernel
theorem dX2_beginChange_48 : decode cX2_beginChange 48 = .ok (.putfield 28, 3) := by decide +kernel
theorem dX2_beginChange_51 : decode cX2_beginChange 51 = .ok (.aload_n 0, 1) := by decide +kernel
theorem dX2_beginChange_52 : decode cX2_beginChange 52 = .ok (.getfield 13, 3) := by decide +kernel
theorem dX2_beginChange_55 : decode cX2_beginChange 55 = .ok (.aload_n 0, 1) := by decide +kernel
theorem dX2_beginChange_56 : decode cX2_beginChange 56 = .ok (.getfield 20, 3) := by decide +kernel
theorem dX2_beginChange_59 : decode cX2_beginChange 59 = .ok (.aaload, 1) := by decide +kernel
theorem dX2_beginChange_60 : decode cX2_beginChange 60 = .ok (.areturn, 1) := by decide +kernel
theorem dX2_stepBack_0 : decode cX2_stepBack 0 = .ok (.aload_n 0, 1) := by decide +kernel
theorem dX2_stepBack_1 : decode cX2_stepBack 1 = .ok (.getfield 28, 3) := by decide +kernel
theorem dX2_stepBack_4 : decode cX2_stepBack 4 = .ok (.ifCond .ne 5, 3) := by decide +kernel
theorem dX2_stepBack_7 : decode cX2_stepBack 7 = .ok (.iconst (-1), 1) := by decide +kernel
theorem dX2_stepBack_8 : decode cX2_stepBack 8 = .ok (.ireturn, 1) := by decide +kernel
theorem dX2_stepBack_9 : decode cX2_stepBack 9 = .ok (.aload_n 0, 1) := by decide +kernel
theorem dX2_stepBack_10 : decode cX2_stepBack 10 = .ok (.aload_n 0, 1) := by decide +kernel
theorem dX2_stepBack_11 : decode cX2_stepBack 11 = .ok (.getfield 20, 3) := by decide +kernel
theorem dX2_stepBack_14 : decode cX2_stepBack 14 = .ok (.bipush 9, 2) := by decide +kernel
theorem dX2_stepBack_16 : decode cX2_stepBack 16 = .ok (.iadd, 1) := by decide +kernel
theorem dX2_stepBack_17 : decode cX2_stepBack 17 = .ok (.iconst 1, 1) := by decide +kernel
theorem dX2_stepBack_18 : decode cX2_stepBack 18 = .ok (.isub, 1) := by decide +kernel
theorem dX2_stepBack_19 : decode cX2_stepBack 19 = .ok (.bipush 9, 2) := by decide +kernel
theorem dX2_stepBack_21 : decode cX2_stepBack 21 = .ok (.irem, 1) := by decide +kernel
theorem dX2_stepBack_22 : decode cX2_stepBack 22 = .ok (.putfield 20, 3) := by decide +kernel
theorem dX2_stepBack_25 : decode cX2_stepBack 25 = .ok (.aload_n 0, 1) := by decide +kernel
theorem dX2_stepBack_26 : decode cX2_stepBack 26 = .ok (.dup, 1) := by decide +kernel
theorem dX2_stepBack_27 : decode cX2_stepBack 27 = .ok (.getfield 28, 3) := by decide +kernel
theorem dX2_stepBack_30 : decode cX2_stepBack 30 = .ok (.iconst 1, 1) := by decide +kernel
theorem dX2_stepBack_31 : decode cX2_stepBack 31 = .ok (.isub, 1) := by decide +kernel
theorem dX2_stepBack_32 : decode cX2_stepBack 32 = .ok (.putfield 28, 3) := by decide +kernel
theorem dX2_stepBack_35 : decode cX2_stepBack 35 = .ok (.aload_n 0, 1) := by decide +kernel
theorem dX2_stepBack_36 : decode cX2_stepBack 36 = .ok (.getfield 28, 3) := by decide +kernel
theorem dX2_stepBack_39 : decode cX2_stepBack 39 = .ok (.ireturn, 1) := by decide +kernel
end
section
theorem dX3_init_0 : decode cX3_init 0 = .ok (.aload_n 0, 1) := by decide +kernel
theorem dX3_init_1 : decode cX3_init 1 = .ok (.invokespecial 1, 3) := by decide +kernel
theorem dX3_init_4 : decode cX3_init 4 = .ok (.aload_n 0, 1) := by decide +kernel
theorem dX3_init_5 : decode cX3_init 5 = .ok (.sipush 900, 3) := by decide +kernel
theorem dX3_init_8 : decode cX3_init 8 = .ok (.newarray .byte, 2) := by decide +kernel
theorem dX3_init_10 : decode cX3_init 10 = .ok (.putfield 9, 3) := by decide +kernel
theorem dX3_init_13 : decode cX3_init 13 = .ok (.return_, 1) := by decide +kernel
theorem dX3_hasRoom_0 : decode cX3_hasRoom 0 = .ok (.aload_n 0, 1) := by decide +kernel
theorem dX3_hasRoom_1 : decode cX3_hasRoom 1 = .ok (.getfield 13, 3) := by decide +kernel
theorem dX3_hasRoom_4 : decode cX3_hasRoom 4 = .ok (.bipush 20, 2) := by decide +kernel
theorem dX3_hasRoom_6 : decode cX3_hasRoom 6 = .ok (.iadd, 1) := by decide +kernel
theorem dX3_hasRoom_7 : decode cX3_hasRoom 7 = .ok (.sipush 900, 3) := by decide +kernel
theorem dX3_hasRoom_10 : decode cX3_hasRoom 10 = .ok (.if_icmp .gt 7, 3) := by decide +kernel
theorem dX3_hasRoom_13 : decode cX3_hasRoom 13 = .ok (.iconst 1, 1) := by decide +kernel
theorem dX3_hasRoom_14 : decode cX3_hasRoom 14 = .ok (.goto 4, 3) := by decide +kernel
theorem dX3_hasRoom_17 : decode cX3_hasRoom 17 = .ok (.iconst 0, 1) := by decide +kernel
theorem dX3_hasRoom_18 : decode cX3_hasRoom 18 = .ok (.ireturn, 1) := by decide +kernel
theorem dX3_addWord_0 : decode cX3_addWord 0 = .ok (.bipush 24, 2) := by decide +kernel
theorem dX3_addWord_2 : decode cX3_addWord 2 = .ok (.istore_n 2, 1) := by decide +kernel
theorem dX3_addWord_3 : decode cX3_addWord 3 = .ok (.iload_n 2, 1) := by decide +kernel
theorem dX3_addWord_4 : decode cX3_addWord 4 = .ok (.ifCond .lt 42, 3) := by decide +kernel
theorem dX3_addWord_7 : decode cX3_addWord 7 = .ok (.aload_n 0, 1) := by decide +kernel
theorem dX3_addWord_8 : decode cX3_addWord 8 = .ok (.getfield 13, 3) := by decide +kernel
theorem dX3_addWord_11 : decode cX3_addWord 11 = .ok (.sipush 900, 3) := by decide +kernel
theorem dX3_addWord_14 : decode cX3_addWord 14 = .ok (.if_icmp .ge 26, 3) := by decide +kernel
theorem dX3_addWord_17 : decode cX3_addWord 17 = .ok (.aload_n 0, 1) := by decide +kernel
theorem dX3_addWord_18 : decode cX3_addWord 18 = .ok (.getfield 9, 3) := by decide +kernel
theorem dX3_addWord_21 : decode cX3_addWord 21 = .ok (.aload_n 0, 1) := by decide +kernel
theorem dX3_addWord_22 : decode cX3_addWord 22 = .ok (.getfield 13, 3) := by decide +kernel
theorem dX3_addWord_25 : decode cX3_addWord 25 = .ok (.iload_n 1, 1) := by decide +kernel
theorem dX3_addWord_26 : decode cX3_addWord 26 = .ok (.iload_n 2, 1) := by decide +kernel
theorem dX3_addWord_27 : decode cX3_addWord 27 = .ok (.ishr, 1) := by decide +kernel
theorem dX3_addWord_28 : decode cX3_addWord 28 = .ok (.i2b, 1) := by decide +kernel
theorem dX3_addWord_29 : decode cX3_addWord 29 = .ok (.bastore, 1) := by decide +kernel
theorem dX3_addWord_30 : decode cX3_addWord 30 = .ok (.aload_n 0, 1) := by decide +kernel
theorem dX3_addWord_31 : decode cX3_addWord 31 = .ok (.dup, 1) := by decide +kernel
theorem dX3_addWord_32 : decode cX3_addWord 32 = .ok (.getfield 13, 3) := by decide +kernel
theorem dX3_addWord_35 : decode cX3_addWord 35 = .ok (.iconst 1, 1) := by decide +kernel
theorem dX3_addWord_36 : decode cX3_addWord 36 = .ok (.iadd, 1) := by decide +kernel
theorem dX3_addWord_37 : decode cX3_addWord 37 = .ok (.putfield 13, 3) := by decide +kernel
theorem dX3_addWord_40 : decode cX3_addWord 40 = .ok (.iinc 2 (-8), 3) := by decide +kernel
theorem dX3_addWord_43 : decode cX3_addWord 43 = .ok (.goto (-40), 3) := by decide +kernel
theorem dX3_addWord_46 : decode cX3_addWord 46 = .ok (.return_, 1) := by decide +kernel
theorem dX3_clear_0 : decode cX3_clear 0 = .ok (.aload_n 0, 1) := by decide +kernel
theorem dX3_clear_1 : decode cX3_clear 1 = .ok (.iconst 0, 1) := by decide +kernel
theorem dX3_clear_2 : decode cX3_clear 2 = .ok (.putfield 13, 3) := by decide +kernel
theorem dX3_clear_5 : decode cX3_clear 5 = .ok (.return_, 1) := by decide +kernel
end
section
theorem dX4_init_0 : decode cX4_init 0 = .ok (.aload_n 0, 1) := by decide +kernel
theorem dX4_init_1 : decode cX4_init 1 = .ok (.invokespecial 3, 3) := by decide +kernel
theorem dX4_init_4 : decode cX4_init 4 = .ok (.aload_n 0, 1) := by decide +kernel
theorem dX4_init_5 : decode cX4_init 5 = .ok (.iconst 1, 1) := by decide +kernel
theorem dX4_init_6 : decode cX4_init 6 = .ok (.putfield 9, 3) := by decide +kernel
theorem dX4_init_9 : decode cX4_init 9 = .ok (.aload_n 0, 1) := by decide +kernel
theorem dX4_init_10 : decode cX4_init 10 = .ok (.iconst 1, 1) := by decide +kernel
theorem dX4_init_11 : decode cX4_init 11 = .ok (.putfield 15, 3) := by decide +kernel
theorem dX4_init_14 : decode cX4_init 14 = .ok (.aload_n 0, 1) := by decide +kernel
theorem dX4_init_15 : decode cX4_init 15 = .ok (.bipush 100, 2) := by decide +kernel
theorem dX4_init_17 : decode cX4_init 17 = .ok (.putfield 18, 3) := by decide +kernel
theorem dX4_init_20 : decode cX4_init 20 = .ok (.aload_n 0, 1) := by decide +kernel
theorem dX4_init_21 : decode cX4_init 21 = .ok (.new 21, 3) := by decide +kernel
theorem dX4_init_24 : decode cX4_init 24 = .ok (.dup, 1) := by decide +kernel
theorem dX4_init_25 : decode cX4_init 25 = .ok (.iconst 1, 1) := by decide +kernel
theorem dX4_init_26 : decode cX4_init 26 = .ok (.invokespecial 23, 3) := by decide +kernel
theorem dX4_init_29 : decode cX4_init 29 = .ok (.putfield 26, 3) := by decide +kernel
theorem dX4_init_32 : decode cX4_init 32 = .ok (.aload_n 0, 1) := by decide +kernel
theorem dX4_init_33 : decode cX4_init 33 = .ok (.getfield 26, 3) := by decide +kernel
theorem dX4_init_36 : decode cX4_init 36 = .ok (.iconst (-1), 1) := by decide +kernel
theorem dX4_init_37 : decode cX4_init 37 = .ok (.invokevirtual 30, 3) := by decide +kernel
theorem dX4_init_40 : decode cX4_init 40 = .ok (.aload_n 0, 1) := by decide +kernel
theorem dX4_init_41 : decode cX4_init 41 = .ok (.bipush 8, 2) := by decide +kernel
theorem dX4_init_43 : decode cX4_init 43 = .ok (.newarray .int, 2) := by decide +kernel
theorem dX4_init_45 : decode cX4_init 45 = .ok (.putfield 33, 3) := by decide +kernel
theorem dX4_init_48 : decode cX4_init 48 = .ok (.aload_n 0, 1) := by decide +kernel
theorem dX4_init_49 : decode cX4_init 49 = .ok (.bipush 8, 2) := by decide +kernel
theorem dX4_init_51 : decode cX4_init 51 = .ok (.newarray .int, 2) := by decide +kernel
theorem dX4_init_53 : decode cX4_init 53 = .ok (.putfield 37, 3) := by decide +kernel
theorem dX4_init_56 : decode cX4_init 56 = .ok (.aload_n 0, 1) := by decide +kernel
theorem dX4_init_57 : decode cX4_init 57 = .ok (.bipush 8, 2) := by decide +kernel
theorem dX4_init_59 : decode cX4_init 59 = .ok (.newarray .int, 2) := by decide +kernel
theorem dX4_init_61 : decode cX4_init 61 = .ok (.putfield 40, 3) := by decide +kernel
theorem dX4_init_64 : decode cX4_init 64 = .ok (.aload_n 0, 1) := by decide +kernel
theorem dX4_init_65 : decode cX4_init 65 = .ok (.bipush 8, 2) := by decide +kernel
theorem dX4_init_67 : decode cX4_init 67 = .ok (.newarray .int, 2) := by decide +kernel
theorem dX4_init_69 : decode cX4_init 69 = .ok (.putfield 43, 3) := by decide +kernel
theorem dX4_init_72 : decode cX4_init 72 = .ok (.aload_n 0, 1) := by decide +kernel
theorem dX4_init_73 : decode cX4_init 73 = .ok (.bipush 8, 2) := by decide +kernel
theorem dX4_init_75 : decode cX4_init 75 = .ok (.newarray .int, 2) := by decide +kernel
theorem dX4_init_77 : decode cX4_init 77 = .ok (.putfield 46, 3) := by decide +kernel
theorem dX4_init_80 : decode cX4_init 80 = .ok (.aload_n 0, 1) := by decide +kernel
theorem dX4_init_81 : decode cX4_init 81 = .ok (.bipush 8, 2) := by decide +kernel
theorem dX4_init_83 : decode cX4_init 83 = .ok (.newarray .int, 2) := by decide +kernel
theorem dX4_init_85 : decode cX4_init 85 = .ok (.putfield 49, 3) := by decide +kernel
theorem dX4_init_88 : decode cX4_init 88 = .ok (.return_, 1) := by decide +kernel
theorem dX4_addReason_0 : decode cX4_addReason 0 = .ok (.aload_n 0, 1) := by decide +kernel
theorem dX4_addReason_1 : decode cX4_addReason 1 = .ok (.getfield 52, 3) := by decide +kernel
theorem dX4_addReason_4 : decode cX4_addReason 4 = .ok (.bipush 8, 2) := by decide +kernel
theorem dX4_addReason_6 : decode cX4_addReason 6 = .ok (.if_icmp .ge 76, 3) := by decide +kernel
theorem dX4_addReason_9 : decode cX4_addReason 9 = .ok (.aload_n 0, 1) := by decide +kernel
theorem dX4_addReason_10 : decode cX4_addReason 10 = .ok (.getfield 33, 3) := by decide +kernel
theorem dX4_addReason_13 : decode cX4_addReason 13 = .ok (.aload_n 0, 1) := by decide +kernel
theorem dX4_addReason_14 : decode cX4_addReason 14 = .ok (.getfield 52, 3) := by decide +kernel
theorem dX4_addReason_17 : decode cX4_addReason 17 = .ok (.iload_n 1, 1) := by decide +kernel
theorem dX4_addReason_18 : decode cX4_addReason 18 = .ok (.iastore, 1) := by decide +kernel
theorem dX4_addReason_19 : decode cX4_addReason 19 = .ok (.aload_n 0, 1) := by decide +kernel
theorem dX4_addReason_20 : decode cX4_addReason 20 = .ok (.getfield 37, 3) := by decide +kernel
theorem dX4_addReason_23 : decode cX4_addReason 23 = .ok (.aload_n 0, 1) := by decide +kernel
theorem dX4_addReason_24 : decode cX4_addReason 24 = .ok (.getfield 52, 3) := by decide +kernel
theorem dX4_addReason_27 : decode cX4_addReason 27 = .ok (.iload_n 2, 1) := by decide +kernel
theorem dX4_addReason_28 : decode cX4_addReason 28 = .ok (.iastore, 1) := by decide +kernel
theorem dX4_addReason_29 : decode cX4_addReason 29 = .ok (.aload_n 0, 1) := by decide +kernel
theorem dX4_addReason_30 : decode cX4_addReason 30 = .ok (.getfield 40, 3) := by decide +kernel
theorem dX4_addReason_33 : decode cX4_addReason 33 = .ok (.aload_n 0, 1) := by decide +kernel
theorem dX4_addReason_34 : decode cX4_addReason 34 = .ok (.getfield 52, 3) := by decide +kernel
theorem dX4_addReason_37 : decode cX4_addReason 37 = .ok (.iload_n 3, 1) := by decide +kernel
theorem dX4_addReason_38 : decode cX4_addReason 38 = .ok (.iastore, 1) := by decide +kernel
theorem dX4_addReason_39 : decode cX4_addReason 39 = .ok (.aload_n 0, 1) := by decide +kernel
theorem dX4_addReason_40 : decode cX4_addReason 40 = .ok (.getfield 43, 3) := by decide +kernel
theorem dX4_addReason_43 : decode cX4_addReason 43 = .ok (.aload_n 0, 1) := by decide +kernel
theorem dX4_addReason_44 : decode cX4_addReason 44 = .ok (.getfield 52, 3) := by decide +kernel
theorem dX4_addReason_47 : decode cX4_addReason 47 = .ok (.iload 4, 2) := by decide +kernel
theorem dX4_addReason_49 : decode cX4_addReason 49 = .ok (.iastore, 1) := by decide +kernel
theorem dX4_addReason_50 : decode cX4_addReason 50 = .ok (.aload_n 0, 1) := by decide +kernel
theorem dX4_addReason_51 : decode cX4_addReason 51 = .ok (.getfield 46, 3) := by decide +kernel
theorem dX4_addReason_54 : decode cX4_addReason 54 = .ok (.aload_n 0, 1) := by decide +kernel
theorem dX4_addReason_55 : decode cX4_addReason 55 = .ok (.getfield 52, 3) := by decide +kernel
theorem dX4_addReason_58 : decode cX4_addReason 58 = .ok (.iload 5, 2) := by decide +kernel
theorem dX4_addReason_60 : decode cX4_addReason 60 = .ok (.iastore, 1) := by decide +kernel
theorem dX4_addReason_61 : decode cX4_addReason 61 = .ok (.aload_n 0, 1) := by decide +kernel
theorem dX4_addReason_62 : decode cX4_addReason 62 = .ok (.getfield 49, 3) := by decide +kernel
theorem dX4_addReason_65 : decode cX4_addReason 65 = .ok (.aload_n 0, 1) := by decide +kernel
theorem dX4_addReason_66 : decode cX4_addReason 66 = .ok (.getfield 52, 3) := by decide +kernel
theorem dX4_addReason_69 : decode cX4_addReason 69 = .ok (.iload 6, 2) := by decide +kernel
theorem dX4_addReason_71 : decode cX4_addReason 71 = .ok (.iastore, 1) := by decide +kernel
theorem dX4_addReason_72 : decode cX4_addReason 72 = .ok (.aload_n 0, 1) := by decide +kernel
theorem dX4_addReason_73 : decode cX4_addReason 73 = .ok (.dup, 1) := by decide +kernel
theorem dX4_addReason_74 : decode cX4_addReason 74 = .ok (.getfield 52, 3) := by decide +kernel
theorem dX4_addReason_77 : decode cX4_addReason 77 = .ok (.iconst 1, 1) := by decide +kernel
theorem dX4_addReason_78 : decode cX4_addReason 78 = .ok (.iadd, 1) := by decide +kernel
theorem dX4_addReason_79 : decode cX4_addReason 79 = .ok (.putfield 52, 3) := by decide +kernel
theorem dX4_addReason_82 : decode cX4_addReason 82 = .ok (.return_, 1) := by decide +kernel
theorem dX4_reasonWithCode_0 : decode cX4_reasonWithCode 0 = .ok (.iconst 0, 1) := by decide +kernel
theorem dX4_reasonWithCode_1 : decode cX4_reasonWithCode 1 = .ok (.istore_n 2, 1) := by decide +kernel
theorem dX4_reasonWithCode_2 : decode cX4_reasonWithCode 2 = .ok (.iload_n 2, 1) := by decide +kernel
theorem dX4_reasonWithCode_3 : decode cX4_reasonWithCode 3 = .ok (.aload_n 0, 1) := by decide +kernel
theorem dX4_reasonWithCode_4 : decode cX4_reasonWithCode 4 = .ok (.getfield 52, 3) := by decide +kernel
theorem dX4_reasonWithCode_7 : decode cX4_reasonWithCode 7 = .ok (.if_icmp .ge 21, 3) := by decide +kernel
theorem dX4_reasonWithCode_10 : decode cX4_reasonWithCode 10 = .ok (.aload_n 0, 1) := by decide +kernel
theorem dX4_reasonWithCode_11 : decode cX4_reasonWithCode 11 = .ok (.getfield 33, 3) := by decide +kernel
theorem dX4_reasonWithCode_14 : decode cX4_reasonWithCode 14 = .ok (.iload_n 2, 1) := by decide +kernel
theorem dX4_reasonWithCode_15 : decode cX4_reasonWithCode 15 = .ok (.iaload, 1) := by decide +kernel
theorem dX4_reasonWithCode_16 : decode cX4_reasonWithCode 16 = .ok (.iload_n 1, 1) := by decide +kernel
theorem dX4_reasonWithCode_17 : decode cX4_reasonWithCode 17 = .ok (.if_icmp .ne 5, 3) := by decide +kernel
theorem dX4_reasonWithCode_20 : decode cX4_reasonWithCode 20 = .ok (.iload_n 2, 1) := by decide +kernel
theorem dX4_reasonWithCode_21 : decode cX4_reasonWithCode 21 = .ok (.ireturn, 1) := by decide +kernel
theorem dX4_reasonWithCode_22 : decode cX4_reasonWithCode 22 = .ok (.iinc 2 1, 3) := by decide +kernel
theorem dX4_reasonWithCode_25 : decode cX4_reasonWithCode 25 = .ok (.goto (-23), 3) := by decide +kernel
theorem dX4_reasonWithCode_28 : decode cX4_reasonWithCode 28 = .ok (.iconst (-1), 1) := by decide +kernel
theorem dX4_reasonWithCode_29 : decode cX4_reasonWithCode 29 = .ok (.ireturn, 1) := by decide +kernel
end
section
theorem dX5_init_0 : decode cX5_init 0 = .ok (.aload_n 0, 1) := by decide +kernel
theorem dX5_init_1 : decode cX5_init 1 = .ok (.invokespecial 3, 3) := by decide +kernel
theorem dX5_init_4 : decode cX5_init 4 = .ok (.aload_n 0, 1) := by decide +kernel
theorem dX5_init_5 : decode cX5_init 5 = .ok (.aload_n 1, 1) := by decide +kernel
theorem dX5_init_6 : decode cX5_init 6 = .ok (.putfield 9, 3) := by decide +kernel
theorem dX5_init_9 : decode cX5_init 9 = .ok (.aload_n 0, 1) := by decide +kernel
theorem dX5_init_10 : decode cX5_init 10 = .ok (.new 15, 3) := by decide +kernel
theorem dX5_init_13 : decode cX5_init 13 = .ok (.dup, 1) := by decide +kernel
theorem dX5_init_14 : decode cX5_init 14 = .ok (.invokespecial 17, 3) := by decide +kernel
theorem dX5_init_17 : decode cX5_init 17 = .ok (.putfield 18, 3) := by decide +kernel
theorem dX5_init_20 : decode cX5_init 20 = .ok (.return_, 1) := by decide +kernel
theorem dX5_readAll_0 : decode cX5_readAll 0 = .ok (.aload_n 0, 1) := by decide +kernel
theorem dX5_readAll_1 : decode cX5_readAll 1 = .ok (.getfield 9, 3) := by decide +kernel
theorem dX5_readAll_4 : decode cX5_readAll 4 = .ok (.invokevirtual 22, 3) := by decide +kernel
theorem dX5_readAll_7 : decode cX5_readAll 7 = .ok (.iconst 0, 1) := by decide +kernel
theorem dX5_readAll_8 : decode cX5_readAll 8 = .ok (.istore_n 1, 1) := by decide +kernel
theorem dX5_readAll_9 : decode cX5_readAll 9 = .ok (.iload_n 1, 1) := by decide +kernel
theorem dX5_readAll_10 : decode cX5_readAll 10 = .ok (.aload_n 0, 1) := by decide +kernel
theorem dX5_readAll_11 : decode cX5_readAll 11 = .ok (.getfield 9, 3) := by decide +kernel
theorem dX5_readAll_14 : decode cX5_readAll 14 = .ok (.getfield 27, 3) := by decide +kernel
theorem dX5_readAll_17 : decode cX5_readAll 17 = .ok (.if_icmp .ge 112, 3) := by decide +kernel
theorem dX5_readAll_20 : decode cX5_readAll 20 = .ok (.aload_n 0, 1) := by decide +kernel
theorem dX5_readAll_21 : decode cX5_readAll 21 = .ok (.invokevirtual 31, 3) := by decide +kernel
theorem dX5_readAll_24 : decode cX5_readAll 24 = .ok (.ifCond .eq 105, 3) := by decide +kernel
theorem dX5_readAll_27 : decode cX5_readAll 27 = .ok (.aload_n 0, 1) := by decide +kernel
theorem dX5_readAll_28 : decode cX5_readAll 28 = .ok (.invokevirtual 35, 3) := by decide +kernel
theorem dX5_readAll_31 : decode cX5_readAll 31 = .ok (.iconst (-1), 1) := by decide +kernel
theorem dX5_readAll_32 : decode cX5_readAll 32 = .ok (.if_icmp .eq 97, 3) := by decide +kernel
theorem dX5_readAll_35 : decode cX5_readAll 35 = .ok (.aload_n 0, 1) := by decide +kernel
theorem dX5_readAll_36 : decode cX5_readAll 36 = .ok (.invokevirtual 35, 3) := by decide +kernel
theorem dX5_readAll_39 : decode cX5_readAll 39 = .ok (.tableswitch 72 257 262 #[37, 44, 72, 51, 58, 65], 37) := by decide +kernel
theorem dX5_readAll_76 : decode cX5_readAll 76 = .ok (.aload_n 0, 1) := by decide +kernel
theorem dX5_readAll_77 : decode cX5_readAll 77 = .ok (.invokevirtual 39, 3) := by decide +kernel
theorem dX5_readAll_80 : decode cX5_readAll 80 = .ok (.goto 37, 3) := by decide +kernel
theorem dX5_readAll_83 : decode cX5_readAll 83 = .ok (.aload_n 0, 1) := by decide +kernel
theorem dX5_readAll_84 : decode cX5_readAll 84 = .ok (.invokevirtual 42, 3) := by decide +kernel
theorem dX5_readAll_87 : decode cX5_readAll 87 = .ok (.goto 30, 3) := by decide +kernel
theorem dX5_readAll_90 : decode cX5_readAll 90 = .ok (.aload_n 0, 1) := by decide +kernel
theorem dX5_readAll_91 : decode cX5_readAll 91 = .ok (.invokevirtual 45, 3) := by decide +kernel
theorem dX5_readAll_94 : decode cX5_readAll 94 = .ok (.goto 23, 3) := by decide +kernel
theorem dX5_readAll_97 : decode cX5_readAll 97 = .ok (.aload_n 0, 1) := by decide +kernel
theorem dX5_readAll_98 : decode cX5_readAll 98 = .ok (.invokevirtual 48, 3) := by decide +kernel
theorem dX5_readAll_101 : decode cX5_readAll 101 = .ok (.goto 16, 3) := by decide +kernel
theorem dX5_readAll_104 : decode cX5_readAll 104 = .ok (.aload_n 0, 1) := by decide +kernel
theorem dX5_readAll_105 : decode cX5_readAll 105 = .ok (.invokevirtual 51, 3) := by decide +kernel
theorem dX5_readAll_108 : decode cX5_readAll 108 = .ok (.goto 9, 3) := by decide +kernel
theorem dX5_readAll_111 : decode cX5_readAll 111 = .ok (.aload_n 0, 1) := by decide +kernel
theorem dX5_readAll_112 : decode cX5_readAll 112 = .ok (.bipush (-2), 2) := by decide +kernel
theorem dX5_readAll_114 : decode cX5_readAll 114 = .ok (.invokevirtual 54, 3) := by decide +kernel
theorem dX5_readAll_117 : decode cX5_readAll 117 = .ok (.aload_n 0, 1) := by decide +kernel
theorem dX5_readAll_118 : decode cX5_readAll 118 = .ok (.bipush 59, 2) := by decide +kernel
theorem dX5_readAll_120 : decode cX5_readAll 120 = .ok (.invokevirtual 58, 3) := by decide +kernel
theorem dX5_readAll_123 : decode cX5_readAll 123 = .ok (.iinc 1 1, 3) := by decide +kernel
theorem dX5_readAll_126 : decode cX5_readAll 126 = .ok (.goto (-117), 3) := by decide +kernel
theorem dX5_readAll_129 : decode cX5_readAll 129 = .ok (.return_, 1) := by decide +kernel
theorem dX5_readParties_0 : decode cX5_readParties 0 = .ok (.aload_n 0, 1) := by decide +kernel
theorem dX5_readParties_1 : decode cX5_readParties 1 = .ok (.aload_n 0, 1) := by decide +kernel
theorem dX5_readParties_2 : decode cX5_readParties 2 = .ok (.getfield 61, 3) := by decide +kernel
theorem dX5_readParties_5 : decode cX5_readParties 5 = .ok (.invokevirtual 65, 3) := by decide +kernel
theorem dX5_readParties_8 : decode cX5_readParties 8 = .ok (.aload_n 0, 1) := by decide +kernel
theorem dX5_readParties_9 : decode cX5_readParties 9 = .ok (.iconst 1, 1) := by decide +kernel
theorem dX5_readParties_10 : decode cX5_readParties 10 = .ok (.putfield 61, 3) := by decide +kernel
theorem dX5_readParties_13 : decode cX5_readParties 13 = .ok (.aload_n 0, 1) := by decide +kernel
theorem dX5_readParties_14 : decode cX5_readParties 14 = .ok (.getfield 18, 3) := by decide +kernel
theorem dX5_readParties_17 : decode cX5_readParties 17 = .ok (.aload_n 0, 1) := by decide +kernel
theorem dX5_readParties_18 : decode cX5_readParties 18 = .ok (.iconst 1, 1) := by decide +kernel
theorem dX5_readParties_19 : decode cX5_readParties 19 = .ok (.iconst 4, 1) := by decide +kernel
theorem dX5_readParties_20 : decode cX5_readParties 20 = .ok (.invokevirtual 69, 3) := by decide +kernel
theorem dX5_readParties_23 : decode cX5_readParties 23 = .ok (.putfield 73, 3) := by decide +kernel
theorem dX5_readParties_26 : decode cX5_readParties 26 = .ok (.aload_n 0, 1) := by decide +kernel
theorem dX5_readParties_27 : decode cX5_readParties 27 = .ok (.getfield 18, 3) := by decide +kernel
theorem dX5_readParties_30 : decode cX5_readParties 30 = .ok (.aload_n 0, 1) := by decide +kernel
theorem dX5_readParties_31 : decode cX5_readParties 31 = .ok (.iconst 1, 1) := by decide +kernel
theorem dX5_readParties_32 : decode cX5_readParties 32 = .ok (.iconst 4, 1) := by decide +kernel
theorem dX5_readParties_33 : decode cX5_readParties 33 = .ok (.invokevirtual 69, 3) := by decide +kernel
theorem dX5_readParties_36 : decode cX5_readParties 36 = .ok (.putfield 76, 3) := by decide +kernel
theorem dX5_readParties_39 : decode cX5_readParties 39 = .ok (.return_, 1) := by decide +kernel
theorem dX5_readReason_0 : decode cX5_readReason 0 = .ok (.aload_n 0, 1) := by decide +kernel
theorem dX5_readReason_1 : decode cX5_readReason 1 = .ok (.getfield 18, 3) := by decide +kernel
theorem dX5_readReason_4 : decode cX5_readReason 4 = .ok (.getfield 79, 3) := by decide +kernel
theorem dX5_readReason_7 : decode cX5_readReason 7 = .ok (.bipush 8, 2) := by decide +kernel
theorem dX5_readReason_9 : decode cX5_readReason 9 = .ok (.if_icmp .lt 10, 3) := by decide +kernel
theorem dX5_readReason_12 : decode cX5_readReason 12 = .ok (.aload_n 0, 1) := by decide +kernel
theorem dX5_readReason_13 : decode cX5_readReason 13 = .ok (.bipush (-4), 2) := by decide +kernel
theorem dX5_readReason_15 : decode cX5_readReason 15 = .ok (.invokevirtual 54, 3) := by decide +kernel
theorem dX5_readReason_18 : decode cX5_readReason 18 = .ok (.return_, 1) := by decide +kernel
theorem dX5_readReason_19 : decode cX5_readReason 19 = .ok (.aload_n 0, 1) := by decide +kernel
theorem dX5_readReason_20 : decode cX5_readReason 20 = .ok (.invokevirtual 82, 3) := by decide +kernel
theorem dX5_readReason_23 : decode cX5_readReason 23 = .ok (.aload_n 0, 1) := by decide +kernel
theorem dX5_readReason_24 : decode cX5_readReason 24 = .ok (.invokevirtual 85, 3) := by decide +kernel
theorem dX5_readReason_27 : decode cX5_readReason 27 = .ok (.istore_n 1, 1) := by decide +kernel
theorem dX5_readReason_28 : decode cX5_readReason 28 = .ok (.aload_n 0, 1) := by decide +kernel
theorem dX5_readReason_29 : decode cX5_readReason 29 = .ok (.iconst 0, 1) := by decide +kernel
theorem dX5_readReason_30 : decode cX5_readReason 30 = .ok (.sipush 200, 3) := by decide +kernel
theorem dX5_readReason_33 : decode cX5_readReason 33 = .ok (.invokevirtual 69, 3) := by decide +kernel
theorem dX5_readReason_36 : decode cX5_readReason 36 = .ok (.istore_n 2, 1) := by decide +kernel
theorem dX5_readReason_37 : decode cX5_readReason 37 = .ok (.aload_n 0, 1) := by decide +kernel
theorem dX5_readReason_38 : decode cX5_readReason 38 = .ok (.iconst 1, 1) := by decide +kernel
theorem dX5_readReason_39 : decode cX5_readReason 39 = .ok (.bipush 60, 2) := by decide +kernel
theorem dX5_readReason_41 : decode cX5_readReason 41 = .ok (.invokevirtual 69, 3) := by decide +kernel
theorem dX5_readReason_44 : decode cX5_readReason 44 = .ok (.istore_n 3, 1) := by decide +kernel
theorem dX5_readReason_45 : decode cX5_readReason 45 = .ok (.aload_n 0, 1) := by decide +kernel
theorem dX5_readReason_46 : decode cX5_readReason 46 = .ok (.iconst 1, 1) := by decide +kernel
theorem dX5_readReason_47 : decode cX5_readReason 47 = .ok (.bipush 60, 2) := by decide +kernel
theorem dX5_readReason_49 : decode cX5_readReason 49 = .ok (.invokevirtual 69, 3) := by decide +kernel
theorem dX5_readReason_52 : decode cX5_readReason 52 = .ok (.istore 4, 2) := by decide +kernel
theorem dX5_readReason_54 : decode cX5_readReason 54 = .ok (.aload_n 0, 1) := by decide +kernel
theorem dX5_readReason_55 : decode cX5_readReason 55 = .ok (.iconst 0, 1) := by decide +kernel
theorem dX5_readReason_56 : decode cX5_readReason 56 = .ok (.sipush 9999, 3) := by decide +kernel
theorem dX5_readReason_59 : decode cX5_readReason 59 = .ok (.invokevirtual 69, 3) := by decide +kernel
theorem dX5_readReason_62 : decode cX5_readReason 62 = .ok (.istore 5, 2) := by decide +kernel
theorem dX5_readReason_64 : decode cX5_readReason 64 = .ok (.iconst 0, 1) := by decide +kernel
theorem dX5_readReason_65 : decode cX5_readReason 65 = .ok (.istore 6, 2) := by decide +kernel
theorem dX5_readReason_67 : decode cX5_readReason 67 = .ok (.aload_n 0, 1) := by decide +kernel
theorem dX5_readReason_68 : decode cX5_readReason 68 = .ok (.invokevirtual 31, 3) := by decide +kernel
theorem dX5_readReason_71 : decode cX5_readReason 71 = .ok (.ifCond .eq 23, 3) := by decide +kernel
theorem dX5_readReason_74 : decode cX5_readReason 74 = .ok (.aload_n 0, 1) := by decide +kernel
theorem dX5_readReason_75 : decode cX5_readReason 75 = .ok (.invokevirtual 35, 3) := by decide +kernel
theorem dX5_readReason_78 : decode cX5_readReason 78 = .ok (.sipush 259, 3) := by decide +kernel
theorem dX5_readReason_81 : decode cX5_readReason 81 = .ok (.if_icmp .ne 13, 3) := by decide +kernel
theorem dX5_readReason_84 : decode cX5_readReason 84 = .ok (.aload_n 0, 1) := by decide +kernel
theorem dX5_readReason_85 : decode cX5_readReason 85 = .ok (.invokevirtual 82, 3) := by decide +kernel
theorem dX5_readReason_88 : decode cX5_readReason 88 = .ok (.aload_n 0, 1) := by decide +kernel
theorem dX5_readReason_89 : decode cX5_readReason 89 = .ok (.invokevirtual 88, 3) := by decide +kernel
theorem dX5_readReason_92 : decode cX5_readReason 92 = .ok (.istore 6, 2) := by decide +kernel
theorem dX5_readReason_94 : decode cX5_readReason 94 = .ok (.aload_n 0, 1) := by decide +kernel
theorem dX5_readReason_95 : decode cX5_readReason 95 = .ok (.getfield 18, 3) := by decide +kernel
theorem dX5_readReason_98 : decode cX5_readReason 98 = .ok (.iload_n 1, 1) := by decide +kernel
theorem dX5_readReason_99 : decode cX5_readReason 99 = .ok (.iload_n 2, 1) := by decide +kernel
theorem dX5_readReason_100 : decode cX5_readReason 100 = .ok (.iload_n 3, 1) := by decide +kernel
theorem dX5_readReason_101 : decode cX5_readReason 101 = .ok (.iload 4, 2) := by decide +kernel
theorem dX5_readReason_103 : decode cX5_readReason 103 = .ok (.iload 5, 2) := by decide +kernel
theorem dX5_readReason_105 : decode cX5_readReason 105 = .ok (.iload 6, 2) := by decide +kernel
theorem dX5_readReason_107 : decode cX5_readReason 107 = .ok (.invokevirtual 91, 3) := by decide +kernel
theorem dX5_readReason_110 : decode cX5_readReason 110 = .ok (.return_, 1) := by decide +kernel
theorem dX5_readFees_0 : decode cX5_readFees 0 = .ok (.aload_n 0, 1) := by decide +kernel
theorem dX5_readFees_1 : decode cX5_readFees 1 = .ok (.aload_n 0, 1) := by decide +kernel
theorem dX5_readFees_2 : decode cX5_readFees 2 = .ok (.getfield 95, 3) := by decide +kernel
theorem dX5_readFees_5 : decode cX5_readFees 5 = .ok (.invokevirtual 65, 3) := by decide +kernel
theorem dX5_readFees_8 : decode cX5_readFees 8 = .ok (.aload_n 0, 1) := by decide +kernel
theorem dX5_readFees_9 : decode cX5_readFees 9 = .ok (.iconst 1, 1) := by decide +kernel
theorem dX5_readFees_10 : decode cX5_readFees 10 = .ok (.putfield 95, 3) := by decide +kernel
theorem dX5_readFees_13 : decode cX5_readFees 13 = .ok (.aload_n 0, 1) := by decide +kernel
theorem dX5_readFees_14 : decode cX5_readFees 14 = .ok (.getfield 18, 3) := by decide +kernel
theorem dX5_readFees_17 : decode cX5_readFees 17 = .ok (.aload_n 0, 1) := by decide +kernel
theorem dX5_readFees_18 : decode cX5_readFees 18 = .ok (.iconst 0, 1) := by decide +kernel
theorem dX5_readFees_19 : decode cX5_readFees 19 = .ok (.sipush 999, 3) := by decide +kernel
theorem dX5_readFees_22 : decode cX5_readFees 22 = .ok (.invokevirtual 69, 3) := by decide +kernel
theorem dX5_readFees_25 : decode cX5_readFees 25 = .ok (.putfield 98, 3) := by decide +kernel
theorem dX5_readFees_28 : decode cX5_readFees 28 = .ok (.aload_n 0, 1) := by decide +kernel
theorem dX5_readFees_29 : decode cX5_readFees 29 = .ok (.getfield 18, 3) := by decide +kernel
theorem dX5_readFees_32 : decode cX5_readFees 32 = .ok (.aload_n 0, 1) := by decide +kernel
theorem dX5_readFees_33 : decode cX5_readFees 33 = .ok (.iconst 0, 1) := by decide +kernel
theorem dX5_readFees_34 : decode cX5_readFees 34 = .ok (.sipush 999, 3) := by decide +kernel
theorem dX5_readFees_37 : decode cX5_readFees 37 = .ok (.invokevirtual 69, 3) := by decide +kernel
theorem dX5_readFees_40 : decode cX5_readFees 40 = .ok (.putfield 101, 3) := by decide +kernel
theorem dX5_readFees_43 : decode cX5_readFees 43 = .ok (.return_, 1) := by decide +kernel
theorem dX5_readScore_0 : decode cX5_readScore 0 = .ok (.aload_n 0, 1) := by decide +kernel
theorem dX5_readScore_1 : decode cX5_readScore 1 = .ok (.aload_n 0, 1) := by decide +kernel
theorem dX5_readScore_2 : decode cX5_readScore 2 = .ok (.getfield 104, 3) := by decide +kernel
theorem dX5_readScore_5 : decode cX5_readScore 5 = .ok (.invokevirtual 65, 3) := by decide +kernel
theorem dX5_readScore_8 : decode cX5_readScore 8 = .ok (.aload_n 0, 1) := by decide +kernel
theorem dX5_readScore_9 : decode cX5_readScore 9 = .ok (.iconst 1, 1) := by decide +kernel
theorem dX5_readScore_10 : decode cX5_readScore 10 = .ok (.putfield 104, 3) := by decide +kernel
theorem dX5_readScore_13 : decode cX5_readScore 13 = .ok (.aload_n 0, 1) := by decide +kernel
theorem dX5_readScore_14 : decode cX5_readScore 14 = .ok (.getfield 18, 3) := by decide +kernel
theorem dX5_readScore_17 : decode cX5_readScore 17 = .ok (.new 107, 3) := by decide +kernel
theorem dX5_readScore_20 : decode cX5_readScore 20 = .ok (.dup, 1) := by decide +kernel
theorem dX5_readScore_21 : decode cX5_readScore 21 = .ok (.aload_n 0, 1) := by decide +kernel
theorem dX5_readScore_22 : decode cX5_readScore 22 = .ok (.getfield 9, 3) := by decide +kernel
theorem dX5_readScore_25 : decode cX5_readScore 25 = .ok (.getfield 27, 3) := by decide +kernel
theorem dX5_readScore_28 : decode cX5_readScore 28 = .ok (.invokespecial 109, 3) := by decide +kernel
theorem dX5_readScore_31 : decode cX5_readScore 31 = .ok (.putfield 111, 3) := by decide +kernel
theorem dX5_readScore_34 : decode cX5_readScore 34 = .ok (.aload_n 0, 1) := by decide +kernel
theorem dX5_readScore_35 : decode cX5_readScore 35 = .ok (.iconst 0, 1) := by decide +kernel
theorem dX5_readScore_36 : decode cX5_readScore 36 = .ok (.invokevirtual 115, 3) := by decide +kernel
theorem dX5_readScore_39 : decode cX5_readScore 39 = .ok (.return_, 1) := by decide +kernel
theorem dX5_readLimit_0 : decode cX5_readLimit 0 = .ok (.aload_n 0, 1) := by decide +kernel
theorem dX5_readLimit_1 : decode cX5_readLimit 1 = .ok (.aload_n 0, 1) := by decide +kernel
theorem dX5_readLimit_2 : decode cX5_readLimit 2 = .ok (.getfield 118, 3) := by decide +kernel
theorem dX5_readLimit_5 : decode cX5_readLimit 5 = .ok (.invokevirtual 65, 3) := by decide +kernel
theorem dX5_readLimit_8 : decode cX5_readLimit 8 = .ok (.aload_n 0, 1) := by decide +kernel
theorem dX5_readLimit_9 : decode cX5_readLimit 9 = .ok (.iconst 1, 1) := by decide +kernel
theorem dX5_readLimit_10 : decode cX5_readLimit 10 = .ok (.putfield 118, 3) := by decide +kernel
theorem dX5_readLimit_13 : decode cX5_readLimit 13 = .ok (.aload_n 0, 1) := by decide +kernel
theorem dX5_readLimit_14 : decode cX5_readLimit 14 = .ok (.getfield 18, 3) := by decide +kernel
theorem dX5_readLimit_17 : decode cX5_readLimit 17 = .ok (.aload_n 0, 1) := by decide +kernel
theorem dX5_readLimit_18 : decode cX5_readLimit 18 = .ok (.iconst 0, 1) := by decide +kernel
theorem dX5_readLimit_19 : decode cX5_readLimit 19 = .ok (.sipush 9999, 3) := by decide +kernel
theorem dX5_readLimit_22 : decode cX5_readLimit 22 = .ok (.invokevirtual 69, 3) := by decide +kernel
theorem dX5_readLimit_25 : decode cX5_readLimit 25 = .ok (.putfield 121, 3) := by decide +kernel
theorem dX5_readLimit_28 : decode cX5_readLimit 28 = .ok (.return_, 1) := by decide +kernel
theorem dX5_readSum_0 : decode cX5_readSum 0 = .ok (.aload_n 0, 1) := by decide +kernel
theorem dX5_readSum_1 : decode cX5_readSum 1 = .ok (.iload_n 1, 1) := by decide +kernel
theorem dX5_readSum_2 : decode cX5_readSum 2 = .ok (.invokevirtual 124, 3) := by decide +kernel
theorem dX5_readSum_5 : decode cX5_readSum 5 = .ok (.iconst 0, 1) := by decide +kernel
theorem dX5_readSum_6 : decode cX5_readSum 6 = .ok (.istore_n 2, 1) := by decide +kernel
theorem dX5_readSum_7 : decode cX5_readSum 7 = .ok (.iload_n 2, 1) := by decide +kernel
theorem dX5_readSum_8 : decode cX5_readSum 8 = .ok (.aload_n 0, 1) := by decide +kernel
theorem dX5_readSum_9 : decode cX5_readSum 9 = .ok (.getfield 9, 3) := by decide +kernel
theorem dX5_readSum_12 : decode cX5_readSum 12 = .ok (.getfield 27, 3) := by decide +kernel
theorem dX5_readSum_15 : decode cX5_readSum 15 = .ok (.if_icmp .ge 71, 3) := by decide +kernel
theorem dX5_readSum_18 : decode cX5_readSum 18 = .ok (.aload_n 0, 1) := by decide +kernel
theorem dX5_readSum_19 : decode cX5_readSum 19 = .ok (.invokevirtual 31, 3) := by decide +kernel
theorem dX5_readSum_22 : decode cX5_readSum 22 = .ok (.ifCond .eq 64, 3) := by decide +kernel
theorem dX5_readSum_25 : decode cX5_readSum 25 = .ok (.aload_n 0, 1) := by decide +kernel
theorem dX5_readSum_26 : decode cX5_readSum 26 = .ok (.invokevirtual 35, 3) := by decide +kernel
theorem dX5_readSum_29 : decode cX5_readSum 29 = .ok (.bipush 43, 2) := by decide +kernel
theorem dX5_readSum_31 : decode cX5_readSum 31 = .ok (.if_icmp .eq 12, 3) := by decide +kernel
theorem dX5_readSum_34 : decode cX5_readSum 34 = .ok (.aload_n 0, 1) := by decide +kernel
theorem dX5_readSum_35 : decode cX5_readSum 35 = .ok (.invokevirtual 35, 3) := by decide +kernel
theorem dX5_readSum_38 : decode cX5_readSum 38 = .ok (.bipush 45, 2) := by decide +kernel
theorem dX5_readSum_40 : decode cX5_readSum 40 = .ok (.if_icmp .ne 46, 3) := by decide +kernel
theorem dX5_readSum_43 : decode cX5_readSum 43 = .ok (.aload_n 0, 1) := by decide +kernel
theorem dX5_readSum_44 : decode cX5_readSum 44 = .ok (.invokevirtual 35, 3) := by decide +kernel
theorem dX5_readSum_47 : decode cX5_readSum 47 = .ok (.bipush 43, 2) := by decide +kernel
theorem dX5_readSum_49 : decode cX5_readSum 49 = .ok (.if_icmp .ne 8, 3) := by decide +kernel
theorem dX5_readSum_52 : decode cX5_readSum 52 = .ok (.bipush (-5), 2) := by decide +kernel
theorem dX5_readSum_54 : decode cX5_readSum 54 = .ok (.goto 5, 3) := by decide +kernel
theorem dX5_readSum_57 : decode cX5_readSum 57 = .ok (.bipush (-6), 2) := by decide +kernel
theorem dX5_readSum_59 : decode cX5_readSum 59 = .ok (.istore_n 3, 1) := by decide +kernel
theorem dX5_readSum_60 : decode cX5_readSum 60 = .ok (.aload_n 0, 1) := by decide +kernel
theorem dX5_readSum_61 : decode cX5_readSum 61 = .ok (.invokevirtual 82, 3) := by decide +kernel
theorem dX5_readSum_64 : decode cX5_readSum 64 = .ok (.aload_n 0, 1) := by decide +kernel
theorem dX5_readSum_65 : decode cX5_readSum 65 = .ok (.iload_n 1, 1) := by decide +kernel
theorem dX5_readSum_66 : decode cX5_readSum 66 = .ok (.invokevirtual 124, 3) := by decide +kernel
theorem dX5_readSum_69 : decode cX5_readSum 69 = .ok (.aload_n 0, 1) := by decide +kernel
theorem dX5_readSum_70 : decode cX5_readSum 70 = .ok (.getfield 18, 3) := by decide +kernel
theorem dX5_readSum_73 : decode cX5_readSum 73 = .ok (.getfield 111, 3) := by decide +kernel
theorem dX5_readSum_76 : decode cX5_readSum 76 = .ok (.iload_n 3, 1) := by decide +kernel
theorem dX5_readSum_77 : decode cX5_readSum 77 = .ok (.invokevirtual 127, 3) := by decide +kernel
theorem dX5_readSum_80 : decode cX5_readSum 80 = .ok (.iinc 2 1, 3) := by decide +kernel
theorem dX5_readSum_83 : decode cX5_readSum 83 = .ok (.goto (-76), 3) := by decide +kernel
theorem dX5_readSum_86 : decode cX5_readSum 86 = .ok (.return_, 1) := by decide +kernel
theorem dX5_readTerm_0 : decode cX5_readTerm 0 = .ok (.aload_n 0, 1) := by decide +kernel
theorem dX5_readTerm_1 : decode cX5_readTerm 1 = .ok (.iload_n 1, 1) := by decide +kernel
theorem dX5_readTerm_2 : decode cX5_readTerm 2 = .ok (.invokevirtual 130, 3) := by decide +kernel
theorem dX5_readTerm_5 : decode cX5_readTerm 5 = .ok (.iconst 0, 1) := by decide +kernel
theorem dX5_readTerm_6 : decode cX5_readTerm 6 = .ok (.istore_n 2, 1) := by decide +kernel
theorem dX5_readTerm_7 : decode cX5_readTerm 7 = .ok (.iload_n 2, 1) := by decide +kernel
theorem dX5_readTerm_8 : decode cX5_readTerm 8 = .ok (.aload_n 0, 1) := by decide +kernel
theorem dX5_readTerm_9 : decode cX5_readTerm 9 = .ok (.getfield 9, 3) := by decide +kernel
theorem dX5_readTerm_12 : decode cX5_readTerm 12 = .ok (.getfield 27, 3) := by decide +kernel
theorem dX5_readTerm_15 : decode cX5_readTerm 15 = .ok (.if_icmp .ge 71, 3) := by decide +kernel
theorem dX5_readTerm_18 : decode cX5_readTerm 18 = .ok (.aload_n 0, 1) := by decide +kernel
theorem dX5_readTerm_19 : decode cX5_readTerm 19 = .ok (.invokevirtual 31, 3) := by decide +kernel
theorem dX5_readTerm_22 : decode cX5_readTerm 22 = .ok (.ifCond .eq 64, 3) := by decide +kernel
theorem dX5_readTerm_25 : decode cX5_readTerm 25 = .ok (.aload_n 0, 1) := by decide +kernel
theorem dX5_readTerm_26 : decode cX5_readTerm 26 = .ok (.invokevirtual 35, 3) := by decide +kernel
theorem dX5_readTerm_29 : decode cX5_readTerm 29 = .ok (.bipush 42, 2) := by decide +kernel
theorem dX5_readTerm_31 : decode cX5_readTerm 31 = .ok (.if_icmp .eq 12, 3) := by decide +kernel
theorem dX5_readTerm_34 : decode cX5_readTerm 34 = .ok (.aload_n 0, 1) := by decide +kernel
theorem dX5_readTerm_35 : decode cX5_readTerm 35 = .ok (.invokevirtual 35, 3) := by decide +kernel
theorem dX5_readTerm_38 : decode cX5_readTerm 38 = .ok (.bipush 47, 2) := by decide +kernel
theorem dX5_readTerm_40 : decode cX5_readTerm 40 = .ok (.if_icmp .ne 46, 3) := by decide +kernel
theorem dX5_readTerm_43 : decode cX5_readTerm 43 = .ok (.aload_n 0, 1) := by decide +kernel
theorem dX5_readTerm_44 : decode cX5_readTerm 44 = .ok (.invokevirtual 35, 3) := by decide +kernel
theorem dX5_readTerm_47 : decode cX5_readTerm 47 = .ok (.bipush 42, 2) := by decide +kernel
theorem dX5_readTerm_49 : decode cX5_readTerm 49 = .ok (.if_icmp .ne 8, 3) := by decide +kernel
theorem dX5_readTerm_52 : decode cX5_readTerm 52 = .ok (.bipush (-7), 2) := by decide +kernel
theorem dX5_readTerm_54 : decode cX5_readTerm 54 = .ok (.goto 5, 3) := by decide +kernel
theorem dX5_readTerm_57 : decode cX5_readTerm 57 = .ok (.bipush (-8), 2) := by decide +kernel
theorem dX5_readTerm_59 : decode cX5_readTerm 59 = .ok (.istore_n 3, 1) := by decide +kernel
theorem dX5_readTerm_60 : decode cX5_readTerm 60 = .ok (.aload_n 0, 1) := by decide +kernel
theorem dX5_readTerm_61 : decode cX5_readTerm 61 = .ok (.invokevirtual 82, 3) := by decide +kernel
theorem dX5_readTerm_64 : decode cX5_readTerm 64 = .ok (.aload_n 0, 1) := by decide +kernel
theorem dX5_readTerm_65 : decode cX5_readTerm 65 = .ok (.iload_n 1, 1) := by decide +kernel
theorem dX5_readTerm_66 : decode cX5_readTerm 66 = .ok (.invokevirtual 130, 3) := by decide +kernel
theorem dX5_readTerm_69 : decode cX5_readTerm 69 = .ok (.aload_n 0, 1) := by decide +kernel
theorem dX5_readTerm_70 : decode cX5_readTerm 70 = .ok (.getfield 18, 3) := by decide +kernel
theorem dX5_readTerm_73 : decode cX5_readTerm 73 = .ok (.getfield 111, 3) := by decide +kernel
theorem dX5_readTerm_76 : decode cX5_readTerm 76 = .ok (.iload_n 3, 1) := by decide +kernel
theorem dX5_readTerm_77 : decode cX5_readTerm 77 = .ok (.invokevirtual 127, 3) := by decide +kernel
theorem dX5_readTerm_80 : decode cX5_readTerm 80 = .ok (.iinc 2 1, 3) := by decide +kernel
theorem dX5_readTerm_83 : decode cX5_readTerm 83 = .ok (.goto (-76), 3) := by decide +kernel
theorem dX5_readTerm_86 : decode cX5_readTerm 86 = .ok (.return_, 1) := by decide +kernel
theorem dX5_readFactor_0 : decode cX5_readFactor 0 = .ok (.aload_n 0, 1) := by decide +kernel
theorem dX5_readFactor_1 : decode cX5_readFactor 1 = .ok (.invokevirtual 31, 3) := by decide +kernel
theorem dX5_readFactor_4 : decode cX5_readFactor 4 = .ok (.ifCond .ne 4, 3) := by decide +kernel
theorem dX5_readFactor_7 : decode cX5_readFactor 7 = .ok (.return_, 1) := by decide +kernel
theorem dX5_readFactor_8 : decode cX5_readFactor 8 = .ok (.aload_n 0, 1) := by decide +kernel
theorem dX5_readFactor_9 : decode cX5_readFactor 9 = .ok (.invokevirtual 35, 3) := by decide +kernel
theorem dX5_readFactor_12 : decode cX5_readFactor 12 = .ok (.lookupswitch 124 #[(40, 116), (256, 60), (263, 81), (264, 89), (265, 98), (266, 107)], 60) := by decide +kernel
theorem dX5_readFactor_72 : decode cX5_readFactor 72 = .ok (.aload_n 0, 1) := by decide +kernel
theorem dX5_readFactor_73 : decode cX5_readFactor 73 = .ok (.getfield 18, 3) := by decide +kernel
theorem dX5_readFactor_76 : decode cX5_readFactor 76 = .ok (.getfield 111, 3) := by decide +kernel
theorem dX5_readFactor_79 : decode cX5_readFactor 79 = .ok (.aload_n 0, 1) := by decide +kernel
theorem dX5_readFactor_80 : decode cX5_readFactor 80 = .ok (.iconst 0, 1) := by decide +kernel
theorem dX5_readFactor_81 : decode cX5_readFactor 81 = .ok (.sipush 9999, 3) := by decide +kernel
theorem dX5_readFactor_84 : decode cX5_readFactor 84 = .ok (.invokevirtual 69, 3) := by decide +kernel
theorem dX5_readFactor_87 : decode cX5_readFactor 87 = .ok (.invokevirtual 127, 3) := by decide +kernel
theorem dX5_readFactor_90 : decode cX5_readFactor 90 = .ok (.goto 52, 3) := by decide +kernel
theorem dX5_readFactor_93 : decode cX5_readFactor 93 = .ok (.aload_n 0, 1) := by decide +kernel
theorem dX5_readFactor_94 : decode cX5_readFactor 94 = .ok (.iconst (-1), 1) := by decide +kernel
theorem dX5_readFactor_95 : decode cX5_readFactor 95 = .ok (.invokevirtual 133, 3) := by decide +kernel
theorem dX5_readFactor_98 : decode cX5_readFactor 98 = .ok (.goto 44, 3) := by decide +kernel
theorem dX5_readFactor_101 : decode cX5_readFactor 101 = .ok (.aload_n 0, 1) := by decide +kernel
theorem dX5_readFactor_102 : decode cX5_readFactor 102 = .ok (.bipush (-2), 2) := by decide +kernel
theorem dX5_readFactor_104 : decode cX5_readFactor 104 = .ok (.invokevirtual 133, 3) := by decide +kernel
theorem dX5_readFactor_107 : decode cX5_readFactor 107 = .ok (.goto 35, 3) := by decide +kernel
theorem dX5_readFactor_110 : decode cX5_readFactor 110 = .ok (.aload_n 0, 1) := by decide +kernel
theorem dX5_readFactor_111 : decode cX5_readFactor 111 = .ok (.bipush (-3), 2) := by decide +kernel
theorem dX5_readFactor_113 : decode cX5_readFactor 113 = .ok (.invokevirtual 133, 3) := by decide +kernel
theorem dX5_readFactor_116 : decode cX5_readFactor 116 = .ok (.goto 26, 3) := by decide +kernel
theorem dX5_readFactor_119 : decode cX5_readFactor 119 = .ok (.aload_n 0, 1) := by decide +kernel
theorem dX5_readFactor_120 : decode cX5_readFactor 120 = .ok (.bipush (-4), 2) := by decide +kernel
theorem dX5_readFactor_122 : decode cX5_readFactor 122 = .ok (.invokevirtual 133, 3) := by decide +kernel
theorem dX5_readFactor_125 : decode cX5_readFactor 125 = .ok (.goto 17, 3) := by decide +kernel
theorem dX5_readFactor_128 : decode cX5_readFactor 128 = .ok (.aload_n 0, 1) := by decide +kernel
theorem dX5_readFactor_129 : decode cX5_readFactor 129 = .ok (.iload_n 1, 1) := by decide +kernel
theorem dX5_readFactor_130 : decode cX5_readFactor 130 = .ok (.invokevirtual 136, 3) := by decide +kernel
theorem dX5_readFactor_133 : decode cX5_readFactor 133 = .ok (.goto 9, 3) := by decide +kernel
theorem dX5_readFactor_136 : decode cX5_readFactor 136 = .ok (.aload_n 0, 1) := by decide +kernel
theorem dX5_readFactor_137 : decode cX5_readFactor 137 = .ok (.bipush (-2), 2) := by decide +kernel
theorem dX5_readFactor_139 : decode cX5_readFactor 139 = .ok (.invokevirtual 54, 3) := by decide +kernel
theorem dX5_readFactor_142 : decode cX5_readFactor 142 = .ok (.return_, 1) := by decide +kernel
theorem dX5_readParentheses_0 : decode cX5_readParentheses 0 = .ok (.iload_n 1, 1) := by decide +kernel
theorem dX5_readParentheses_1 : decode cX5_readParentheses 1 = .ok (.iconst 4, 1) := by decide +kernel
theorem dX5_readParentheses_2 : decode cX5_readParentheses 2 = .ok (.if_icmp .lt 10, 3) := by decide +kernel
theorem dX5_readParentheses_5 : decode cX5_readParentheses 5 = .ok (.aload_n 0, 1) := by decide +kernel
theorem dX5_readParentheses_6 : decode cX5_readParentheses 6 = .ok (.bipush (-5), 2) := by decide +kernel
theorem dX5_readParentheses_8 : decode cX5_readParentheses 8 = .ok (.invokevirtual 54, 3) := by decide +kernel
theorem dX5_readParentheses_11 : decode cX5_readParentheses 11 = .ok (.return_, 1) := by decide +kernel
theorem dX5_readParentheses_12 : decode cX5_readParentheses 12 = .ok (.aload_n 0, 1) := by decide +kernel
theorem dX5_readParentheses_13 : decode cX5_readParentheses 13 = .ok (.invokevirtual 82, 3) := by decide +kernel
theorem dX5_readParentheses_16 : decode cX5_readParentheses 16 = .ok (.aload_n 0, 1) := by decide +kernel
theorem dX5_readParentheses_17 : decode cX5_readParentheses 17 = .ok (.iload_n 1, 1) := by decide +kernel
theorem dX5_readParentheses_18 : decode cX5_readParentheses 18 = .ok (.iconst 1, 1) := by decide +kernel
theorem dX5_readParentheses_19 : decode cX5_readParentheses 19 = .ok (.iadd, 1) := by decide +kernel
theorem dX5_readParentheses_20 : decode cX5_readParentheses 20 = .ok (.invokevirtual 115, 3) := by decide +kernel
theorem dX5_readParentheses_23 : decode cX5_readParentheses 23 = .ok (.aload_n 0, 1) := by decide +kernel
theorem dX5_readParentheses_24 : decode cX5_readParentheses 24 = .ok (.bipush 41, 2) := by decide +kernel
theorem dX5_readParentheses_26 : decode cX5_readParentheses 26 = .ok (.invokevirtual 58, 3) := by decide +kernel
theorem dX5_readParentheses_29 : decode cX5_readParentheses 29 = .ok (.return_, 1) := by decide +kernel
theorem dX5_takeName_0 : decode cX5_takeName 0 = .ok (.aload_n 0, 1) := by decide +kernel
theorem dX5_takeName_1 : decode cX5_takeName 1 = .ok (.getfield 18, 3) := by decide +kernel
theorem dX5_takeName_4 : decode cX5_takeName 4 = .ok (.getfield 111, 3) := by decide +kernel
theorem dX5_takeName_7 : decode cX5_takeName 7 = .ok (.iload_n 1, 1) := by decide +kernel
theorem dX5_takeName_8 : decode cX5_takeName 8 = .ok (.invokevirtual 127, 3) := by decide +kernel
theorem dX5_takeName_11 : decode cX5_takeName 11 = .ok (.aload_n 0, 1) := by decide +kernel
theorem dX5_takeName_12 : decode cX5_takeName 12 = .ok (.invokevirtual 82, 3) := by decide +kernel
theorem dX5_takeName_15 : decode cX5_takeName 15 = .ok (.return_, 1) := by decide +kernel
theorem dX5_takeOnce_0 : decode cX5_takeOnce 0 = .ok (.iload_n 1, 1) := by decide +kernel
theorem dX5_takeOnce_1 : decode cX5_takeOnce 1 = .ok (.ifCond .eq 10, 3) := by decide +kernel
theorem dX5_takeOnce_4 : decode cX5_takeOnce 4 = .ok (.aload_n 0, 1) := by decide +kernel
theorem dX5_takeOnce_5 : decode cX5_takeOnce 5 = .ok (.bipush (-2), 2) := by decide +kernel
theorem dX5_takeOnce_7 : decode cX5_takeOnce 7 = .ok (.invokevirtual 54, 3) := by decide +kernel
theorem dX5_takeOnce_10 : decode cX5_takeOnce 10 = .ok (.return_, 1) := by decide +kernel
theorem dX5_takeOnce_11 : decode cX5_takeOnce 11 = .ok (.aload_n 0, 1) := by decide +kernel
theorem dX5_takeOnce_12 : decode cX5_takeOnce 12 = .ok (.invokevirtual 82, 3) := by decide +kernel
theorem dX5_takeOnce_15 : decode cX5_takeOnce 15 = .ok (.return_, 1) := by decide +kernel
theorem dX5_take_0 : decode cX5_take 0 = .ok (.aload_n 0, 1) := by decide +kernel
theorem dX5_take_1 : decode cX5_take 1 = .ok (.invokevirtual 31, 3) := by decide +kernel
theorem dX5_take_4 : decode cX5_take 4 = .ok (.ifCond .eq 18, 3) := by decide +kernel
theorem dX5_take_7 : decode cX5_take 7 = .ok (.aload_n 0, 1) := by decide +kernel
theorem dX5_take_8 : decode cX5_take 8 = .ok (.invokevirtual 35, 3) := by decide +kernel
theorem dX5_take_11 : decode cX5_take 11 = .ok (.iload_n 1, 1) := by decide +kernel
theorem dX5_take_12 : decode cX5_take 12 = .ok (.if_icmp .ne 10, 3) := by decide +kernel
theorem dX5_take_15 : decode cX5_take 15 = .ok (.aload_n 0, 1) := by decide +kernel
theorem dX5_take_16 : decode cX5_take 16 = .ok (.invokevirtual 82, 3) := by decide +kernel
theorem dX5_take_19 : decode cX5_take 19 = .ok (.goto 9, 3) := by decide +kernel
theorem dX5_take_22 : decode cX5_take 22 = .ok (.aload_n 0, 1) := by decide +kernel
theorem dX5_take_23 : decode cX5_take 23 = .ok (.bipush (-2), 2) := by decide +kernel
theorem dX5_take_25 : decode cX5_take 25 = .ok (.invokevirtual 54, 3) := by decide +kernel
theorem dX5_take_28 : decode cX5_take 28 = .ok (.return_, 1) := by decide +kernel
theorem dX5_takeCode_0 : decode cX5_takeCode 0 = .ok (.aload_n 0, 1) := by decide +kernel
theorem dX5_takeCode_1 : decode cX5_takeCode 1 = .ok (.invokevirtual 31, 3) := by decide +kernel
theorem dX5_takeCode_4 : decode cX5_takeCode 4 = .ok (.ifCond .eq 34, 3) := by decide +kernel
theorem dX5_takeCode_7 : decode cX5_takeCode 7 = .ok (.aload_n 0, 1) := by decide +kernel
theorem dX5_takeCode_8 : decode cX5_takeCode 8 = .ok (.invokevirtual 35, 3) := by decide +kernel
theorem dX5_takeCode_11 : decode cX5_takeCode 11 = .ok (.sipush 256, 3) := by decide +kernel
theorem dX5_takeCode_14 : decode cX5_takeCode 14 = .ok (.if_icmp .ne 24, 3) := by decide +kernel
theorem dX5_takeCode_17 : decode cX5_takeCode 17 = .ok (.aload_n 0, 1) := by decide +kernel
theorem dX5_takeCode_18 : decode cX5_takeCode 18 = .ok (.getfield 18, 3) := by decide +kernel
theorem dX5_takeCode_21 : decode cX5_takeCode 21 = .ok (.aload_n 0, 1) := by decide +kernel
theorem dX5_takeCode_22 : decode cX5_takeCode 22 = .ok (.invokevirtual 139, 3) := by decide +kernel
theorem dX5_takeCode_25 : decode cX5_takeCode 25 = .ok (.invokevirtual 142, 3) := by decide +kernel
theorem dX5_takeCode_28 : decode cX5_takeCode 28 = .ok (.iconst (-1), 1) := by decide +kernel
theorem dX5_takeCode_29 : decode cX5_takeCode 29 = .ok (.if_icmp .eq 9, 3) := by decide +kernel
theorem dX5_takeCode_32 : decode cX5_takeCode 32 = .ok (.aload_n 0, 1) := by decide +kernel
theorem dX5_takeCode_33 : decode cX5_takeCode 33 = .ok (.bipush (-3), 2) := by decide +kernel
theorem dX5_takeCode_35 : decode cX5_takeCode 35 = .ok (.invokevirtual 54, 3) := by decide +kernel
theorem dX5_takeCode_38 : decode cX5_takeCode 38 = .ok (.aload_n 0, 1) := by decide +kernel
theorem dX5_takeCode_39 : decode cX5_takeCode 39 = .ok (.iconst 0, 1) := by decide +kernel
theorem dX5_takeCode_40 : decode cX5_takeCode 40 = .ok (.bipush 99, 2) := by decide +kernel
theorem dX5_takeCode_42 : decode cX5_takeCode 42 = .ok (.invokevirtual 69, 3) := by decide +kernel
theorem dX5_takeCode_45 : decode cX5_takeCode 45 = .ok (.ireturn, 1) := by decide +kernel
theorem dX5_takeTypes_0 : decode cX5_takeTypes 0 = .ok (.iconst 1, 1) := by decide +kernel
theorem dX5_takeTypes_1 : decode cX5_takeTypes 1 = .ok (.aload_n 0, 1) := by decide +kernel
theorem dX5_takeTypes_2 : decode cX5_takeTypes 2 = .ok (.iconst 0, 1) := by decide +kernel
theorem dX5_takeTypes_3 : decode cX5_takeTypes 3 = .ok (.bipush 7, 2) := by decide +kernel
theorem dX5_takeTypes_5 : decode cX5_takeTypes 5 = .ok (.invokevirtual 69, 3) := by decide +kernel
theorem dX5_takeTypes_8 : decode cX5_takeTypes 8 = .ok (.ishl, 1) := by decide +kernel
theorem dX5_takeTypes_9 : decode cX5_takeTypes 9 = .ok (.istore_n 1, 1) := by decide +kernel
theorem dX5_takeTypes_10 : decode cX5_takeTypes 10 = .ok (.iconst 0, 1) := by decide +kernel
theorem dX5_takeTypes_11 : decode cX5_takeTypes 11 = .ok (.istore_n 2, 1) := by decide +kernel
theorem dX5_takeTypes_12 : decode cX5_takeTypes 12 = .ok (.iload_n 2, 1) := by decide +kernel
theorem dX5_takeTypes_13 : decode cX5_takeTypes 13 = .ok (.bipush 7, 2) := by decide +kernel
theorem dX5_takeTypes_15 : decode cX5_takeTypes 15 = .ok (.if_icmp .gt 64, 3) := by decide +kernel
theorem dX5_takeTypes_18 : decode cX5_takeTypes 18 = .ok (.aload_n 0, 1) := by decide +kernel
theorem dX5_takeTypes_19 : decode cX5_takeTypes 19 = .ok (.invokevirtual 31, 3) := by decide +kernel
theorem dX5_takeTypes_22 : decode cX5_takeTypes 22 = .ok (.ifCond .eq 57, 3) := by decide +kernel
theorem dX5_takeTypes_25 : decode cX5_takeTypes 25 = .ok (.aload_n 0, 1) := by decide +kernel
theorem dX5_takeTypes_26 : decode cX5_takeTypes 26 = .ok (.invokevirtual 35, 3) := by decide +kernel
theorem dX5_takeTypes_29 : decode cX5_takeTypes 29 = .ok (.sipush 256, 3) := by decide +kernel
theorem dX5_takeTypes_32 : decode cX5_takeTypes 32 = .ok (.if_icmp .ne 47, 3) := by decide +kernel
theorem dX5_takeTypes_35 : decode cX5_takeTypes 35 = .ok (.aload_n 0, 1) := by decide +kernel
theorem dX5_takeTypes_36 : decode cX5_takeTypes 36 = .ok (.invokevirtual 139, 3) := by decide +kernel
theorem dX5_takeTypes_39 : decode cX5_takeTypes 39 = .ok (.bipush 7, 2) := by decide +kernel
theorem dX5_takeTypes_41 : decode cX5_takeTypes 41 = .ok (.if_icmp .gt 20, 3) := by decide +kernel
theorem dX5_takeTypes_44 : decode cX5_takeTypes 44 = .ok (.iload_n 1, 1) := by decide +kernel
theorem dX5_takeTypes_45 : decode cX5_takeTypes 45 = .ok (.aload_n 0, 1) := by decide +kernel
theorem dX5_takeTypes_46 : decode cX5_takeTypes 46 = .ok (.invokevirtual 139, 3) := by decide +kernel
theorem dX5_takeTypes_49 : decode cX5_takeTypes 49 = .ok (.ishr, 1) := by decide +kernel
theorem dX5_takeTypes_50 : decode cX5_takeTypes 50 = .ok (.iconst 1, 1) := by decide +kernel
theorem dX5_takeTypes_51 : decode cX5_takeTypes 51 = .ok (.iand, 1) := by decide +kernel
theorem dX5_takeTypes_52 : decode cX5_takeTypes 52 = .ok (.ifCond .eq 9, 3) := by decide +kernel
theorem dX5_takeTypes_55 : decode cX5_takeTypes 55 = .ok (.aload_n 0, 1) := by decide +kernel
theorem dX5_takeTypes_56 : decode cX5_takeTypes 56 = .ok (.bipush (-3), 2) := by decide +kernel
theorem dX5_takeTypes_58 : decode cX5_takeTypes 58 = .ok (.invokevirtual 54, 3) := by decide +kernel
theorem dX5_takeTypes_61 : decode cX5_takeTypes 61 = .ok (.iload_n 1, 1) := by decide +kernel
theorem dX5_takeTypes_62 : decode cX5_takeTypes 62 = .ok (.iconst 1, 1) := by decide +kernel
theorem dX5_takeTypes_63 : decode cX5_takeTypes 63 = .ok (.aload_n 0, 1) := by decide +kernel
theorem dX5_takeTypes_64 : decode cX5_takeTypes 64 = .ok (.iconst 0, 1) := by decide +kernel
theorem dX5_takeTypes_65 : decode cX5_takeTypes 65 = .ok (.bipush 7, 2) := by decide +kernel
theorem dX5_takeTypes_67 : decode cX5_takeTypes 67 = .ok (.invokevirtual 69, 3) := by decide +kernel
theorem dX5_takeTypes_70 : decode cX5_takeTypes 70 = .ok (.ishl, 1) := by decide +kernel
theorem dX5_takeTypes_71 : decode cX5_takeTypes 71 = .ok (.ior, 1) := by decide +kernel
theorem dX5_takeTypes_72 : decode cX5_takeTypes 72 = .ok (.istore_n 1, 1) := by decide +kernel
theorem dX5_takeTypes_73 : decode cX5_takeTypes 73 = .ok (.iinc 2 1, 3) := by decide +kernel
theorem dX5_takeTypes_76 : decode cX5_takeTypes 76 = .ok (.goto (-64), 3) := by decide +kernel
theorem dX5_takeTypes_79 : decode cX5_takeTypes 79 = .ok (.iload_n 1, 1) := by decide +kernel
theorem dX5_takeTypes_80 : decode cX5_takeTypes 80 = .ok (.ireturn, 1) := by decide +kernel
theorem dX5_takeNumber_0 : decode cX5_takeNumber 0 = .ok (.aload_n 0, 1) := by decide +kernel
theorem dX5_takeNumber_1 : decode cX5_takeNumber 1 = .ok (.invokevirtual 31, 3) := by decide +kernel
theorem dX5_takeNumber_4 : decode cX5_takeNumber 4 = .ok (.ifCond .ne 5, 3) := by decide +kernel
theorem dX5_takeNumber_7 : decode cX5_takeNumber 7 = .ok (.iload_n 1, 1) := by decide +kernel
theorem dX5_takeNumber_8 : decode cX5_takeNumber 8 = .ok (.ireturn, 1) := by decide +kernel
theorem dX5_takeNumber_9 : decode cX5_takeNumber 9 = .ok (.aload_n 0, 1) := by decide +kernel
theorem dX5_takeNumber_10 : decode cX5_takeNumber 10 = .ok (.invokevirtual 35, 3) := by decide +kernel
theorem dX5_takeNumber_13 : decode cX5_takeNumber 13 = .ok (.sipush 256, 3) := by decide +kernel
theorem dX5_takeNumber_16 : decode cX5_takeNumber 16 = .ok (.if_icmp .eq 11, 3) := by decide +kernel
theorem dX5_takeNumber_19 : decode cX5_takeNumber 19 = .ok (.aload_n 0, 1) := by decide +kernel
theorem dX5_takeNumber_20 : decode cX5_takeNumber 20 = .ok (.bipush (-2), 2) := by decide +kernel
theorem dX5_takeNumber_22 : decode cX5_takeNumber 22 = .ok (.invokevirtual 54, 3) := by decide +kernel
theorem dX5_takeNumber_25 : decode cX5_takeNumber 25 = .ok (.iload_n 1, 1) := by decide +kernel
theorem dX5_takeNumber_26 : decode cX5_takeNumber 26 = .ok (.ireturn, 1) := by decide +kernel
theorem dX5_takeNumber_27 : decode cX5_takeNumber 27 = .ok (.aload_n 0, 1) := by decide +kernel
theorem dX5_takeNumber_28 : decode cX5_takeNumber 28 = .ok (.invokevirtual 139, 3) := by decide +kernel
theorem dX5_takeNumber_31 : decode cX5_takeNumber 31 = .ok (.istore_n 3, 1) := by decide +kernel
theorem dX5_takeNumber_32 : decode cX5_takeNumber 32 = .ok (.iload_n 3, 1) := by decide +kernel
theorem dX5_takeNumber_33 : decode cX5_takeNumber 33 = .ok (.iload_n 1, 1) := by decide +kernel
theorem dX5_takeNumber_34 : decode cX5_takeNumber 34 = .ok (.if_icmp .lt 8, 3) := by decide +kernel
theorem dX5_takeNumber_37 : decode cX5_takeNumber 37 = .ok (.iload_n 3, 1) := by decide +kernel
theorem dX5_takeNumber_38 : decode cX5_takeNumber 38 = .ok (.iload_n 2, 1) := by decide +kernel
theorem dX5_takeNumber_39 : decode cX5_takeNumber 39 = .ok (.if_icmp .le 11, 3) := by decide +kernel
theorem dX5_takeNumber_42 : decode cX5_takeNumber 42 = .ok (.aload_n 0, 1) := by decide +kernel
theorem dX5_takeNumber_43 : decode cX5_takeNumber 43 = .ok (.bipush (-3), 2) := by decide +kernel
theorem dX5_takeNumber_45 : decode cX5_takeNumber 45 = .ok (.invokevirtual 54, 3) := by decide +kernel
theorem dX5_takeNumber_48 : decode cX5_takeNumber 48 = .ok (.iload_n 1, 1) := by decide +kernel
theorem dX5_takeNumber_49 : decode cX5_takeNumber 49 = .ok (.ireturn, 1) := by decide +kernel
theorem dX5_takeNumber_50 : decode cX5_takeNumber 50 = .ok (.aload_n 0, 1) := by decide +kernel
theorem dX5_takeNumber_51 : decode cX5_takeNumber 51 = .ok (.invokevirtual 82, 3) := by decide +kernel
theorem dX5_takeNumber_54 : decode cX5_takeNumber 54 = .ok (.iload_n 3, 1) := by decide +kernel
theorem dX5_takeNumber_55 : decode cX5_takeNumber 55 = .ok (.ireturn, 1) := by decide +kernel
theorem dX5_isFine_0 : decode cX5_isFine 0 = .ok (.aload_n 0, 1) := by decide +kernel
theorem dX5_isFine_1 : decode cX5_isFine 1 = .ok (.getfield 146, 3) := by decide +kernel
theorem dX5_isFine_4 : decode cX5_isFine 4 = .ok (.ifCond .ne 7, 3) := by decide +kernel
theorem dX5_isFine_7 : decode cX5_isFine 7 = .ok (.iconst 1, 1) := by decide +kernel
theorem dX5_isFine_8 : decode cX5_isFine 8 = .ok (.goto 4, 3) := by decide +kernel
theorem dX5_isFine_11 : decode cX5_isFine 11 = .ok (.iconst 0, 1) := by decide +kernel
theorem dX5_isFine_12 : decode cX5_isFine 12 = .ok (.ireturn, 1) := by decide +kernel
theorem dX5_fail_0 : decode cX5_fail 0 = .ok (.aload_n 0, 1) := by decide +kernel
theorem dX5_fail_1 : decode cX5_fail 1 = .ok (.getfield 146, 3) := by decide +kernel
theorem dX5_fail_4 : decode cX5_fail 4 = .ok (.ifCond .ne 39, 3) := by decide +kernel
theorem dX5_fail_7 : decode cX5_fail 7 = .ok (.aload_n 0, 1) := by decide +kernel
theorem dX5_fail_8 : decode cX5_fail 8 = .ok (.getfield 149, 3) := by decide +kernel
theorem dX5_fail_11 : decode cX5_fail 11 = .ok (.aload_n 0, 1) := by decide +kernel
theorem dX5_fail_12 : decode cX5_fail 12 = .ok (.getfield 9, 3) := by decide +kernel
theorem dX5_fail_15 : decode cX5_fail 15 = .ok (.getfield 152, 3) := by decide +kernel
theorem dX5_fail_18 : decode cX5_fail 18 = .ok (.arraylength, 1) := by decide +kernel
theorem dX5_fail_19 : decode cX5_fail 19 = .ok (.if_icmp .ge 24, 3) := by decide +kernel
theorem dX5_fail_22 : decode cX5_fail 22 = .ok (.aload_n 0, 1) := by decide +kernel
theorem dX5_fail_23 : decode cX5_fail 23 = .ok (.iload_n 1, 1) := by decide +kernel
theorem dX5_fail_24 : decode cX5_fail 24 = .ok (.putfield 146, 3) := by decide +kernel
theorem dX5_fail_27 : decode cX5_fail 27 = .ok (.aload_n 0, 1) := by decide +kernel
theorem dX5_fail_28 : decode cX5_fail 28 = .ok (.aload_n 0, 1) := by decide +kernel
theorem dX5_fail_29 : decode cX5_fail 29 = .ok (.getfield 9, 3) := by decide +kernel
theorem dX5_fail_32 : decode cX5_fail 32 = .ok (.getfield 152, 3) := by decide +kernel
theorem dX5_fail_35 : decode cX5_fail 35 = .ok (.aload_n 0, 1) := by decide +kernel
theorem dX5_fail_36 : decode cX5_fail 36 = .ok (.getfield 149, 3) := by decide +kernel
theorem dX5_fail_39 : decode cX5_fail 39 = .ok (.iaload, 1) := by decide +kernel
theorem dX5_fail_40 : decode cX5_fail 40 = .ok (.putfield 156, 3) := by decide +kernel
theorem dX5_fail_43 : decode cX5_fail 43 = .ok (.return_, 1) := by decide +kernel
theorem dX5_kind_0 : decode cX5_kind 0 = .ok (.aload_n 0, 1) := by decide +kernel
theorem dX5_kind_1 : decode cX5_kind 1 = .ok (.getfield 149, 3) := by decide +kernel
theorem dX5_kind_4 : decode cX5_kind 4 = .ok (.aload_n 0, 1) := by decide +kernel
theorem dX5_kind_5 : decode cX5_kind 5 = .ok (.getfield 9, 3) := by decide +kernel
theorem dX5_kind_8 : decode cX5_kind 8 = .ok (.getfield 159, 3) := by decide +kernel
theorem dX5_kind_11 : decode cX5_kind 11 = .ok (.arraylength, 1) := by decide +kernel
theorem dX5_kind_12 : decode cX5_kind 12 = .ok (.if_icmp .ge 18, 3) := by decide +kernel
theorem dX5_kind_15 : decode cX5_kind 15 = .ok (.aload_n 0, 1) := by decide +kernel
theorem dX5_kind_16 : decode cX5_kind 16 = .ok (.getfield 9, 3) := by decide +kernel
theorem dX5_kind_19 : decode cX5_kind 19 = .ok (.getfield 159, 3) := by decide +kernel
theorem dX5_kind_22 : decode cX5_kind 22 = .ok (.aload_n 0, 1) := by decide +kernel
theorem dX5_kind_23 : decode cX5_kind 23 = .ok (.getfield 149, 3) := by decide +kernel
theorem dX5_kind_26 : decode cX5_kind 26 = .ok (.iaload, 1) := by decide +kernel
theorem dX5_kind_27 : decode cX5_kind 27 = .ok (.goto 4, 3) := by decide +kernel
theorem dX5_kind_30 : decode cX5_kind 30 = .ok (.iconst (-1), 1) := by decide +kernel
theorem dX5_kind_31 : decode cX5_kind 31 = .ok (.ireturn, 1) := by decide +kernel
theorem dX5_value_0 : decode cX5_value 0 = .ok (.aload_n 0, 1) := by decide +kernel
theorem dX5_value_1 : decode cX5_value 1 = .ok (.getfield 149, 3) := by decide +kernel
theorem dX5_value_4 : decode cX5_value 4 = .ok (.aload_n 0, 1) := by decide +kernel
theorem dX5_value_5 : decode cX5_value 5 = .ok (.getfield 9, 3) := by decide +kernel
theorem dX5_value_8 : decode cX5_value 8 = .ok (.getfield 162, 3) := by decide +kernel
theorem dX5_value_11 : decode cX5_value 11 = .ok (.arraylength, 1) := by decide +kernel
theorem dX5_value_12 : decode cX5_value 12 = .ok (.if_icmp .ge 18, 3) := by decide +kernel
theorem dX5_value_15 : decode cX5_value 15 = .ok (.aload_n 0, 1) := by decide +kernel
theorem dX5_value_16 : decode cX5_value 16 = .ok (.getfield 9, 3) := by decide +kernel
theorem dX5_value_19 : decode cX5_value 19 = .ok (.getfield 162, 3) := by decide +kernel
theorem dX5_value_22 : decode cX5_value 22 = .ok (.aload_n 0, 1) := by decide +kernel
theorem dX5_value_23 : decode cX5_value 23 = .ok (.getfield 149, 3) := by decide +kernel
theorem dX5_value_26 : decode cX5_value 26 = .ok (.iaload, 1) := by decide +kernel
theorem dX5_value_27 : decode cX5_value 27 = .ok (.goto 4, 3) := by decide +kernel
theorem dX5_value_30 : decode cX5_value 30 = .ok (.iconst 0, 1) := by decide +kernel
theorem dX5_value_31 : decode cX5_value 31 = .ok (.ireturn, 1) := by decide +kernel
theorem dX5_step_0 : decode cX5_step 0 = .ok (.aload_n 0, 1) := by decide +kernel
theorem dX5_step_1 : decode cX5_step 1 = .ok (.getfield 149, 3) := by decide +kernel
theorem dX5_step_4 : decode cX5_step 4 = .ok (.iconst 1, 1) := by decide +kernel
theorem dX5_step_5 : decode cX5_step 5 = .ok (.iadd, 1) := by decide +kernel
theorem dX5_step_6 : decode cX5_step 6 = .ok (.aload_n 0, 1) := by decide +kernel
theorem dX5_step_7 : decode cX5_step 7 = .ok (.getfield 9, 3) := by decide +kernel
theorem dX5_step_10 : decode cX5_step 10 = .ok (.getfield 27, 3) := by decide +kernel
theorem dX5_step_13 : decode cX5_step 13 = .ok (.if_icmp .ge 13, 3) := by decide +kernel
theorem dX5_step_16 : decode cX5_step 16 = .ok (.aload_n 0, 1) := by decide +kernel
theorem dX5_step_17 : decode cX5_step 17 = .ok (.dup, 1) := by decide +kernel
theorem dX5_step_18 : decode cX5_step 18 = .ok (.getfield 149, 3) := by decide +kernel
theorem dX5_step_21 : decode cX5_step 21 = .ok (.iconst 1, 1) := by decide +kernel
theorem dX5_step_22 : decode cX5_step 22 = .ok (.iadd, 1) := by decide +kernel
theorem dX5_step_23 : decode cX5_step 23 = .ok (.putfield 149, 3) := by decide +kernel
theorem dX5_step_26 : decode cX5_step 26 = .ok (.return_, 1) := by decide +kernel
end
section
theorem dX6_init_0 : decode cX6_init 0 = .ok (.aload_n 0, 1) := by decide +kernel
theorem dX6_init_1 : decode cX6_init 1 = .ok (.invokespecial 1, 3) := by decide +kernel
theorem dX6_init_4 : decode cX6_init 4 = .ok (.aload_n 0, 1) := by decide +kernel
theorem dX6_init_5 : decode cX6_init 5 = .ok (.aload_n 1, 1) := by decide +kernel
theorem dX6_init_6 : decode cX6_init 6 = .ok (.putfield 7, 3) := by decide +kernel
theorem dX6_init_9 : decode cX6_init 9 = .ok (.aload_n 0, 1) := by decide +kernel
theorem dX6_init_10 : decode cX6_init 10 = .ok (.iconst 0, 1) := by decide +kernel
theorem dX6_init_11 : decode cX6_init 11 = .ok (.iload_n 2, 1) := by decide +kernel
theorem dX6_init_12 : decode cX6_init 12 = .ok (.aload_n 1, 1) := by decide +kernel
theorem dX6_init_13 : decode cX6_init 13 = .ok (.arraylength, 1) := by decide +kernel
theorem dX6_init_14 : decode cX6_init 14 = .ok (.invokestatic 13, 3) := by decide +kernel
theorem dX6_init_17 : decode cX6_init 17 = .ok (.invokestatic 19, 3) := by decide +kernel
theorem dX6_init_20 : decode cX6_init 20 = .ok (.putfield 22, 3) := by decide +kernel
theorem dX6_init_23 : decode cX6_init 23 = .ok (.aload_n 0, 1) := by decide +kernel
theorem dX6_init_24 : decode cX6_init 24 = .ok (.aload_n 0, 1) := by decide +kernel
theorem dX6_init_25 : decode cX6_init 25 = .ok (.getfield 22, 3) := by decide +kernel
theorem dX6_init_28 : decode cX6_init 28 = .ok (.iconst 1, 1) := by decide +kernel
theorem dX6_init_29 : decode cX6_init 29 = .ok (.iadd, 1) := by decide +kernel
theorem dX6_init_30 : decode cX6_init 30 = .ok (.newarray .int, 2) := by decide +kernel
theorem dX6_init_32 : decode cX6_init 32 = .ok (.putfield 26, 3) := by decide +kernel
theorem dX6_init_35 : decode cX6_init 35 = .ok (.aload_n 0, 1) := by decide +kernel
theorem dX6_init_36 : decode cX6_init 36 = .ok (.aload_n 0, 1) := by decide +kernel
theorem dX6_init_37 : decode cX6_init 37 = .ok (.getfield 22, 3) := by decide +kernel
theorem dX6_init_40 : decode cX6_init 40 = .ok (.iconst 1, 1) := by decide +kernel
theorem dX6_init_41 : decode cX6_init 41 = .ok (.iadd, 1) := by decide +kernel
theorem dX6_init_42 : decode cX6_init 42 = .ok (.newarray .int, 2) := by decide +kernel
theorem dX6_init_44 : decode cX6_init 44 = .ok (.putfield 30, 3) := by decide +kernel
theorem dX6_init_47 : decode cX6_init 47 = .ok (.aload_n 0, 1) := by decide +kernel
theorem dX6_init_48 : decode cX6_init 48 = .ok (.aload_n 0, 1) := by decide +kernel
theorem dX6_init_49 : decode cX6_init 49 = .ok (.getfield 22, 3) := by decide +kernel
theorem dX6_init_52 : decode cX6_init 52 = .ok (.iconst 1, 1) := by decide +kernel
theorem dX6_init_53 : decode cX6_init 53 = .ok (.iadd, 1) := by decide +kernel
theorem dX6_init_54 : decode cX6_init 54 = .ok (.newarray .int, 2) := by decide +kernel
theorem dX6_init_56 : decode cX6_init 56 = .ok (.putfield 33, 3) := by decide +kernel
theorem dX6_init_59 : decode cX6_init 59 = .ok (.return_, 1) := by decide +kernel
theorem dX6_cut_0 : decode cX6_cut 0 = .ok (.iconst 0, 1) := by decide +kernel
theorem dX6_cut_1 : decode cX6_cut 1 = .ok (.istore_n 1, 1) := by decide +kernel
theorem dX6_cut_2 : decode cX6_cut 2 = .ok (.iconst 0, 1) := by decide +kernel
theorem dX6_cut_3 : decode cX6_cut 3 = .ok (.istore_n 2, 1) := by decide +kernel
theorem dX6_cut_4 : decode cX6_cut 4 = .ok (.iload_n 2, 1) := by decide +kernel
theorem dX6_cut_5 : decode cX6_cut 5 = .ok (.aload_n 0, 1) := by decide +kernel
theorem dX6_cut_6 : decode cX6_cut 6 = .ok (.getfield 22, 3) := by decide +kernel
theorem dX6_cut_9 : decode cX6_cut 9 = .ok (.if_icmp .ge 109, 3) := by decide +kernel
theorem dX6_cut_12 : decode cX6_cut 12 = .ok (.aload_n 0, 1) := by decide +kernel
theorem dX6_cut_13 : decode cX6_cut 13 = .ok (.getfield 7, 3) := by decide +kernel
theorem dX6_cut_16 : decode cX6_cut 16 = .ok (.iload_n 2, 1) := by decide +kernel
theorem dX6_cut_17 : decode cX6_cut 17 = .ok (.baload, 1) := by decide +kernel
theorem dX6_cut_18 : decode cX6_cut 18 = .ok (.invokestatic 36, 3) := by decide +kernel
theorem dX6_cut_21 : decode cX6_cut 21 = .ok (.ifCond .eq 26, 3) := by decide +kernel
theorem dX6_cut_24 : decode cX6_cut 24 = .ok (.aload_n 0, 1) := by decide +kernel
theorem dX6_cut_25 : decode cX6_cut 25 = .ok (.iload_n 2, 1) := by decide +kernel
theorem dX6_cut_26 : decode cX6_cut 26 = .ok (.invokevirtual 40, 3) := by decide +kernel
theorem dX6_cut_29 : decode cX6_cut 29 = .ok (.istore_n 1, 1) := by decide +kernel
theorem dX6_cut_30 : decode cX6_cut 30 = .ok (.aload_n 0, 1) := by decide +kernel
theorem dX6_cut_31 : decode cX6_cut 31 = .ok (.sipush 256, 3) := by decide +kernel
theorem dX6_cut_34 : decode cX6_cut 34 = .ok (.iload_n 2, 1) := by decide +kernel
theorem dX6_cut_35 : decode cX6_cut 35 = .ok (.aload_n 0, 1) := by decide +kernel
theorem dX6_cut_36 : decode cX6_cut 36 = .ok (.iload_n 2, 1) := by decide +kernel
theorem dX6_cut_37 : decode cX6_cut 37 = .ok (.iload_n 1, 1) := by decide +kernel
theorem dX6_cut_38 : decode cX6_cut 38 = .ok (.invokevirtual 44, 3) := by decide +kernel
theorem dX6_cut_41 : decode cX6_cut 41 = .ok (.invokevirtual 47, 3) := by decide +kernel
theorem dX6_cut_44 : decode cX6_cut 44 = .ok (.goto 63, 3) := by decide +kernel
theorem dX6_cut_47 : decode cX6_cut 47 = .ok (.aload_n 0, 1) := by decide +kernel
theorem dX6_cut_48 : decode cX6_cut 48 = .ok (.getfield 7, 3) := by decide +kernel
theorem dX6_cut_51 : decode cX6_cut 51 = .ok (.iload_n 2, 1) := by decide +kernel
theorem dX6_cut_52 : decode cX6_cut 52 = .ok (.baload, 1) := by decide +kernel
theorem dX6_cut_53 : decode cX6_cut 53 = .ok (.invokestatic 51, 3) := by decide +kernel
theorem dX6_cut_56 : decode cX6_cut 56 = .ok (.ifCond .eq 24, 3) := by decide +kernel
theorem dX6_cut_59 : decode cX6_cut 59 = .ok (.aload_n 0, 1) := by decide +kernel
theorem dX6_cut_60 : decode cX6_cut 60 = .ok (.iload_n 2, 1) := by decide +kernel
theorem dX6_cut_61 : decode cX6_cut 61 = .ok (.invokevirtual 54, 3) := by decide +kernel
theorem dX6_cut_64 : decode cX6_cut 64 = .ok (.istore_n 1, 1) := by decide +kernel
theorem dX6_cut_65 : decode cX6_cut 65 = .ok (.aload_n 0, 1) := by decide +kernel
theorem dX6_cut_66 : decode cX6_cut 66 = .ok (.aload_n 0, 1) := by decide +kernel
theorem dX6_cut_67 : decode cX6_cut 67 = .ok (.iload_n 2, 1) := by decide +kernel
theorem dX6_cut_68 : decode cX6_cut 68 = .ok (.iload_n 1, 1) := by decide +kernel
theorem dX6_cut_69 : decode cX6_cut 69 = .ok (.invokevirtual 57, 3) := by decide +kernel
theorem dX6_cut_72 : decode cX6_cut 72 = .ok (.iload_n 2, 1) := by decide +kernel
theorem dX6_cut_73 : decode cX6_cut 73 = .ok (.iconst 0, 1) := by decide +kernel
theorem dX6_cut_74 : decode cX6_cut 74 = .ok (.invokevirtual 47, 3) := by decide +kernel
theorem dX6_cut_77 : decode cX6_cut 77 = .ok (.goto 30, 3) := by decide +kernel
theorem dX6_cut_80 : decode cX6_cut 80 = .ok (.aload_n 0, 1) := by decide +kernel
theorem dX6_cut_81 : decode cX6_cut 81 = .ok (.getfield 7, 3) := by decide +kernel
theorem dX6_cut_84 : decode cX6_cut 84 = .ok (.iload_n 2, 1) := by decide +kernel
theorem dX6_cut_85 : decode cX6_cut 85 = .ok (.baload, 1) := by decide +kernel
theorem dX6_cut_86 : decode cX6_cut 86 = .ok (.bipush 32, 2) := by decide +kernel
theorem dX6_cut_88 : decode cX6_cut 88 = .ok (.if_icmp .eq 19, 3) := by decide +kernel
theorem dX6_cut_91 : decode cX6_cut 91 = .ok (.aload_n 0, 1) := by decide +kernel
theorem dX6_cut_92 : decode cX6_cut 92 = .ok (.aload_n 0, 1) := by decide +kernel
theorem dX6_cut_93 : decode cX6_cut 93 = .ok (.getfield 7, 3) := by decide +kernel
theorem dX6_cut_96 : decode cX6_cut 96 = .ok (.iload_n 2, 1) := by decide +kernel
theorem dX6_cut_97 : decode cX6_cut 97 = .ok (.baload, 1) := by decide +kernel
theorem dX6_cut_98 : decode cX6_cut 98 = .ok (.sipush 255, 3) := by decide +kernel
theorem dX6_cut_101 : decode cX6_cut 101 = .ok (.iand, 1) := by decide +kernel
theorem dX6_cut_102 : decode cX6_cut 102 = .ok (.iload_n 2, 1) := by decide +kernel
theorem dX6_cut_103 : decode cX6_cut 103 = .ok (.iconst 0, 1) := by decide +kernel
theorem dX6_cut_104 : decode cX6_cut 104 = .ok (.invokevirtual 47, 3) := by decide +kernel
theorem dX6_cut_107 : decode cX6_cut 107 = .ok (.iload_n 2, 1) := by decide +kernel
theorem dX6_cut_108 : decode cX6_cut 108 = .ok (.iconst 1, 1) := by decide +kernel
theorem dX6_cut_109 : decode cX6_cut 109 = .ok (.iadd, 1) := by decide +kernel
theorem dX6_cut_110 : decode cX6_cut 110 = .ok (.iload_n 1, 1) := by decide +kernel
theorem dX6_cut_111 : decode cX6_cut 111 = .ok (.invokestatic 19, 3) := by decide +kernel
theorem dX6_cut_114 : decode cX6_cut 114 = .ok (.istore_n 2, 1) := by decide +kernel
theorem dX6_cut_115 : decode cX6_cut 115 = .ok (.goto (-111), 3) := by decide +kernel
theorem dX6_cut_118 : decode cX6_cut 118 = .ok (.aload_n 0, 1) := by decide +kernel
theorem dX6_cut_119 : decode cX6_cut 119 = .ok (.iconst (-1), 1) := by decide +kernel
theorem dX6_cut_120 : decode cX6_cut 120 = .ok (.aload_n 0, 1) := by decide +kernel
theorem dX6_cut_121 : decode cX6_cut 121 = .ok (.getfield 22, 3) := by decide +kernel
theorem dX6_cut_124 : decode cX6_cut 124 = .ok (.iconst 0, 1) := by decide +kernel
theorem dX6_cut_125 : decode cX6_cut 125 = .ok (.invokevirtual 47, 3) := by decide +kernel
theorem dX6_cut_128 : decode cX6_cut 128 = .ok (.return_, 1) := by decide +kernel
theorem dX6_add_0 : decode cX6_add 0 = .ok (.aload_n 0, 1) := by decide +kernel
theorem dX6_add_1 : decode cX6_add 1 = .ok (.getfield 60, 3) := by decide +kernel
theorem dX6_add_4 : decode cX6_add 4 = .ok (.aload_n 0, 1) := by decide +kernel
theorem dX6_add_5 : decode cX6_add 5 = .ok (.getfield 26, 3) := by decide +kernel
theorem dX6_add_8 : decode cX6_add 8 = .ok (.arraylength, 1) := by decide +kernel
theorem dX6_add_9 : decode cX6_add 9 = .ok (.if_icmp .ge 43, 3) := by decide +kernel
theorem dX6_add_12 : decode cX6_add 12 = .ok (.aload_n 0, 1) := by decide +kernel
theorem dX6_add_13 : decode cX6_add 13 = .ok (.getfield 26, 3) := by decide +kernel
theorem dX6_add_16 : decode cX6_add 16 = .ok (.aload_n 0, 1) := by decide +kernel
theorem dX6_add_17 : decode cX6_add 17 = .ok (.getfield 60, 3) := by decide +kernel
theorem dX6_add_20 : decode cX6_add 20 = .ok (.iload_n 1, 1) := by decide +kernel
theorem dX6_add_21 : decode cX6_add 21 = .ok (.iastore, 1) := by decide +kernel
theorem dX6_add_22 : decode cX6_add 22 = .ok (.aload_n 0, 1) := by decide +kernel
theorem dX6_add_23 : decode cX6_add 23 = .ok (.getfield 30, 3) := by decide +kernel
theorem dX6_add_26 : decode cX6_add 26 = .ok (.aload_n 0, 1) := by decide +kernel
theorem dX6_add_27 : decode cX6_add 27 = .ok (.getfield 60, 3) := by decide +kernel
theorem dX6_add_30 : decode cX6_add 30 = .ok (.iload_n 2, 1) := by decide +kernel
theorem dX6_add_31 : decode cX6_add 31 = .ok (.iastore, 1) := by decide +kernel
theorem dX6_add_32 : decode cX6_add 32 = .ok (.aload_n 0, 1) := by decide +kernel
theorem dX6_add_33 : decode cX6_add 33 = .ok (.getfield 33, 3) := by decide +kernel
theorem dX6_add_36 : decode cX6_add 36 = .ok (.aload_n 0, 1) := by decide +kernel
theorem dX6_add_37 : decode cX6_add 37 = .ok (.getfield 60, 3) := by decide +kernel
theorem dX6_add_40 : decode cX6_add 40 = .ok (.iload_n 3, 1) := by decide +kernel
theorem dX6_add_41 : decode cX6_add 41 = .ok (.iastore, 1) := by decide +kernel
theorem dX6_add_42 : decode cX6_add 42 = .ok (.aload_n 0, 1) := by decide +kernel
theorem dX6_add_43 : decode cX6_add 43 = .ok (.dup, 1) := by decide +kernel
theorem dX6_add_44 : decode cX6_add 44 = .ok (.getfield 60, 3) := by decide +kernel
theorem dX6_add_47 : decode cX6_add 47 = .ok (.iconst 1, 1) := by decide +kernel
theorem dX6_add_48 : decode cX6_add 48 = .ok (.iadd, 1) := by decide +kernel
theorem dX6_add_49 : decode cX6_add 49 = .ok (.putfield 60, 3) := by decide +kernel
theorem dX6_add_52 : decode cX6_add 52 = .ok (.return_, 1) := by decide +kernel
theorem dX6_endOfDigits_0 : decode cX6_endOfDigits 0 = .ok (.iload_n 1, 1) := by decide +kernel
theorem dX6_endOfDigits_1 : decode cX6_endOfDigits 1 = .ok (.istore_n 2, 1) := by decide +kernel
theorem dX6_endOfDigits_2 : decode cX6_endOfDigits 2 = .ok (.iload_n 2, 1) := by decide +kernel
theorem dX6_endOfDigits_3 : decode cX6_endOfDigits 3 = .ok (.aload_n 0, 1) := by decide +kernel
theorem dX6_endOfDigits_4 : decode cX6_endOfDigits 4 = .ok (.getfield 22, 3) := by decide +kernel
theorem dX6_endOfDigits_7 : decode cX6_endOfDigits 7 = .ok (.if_icmp .ge 21, 3) := by decide +kernel
theorem dX6_endOfDigits_10 : decode cX6_endOfDigits 10 = .ok (.aload_n 0, 1) := by decide +kernel
theorem dX6_endOfDigits_11 : decode cX6_endOfDigits 11 = .ok (.getfield 7, 3) := by decide +kernel
theorem dX6_endOfDigits_14 : decode cX6_endOfDigits 14 = .ok (.iload_n 2, 1) := by decide +kernel
theorem dX6_endOfDigits_15 : decode cX6_endOfDigits 15 = .ok (.baload, 1) := by decide +kernel
theorem dX6_endOfDigits_16 : decode cX6_endOfDigits 16 = .ok (.invokestatic 36, 3) := by decide +kernel
theorem dX6_endOfDigits_19 : decode cX6_endOfDigits 19 = .ok (.ifCond .eq 9, 3) := by decide +kernel
theorem dX6_endOfDigits_22 : decode cX6_endOfDigits 22 = .ok (.iinc 2 1, 3) := by decide +kernel
theorem dX6_endOfDigits_25 : decode cX6_endOfDigits 25 = .ok (.goto (-23), 3) := by decide +kernel
theorem dX6_endOfDigits_28 : decode cX6_endOfDigits 28 = .ok (.iload_n 2, 1) := by decide +kernel
theorem dX6_endOfDigits_29 : decode cX6_endOfDigits 29 = .ok (.ireturn, 1) := by decide +kernel
theorem dX6_endOfLetters_0 : decode cX6_endOfLetters 0 = .ok (.iload_n 1, 1) := by decide +kernel
theorem dX6_endOfLetters_1 : decode cX6_endOfLetters 1 = .ok (.istore_n 2, 1) := by decide +kernel
theorem dX6_endOfLetters_2 : decode cX6_endOfLetters 2 = .ok (.iload_n 2, 1) := by decide +kernel
theorem dX6_endOfLetters_3 : decode cX6_endOfLetters 3 = .ok (.aload_n 0, 1) := by decide +kernel
theorem dX6_endOfLetters_4 : decode cX6_endOfLetters 4 = .ok (.getfield 22, 3) := by decide +kernel
theorem dX6_endOfLetters_7 : decode cX6_endOfLetters 7 = .ok (.if_icmp .ge 21, 3) := by decide +kernel
theorem dX6_endOfLetters_10 : decode cX6_endOfLetters 10 = .ok (.aload_n 0, 1) := by decide +kernel
theorem dX6_endOfLetters_11 : decode cX6_endOfLetters 11 = .ok (.getfield 7, 3) := by decide +kernel
theorem dX6_endOfLetters_14 : decode cX6_endOfLetters 14 = .ok (.iload_n 2, 1) := by decide +kernel
theorem dX6_endOfLetters_15 : decode cX6_endOfLetters 15 = .ok (.baload, 1) := by decide +kernel
theorem dX6_endOfLetters_16 : decode cX6_endOfLetters 16 = .ok (.invokestatic 51, 3) := by decide +kernel
theorem dX6_endOfLetters_19 : decode cX6_endOfLetters 19 = .ok (.ifCond .eq 9, 3) := by decide +kernel
theorem dX6_endOfLetters_22 : decode cX6_endOfLetters 22 = .ok (.iinc 2 1, 3) := by decide +kernel
theorem dX6_endOfLetters_25 : decode cX6_endOfLetters 25 = .ok (.goto (-23), 3) := by decide +kernel
theorem dX6_endOfLetters_28 : decode cX6_endOfLetters 28 = .ok (.iload_n 2, 1) := by decide +kernel
theorem dX6_endOfLetters_29 : decode cX6_endOfLetters 29 = .ok (.ireturn, 1) := by decide +kernel
theorem dX6_valueOfDigits_0 : decode cX6_valueOfDigits 0 = .ok (.iconst 0, 1) := by decide +kernel
theorem dX6_valueOfDigits_1 : decode cX6_valueOfDigits 1 = .ok (.istore_n 3, 1) := by decide +kernel
theorem dX6_valueOfDigits_2 : decode cX6_valueOfDigits 2 = .ok (.iload_n 1, 1) := by decide +kernel
theorem dX6_valueOfDigits_3 : decode cX6_valueOfDigits 3 = .ok (.istore 4, 2) := by decide +kernel
theorem dX6_valueOfDigits_5 : decode cX6_valueOfDigits 5 = .ok (.iload 4, 2) := by decide +kernel
theorem dX6_valueOfDigits_7 : decode cX6_valueOfDigits 7 = .ok (.iload_n 2, 1) := by decide +kernel
theorem dX6_valueOfDigits_8 : decode cX6_valueOfDigits 8 = .ok (.if_icmp .ge 31, 3) := by decide +kernel
theorem dX6_valueOfDigits_11 : decode cX6_valueOfDigits 11 = .ok (.iload_n 3, 1) := by decide +kernel
theorem dX6_valueOfDigits_12 : decode cX6_valueOfDigits 12 = .ok (.ldc 63, 2) := by decide +kernel
theorem dX6_valueOfDigits_14 : decode cX6_valueOfDigits 14 = .ok (.if_icmp .ge 19, 3) := by decide +kernel
theorem dX6_valueOfDigits_17 : decode cX6_valueOfDigits 17 = .ok (.bipush 10, 2) := by decide +kernel
theorem dX6_valueOfDigits_19 : decode cX6_valueOfDigits 19 = .ok (.iload_n 3, 1) := by decide +kernel
theorem dX6_valueOfDigits_20 : decode cX6_valueOfDigits 20 = .ok (.imul, 1) := by decide +kernel
theorem dX6_valueOfDigits_21 : decode cX6_valueOfDigits 21 = .ok (.aload_n 0, 1) := by decide +kernel
theorem dX6_valueOfDigits_22 : decode cX6_valueOfDigits 22 = .ok (.getfield 7, 3) := by decide +kernel
theorem dX6_valueOfDigits_25 : decode cX6_valueOfDigits 25 = .ok (.iload 4, 2) := by decide +kernel
theorem dX6_valueOfDigits_27 : decode cX6_valueOfDigits 27 = .ok (.baload, 1) := by decide +kernel
theorem dX6_valueOfDigits_28 : decode cX6_valueOfDigits 28 = .ok (.bipush 48, 2) := by decide +kernel
theorem dX6_valueOfDigits_30 : decode cX6_valueOfDigits 30 = .ok (.isub, 1) := by decide +kernel
theorem dX6_valueOfDigits_31 : decode cX6_valueOfDigits 31 = .ok (.iadd, 1) := by decide +kernel
theorem dX6_valueOfDigits_32 : decode cX6_valueOfDigits 32 = .ok (.istore_n 3, 1) := by decide +kernel
theorem dX6_valueOfDigits_33 : decode cX6_valueOfDigits 33 = .ok (.iinc 4 1, 3) := by decide +kernel
theorem dX6_valueOfDigits_36 : decode cX6_valueOfDigits 36 = .ok (.goto (-31), 3) := by decide +kernel
theorem dX6_valueOfDigits_39 : decode cX6_valueOfDigits 39 = .ok (.iload_n 3, 1) := by decide +kernel
theorem dX6_valueOfDigits_40 : decode cX6_valueOfDigits 40 = .ok (.ireturn, 1) := by decide +kernel
theorem dX6_kindOfWord_0 : decode cX6_kindOfWord 0 = .ok (.aload_n 0, 1) := by decide +kernel
theorem dX6_kindOfWord_1 : decode cX6_kindOfWord 1 = .ok (.ldc 64, 2) := by decide +kernel
theorem dX6_kindOfWord_3 : decode cX6_kindOfWord 3 = .ok (.iload_n 1, 1) := by decide +kernel
theorem dX6_kindOfWord_4 : decode cX6_kindOfWord 4 = .ok (.iload_n 2, 1) := by decide +kernel
theorem dX6_kindOfWord_5 : decode cX6_kindOfWord 5 = .ok (.invokevirtual 66, 3) := by decide +kernel
theorem dX6_kindOfWord_8 : decode cX6_kindOfWord 8 = .ok (.ifCond .eq 7, 3) := by decide +kernel
theorem dX6_kindOfWord_11 : decode cX6_kindOfWord 11 = .ok (.sipush 257, 3) := by decide +kernel
theorem dX6_kindOfWord_14 : decode cX6_kindOfWord 14 = .ok (.ireturn, 1) := by decide +kernel
theorem dX6_kindOfWord_15 : decode cX6_kindOfWord 15 = .ok (.aload_n 0, 1) := by decide +kernel
theorem dX6_kindOfWord_16 : decode cX6_kindOfWord 16 = .ok (.ldc 70, 2) := by decide +kernel
theorem dX6_kindOfWord_18 : decode cX6_kindOfWord 18 = .ok (.iload_n 1, 1) := by decide +kernel
theorem dX6_kindOfWord_19 : decode cX6_kindOfWord 19 = .ok (.iload_n 2, 1) := by decide +kernel
theorem dX6_kindOfWord_20 : decode cX6_kindOfWord 20 = .ok (.invokevirtual 66, 3) := by decide +kernel
theorem dX6_kindOfWord_23 : decode cX6_kindOfWord 23 = .ok (.ifCond .eq 7, 3) := by decide +kernel
theorem dX6_kindOfWord_26 : decode cX6_kindOfWord 26 = .ok (.sipush 258, 3) := by decide +kernel
theorem dX6_kindOfWord_29 : decode cX6_kindOfWord 29 = .ok (.ireturn, 1) := by decide +kernel
theorem dX6_kindOfWord_30 : decode cX6_kindOfWord 30 = .ok (.aload_n 0, 1) := by decide +kernel
theorem dX6_kindOfWord_31 : decode cX6_kindOfWord 31 = .ok (.ldc 72, 2) := by decide +kernel
theorem dX6_kindOfWord_33 : decode cX6_kindOfWord 33 = .ok (.iload_n 1, 1) := by decide +kernel
theorem dX6_kindOfWord_34 : decode cX6_kindOfWord 34 = .ok (.iload_n 2, 1) := by decide +kernel
theorem dX6_kindOfWord_35 : decode cX6_kindOfWord 35 = .ok (.invokevirtual 66, 3) := by decide +kernel
theorem dX6_kindOfWord_38 : decode cX6_kindOfWord 38 = .ok (.ifCond .eq 7, 3) := by decide +kernel
theorem dX6_kindOfWord_41 : decode cX6_kindOfWord 41 = .ok (.sipush 259, 3) := by decide +kernel
theorem dX6_kindOfWord_44 : decode cX6_kindOfWord 44 = .ok (.ireturn, 1) := by decide +kernel
theorem dX6_kindOfWord_45 : decode cX6_kindOfWord 45 = .ok (.aload_n 0, 1) := by decide +kernel
theorem dX6_kindOfWord_46 : decode cX6_kindOfWord 46 = .ok (.ldc 74, 2) := by decide +kernel
theorem dX6_kindOfWord_48 : decode cX6_kindOfWord 48 = .ok (.iload_n 1, 1) := by decide +kernel
theorem dX6_kindOfWord_49 : decode cX6_kindOfWord 49 = .ok (.iload_n 2, 1) := by decide +kernel
theorem dX6_kindOfWord_50 : decode cX6_kindOfWord 50 = .ok (.invokevirtual 66, 3) := by decide +kernel
theorem dX6_kindOfWord_53 : decode cX6_kindOfWord 53 = .ok (.ifCond .eq 7, 3) := by decide +kernel
theorem dX6_kindOfWord_56 : decode cX6_kindOfWord 56 = .ok (.sipush 260, 3) := by decide +kernel
theorem dX6_kindOfWord_59 : decode cX6_kindOfWord 59 = .ok (.ireturn, 1) := by decide +kernel
theorem dX6_kindOfWord_60 : decode cX6_kindOfWord 60 = .ok (.aload_n 0, 1) := by decide +kernel
theorem dX6_kindOfWord_61 : decode cX6_kindOfWord 61 = .ok (.ldc 76, 2) := by decide +kernel
theorem dX6_kindOfWord_63 : decode cX6_kindOfWord 63 = .ok (.iload_n 1, 1) := by decide +kernel
theorem dX6_kindOfWord_64 : decode cX6_kindOfWord 64 = .ok (.iload_n 2, 1) := by decide +kernel
theorem dX6_kindOfWord_65 : decode cX6_kindOfWord 65 = .ok (.invokevirtual 66, 3) := by decide +kernel
theorem dX6_kindOfWord_68 : decode cX6_kindOfWord 68 = .ok (.ifCond .eq 7, 3) := by decide +kernel
theorem dX6_kindOfWord_71 : decode cX6_kindOfWord 71 = .ok (.sipush 261, 3) := by decide +kernel
theorem dX6_kindOfWord_74 : decode cX6_kindOfWord 74 = .ok (.ireturn, 1) := by decide +kernel
theorem dX6_kindOfWord_75 : decode cX6_kindOfWord 75 = .ok (.aload_n 0, 1) := by decide +kernel
theorem dX6_kindOfWord_76 : decode cX6_kindOfWord 76 = .ok (.ldc 78, 2) := by decide +kernel
theorem dX6_kindOfWord_78 : decode cX6_kindOfWord 78 = .ok (.iload_n 1, 1) := by decide +kernel
theorem dX6_kindOfWord_79 : decode cX6_kindOfWord 79 = .ok (.iload_n 2, 1) := by decide +kernel
theorem dX6_kindOfWord_80 : decode cX6_kindOfWord 80 = .ok (.invokevirtual 66, 3) := by decide +kernel
theorem dX6_kindOfWord_83 : decode cX6_kindOfWord 83 = .ok (.ifCond .eq 7, 3) := by decide +kernel
theorem dX6_kindOfWord_86 : decode cX6_kindOfWord 86 = .ok (.sipush 262, 3) := by decide +kernel
theorem dX6_kindOfWord_89 : decode cX6_kindOfWord 89 = .ok (.ireturn, 1) := by decide +kernel
theorem dX6_kindOfWord_90 : decode cX6_kindOfWord 90 = .ok (.aload_n 0, 1) := by decide +kernel
theorem dX6_kindOfWord_91 : decode cX6_kindOfWord 91 = .ok (.ldc 80, 2) := by decide +kernel
theorem dX6_kindOfWord_93 : decode cX6_kindOfWord 93 = .ok (.iload_n 1, 1) := by decide +kernel
theorem dX6_kindOfWord_94 : decode cX6_kindOfWord 94 = .ok (.iload_n 2, 1) := by decide +kernel
theorem dX6_kindOfWord_95 : decode cX6_kindOfWord 95 = .ok (.invokevirtual 66, 3) := by decide +kernel
theorem dX6_kindOfWord_98 : decode cX6_kindOfWord 98 = .ok (.ifCond .eq 7, 3) := by decide +kernel
theorem dX6_kindOfWord_101 : decode cX6_kindOfWord 101 = .ok (.sipush 263, 3) := by decide +kernel
theorem dX6_kindOfWord_104 : decode cX6_kindOfWord 104 = .ok (.ireturn, 1) := by decide +kernel
theorem dX6_kindOfWord_105 : decode cX6_kindOfWord 105 = .ok (.aload_n 0, 1) := by decide +kernel
theorem dX6_kindOfWord_106 : decode cX6_kindOfWord 106 = .ok (.ldc 81, 2) := by decide +kernel
theorem dX6_kindOfWord_108 : decode cX6_kindOfWord 108 = .ok (.iload_n 1, 1) := by decide +kernel
theorem dX6_kindOfWord_109 : decode cX6_kindOfWord 109 = .ok (.iload_n 2, 1) := by decide +kernel
theorem dX6_kindOfWord_110 : decode cX6_kindOfWord 110 = .ok (.invokevirtual 66, 3) := by decide +kernel
theorem dX6_kindOfWord_113 : decode cX6_kindOfWord 113 = .ok (.ifCond .eq 7, 3) := by decide +kernel
theorem dX6_kindOfWord_116 : decode cX6_kindOfWord 116 = .ok (.sipush 264, 3) := by decide +kernel
theorem dX6_kindOfWord_119 : decode cX6_kindOfWord 119 = .ok (.ireturn, 1) := by decide +kernel
theorem dX6_kindOfWord_120 : decode cX6_kindOfWord 120 = .ok (.aload_n 0, 1) := by decide +kernel
theorem dX6_kindOfWord_121 : decode cX6_kindOfWord 121 = .ok (.ldc 83, 2) := by decide +kernel
theorem dX6_kindOfWord_123 : decode cX6_kindOfWord 123 = .ok (.iload_n 1, 1) := by decide +kernel
theorem dX6_kindOfWord_124 : decode cX6_kindOfWord 124 = .ok (.iload_n 2, 1) := by decide +kernel
theorem dX6_kindOfWord_125 : decode cX6_kindOfWord 125 = .ok (.invokevirtual 66, 3) := by decide +kernel
theorem dX6_kindOfWord_128 : decode cX6_kindOfWord 128 = .ok (.ifCond .eq 7, 3) := by decide +kernel
theorem dX6_kindOfWord_131 : decode cX6_kindOfWord 131 = .ok (.sipush 265, 3) := by decide +kernel
theorem dX6_kindOfWord_134 : decode cX6_kindOfWord 134 = .ok (.ireturn, 1) := by decide +kernel
theorem dX6_kindOfWord_135 : decode cX6_kindOfWord 135 = .ok (.aload_n 0, 1) := by decide +kernel
theorem dX6_kindOfWord_136 : decode cX6_kindOfWord 136 = .ok (.ldc 85, 2) := by decide +kernel
theorem dX6_kindOfWord_138 : decode cX6_kindOfWord 138 = .ok (.iload_n 1, 1) := by decide +kernel
theorem dX6_kindOfWord_139 : decode cX6_kindOfWord 139 = .ok (.iload_n 2, 1) := by decide +kernel
theorem dX6_kindOfWord_140 : decode cX6_kindOfWord 140 = .ok (.invokevirtual 66, 3) := by decide +kernel
theorem dX6_kindOfWord_143 : decode cX6_kindOfWord 143 = .ok (.ifCond .eq 9, 3) := by decide +kernel
theorem dX6_kindOfWord_146 : decode cX6_kindOfWord 146 = .ok (.sipush 266, 3) := by decide +kernel
theorem dX6_kindOfWord_149 : decode cX6_kindOfWord 149 = .ok (.goto 6, 3) := by decide +kernel
theorem dX6_kindOfWord_152 : decode cX6_kindOfWord 152 = .ok (.sipush 267, 3) := by decide +kernel
theorem dX6_kindOfWord_155 : decode cX6_kindOfWord 155 = .ok (.ireturn, 1) := by decide +kernel
theorem dX6_isWord_0 : decode cX6_isWord 0 = .ok (.aload_n 1, 1) := by decide +kernel
theorem dX6_isWord_1 : decode cX6_isWord 1 = .ok (.invokevirtual 87, 3) := by decide +kernel
theorem dX6_isWord_4 : decode cX6_isWord 4 = .ok (.iload_n 3, 1) := by decide +kernel
theorem dX6_isWord_5 : decode cX6_isWord 5 = .ok (.iload_n 2, 1) := by decide +kernel
theorem dX6_isWord_6 : decode cX6_isWord 6 = .ok (.isub, 1) := by decide +kernel
theorem dX6_isWord_7 : decode cX6_isWord 7 = .ok (.if_icmp .eq 5, 3) := by decide +kernel
theorem dX6_isWord_10 : decode cX6_isWord 10 = .ok (.iconst 0, 1) := by decide +kernel
theorem dX6_isWord_11 : decode cX6_isWord 11 = .ok (.ireturn, 1) := by decide +kernel
theorem dX6_isWord_12 : decode cX6_isWord 12 = .ok (.iconst 0, 1) := by decide +kernel
theorem dX6_isWord_13 : decode cX6_isWord 13 = .ok (.istore 4, 2) := by decide +kernel
theorem dX6_isWord_15 : decode cX6_isWord 15 = .ok (.iload 4, 2) := by decide +kernel
theorem dX6_isWord_17 : decode cX6_isWord 17 = .ok (.aload_n 1, 1) := by decide +kernel
theorem dX6_isWord_18 : decode cX6_isWord 18 = .ok (.invokevirtual 87, 3) := by decide +kernel
theorem dX6_isWord_21 : decode cX6_isWord 21 = .ok (.if_icmp .ge 29, 3) := by decide +kernel
theorem dX6_isWord_24 : decode cX6_isWord 24 = .ok (.aload_n 0, 1) := by decide +kernel
theorem dX6_isWord_25 : decode cX6_isWord 25 = .ok (.getfield 7, 3) := by decide +kernel
theorem dX6_isWord_28 : decode cX6_isWord 28 = .ok (.iload_n 2, 1) := by decide +kernel
theorem dX6_isWord_29 : decode cX6_isWord 29 = .ok (.iload 4, 2) := by decide +kernel
theorem dX6_isWord_31 : decode cX6_isWord 31 = .ok (.iadd, 1) := by decide +kernel
theorem dX6_isWord_32 : decode cX6_isWord 32 = .ok (.baload, 1) := by decide +kernel
theorem dX6_isWord_33 : decode cX6_isWord 33 = .ok (.aload_n 1, 1) := by decide +kernel
theorem dX6_isWord_34 : decode cX6_isWord 34 = .ok (.iload 4, 2) := by decide +kernel
theorem dX6_isWord_36 : decode cX6_isWord 36 = .ok (.invokevirtual 92, 3) := by decide +kernel
theorem dX6_isWord_39 : decode cX6_isWord 39 = .ok (.if_icmp .eq 5, 3) := by decide +kernel
theorem dX6_isWord_42 : decode cX6_isWord 42 = .ok (.iconst 0, 1) := by decide +kernel
theorem dX6_isWord_43 : decode cX6_isWord 43 = .ok (.ireturn, 1) := by decide +kernel
theorem dX6_isWord_44 : decode cX6_isWord 44 = .ok (.iinc 4 1, 3) := by decide +kernel
theorem dX6_isWord_47 : decode cX6_isWord 47 = .ok (.goto (-32), 3) := by decide +kernel
theorem dX6_isWord_50 : decode cX6_isWord 50 = .ok (.iconst 1, 1) := by decide +kernel
theorem dX6_isWord_51 : decode cX6_isWord 51 = .ok (.ireturn, 1) := by decide +kernel
theorem dX6_isDigit_0 : decode cX6_isDigit 0 = .ok (.iload_n 0, 1) := by decide +kernel
theorem dX6_isDigit_1 : decode cX6_isDigit 1 = .ok (.bipush 48, 2) := by decide +kernel
theorem dX6_isDigit_3 : decode cX6_isDigit 3 = .ok (.if_icmp .lt 13, 3) := by decide +kernel
theorem dX6_isDigit_6 : decode cX6_isDigit 6 = .ok (.iload_n 0, 1) := by decide +kernel
theorem dX6_isDigit_7 : decode cX6_isDigit 7 = .ok (.bipush 57, 2) := by decide +kernel
theorem dX6_isDigit_9 : decode cX6_isDigit 9 = .ok (.if_icmp .gt 7, 3) := by decide +kernel
theorem dX6_isDigit_12 : decode cX6_isDigit 12 = .ok (.iconst 1, 1) := by decide +kernel
theorem dX6_isDigit_13 : decode cX6_isDigit 13 = .ok (.goto 4, 3) := by decide +kernel
theorem dX6_isDigit_16 : decode cX6_isDigit 16 = .ok (.iconst 0, 1) := by decide +kernel
theorem dX6_isDigit_17 : decode cX6_isDigit 17 = .ok (.ireturn, 1) := by decide +kernel
theorem dX6_isLetter_0 : decode cX6_isLetter 0 = .ok (.iload_n 0, 1) := by decide +kernel
theorem dX6_isLetter_1 : decode cX6_isLetter 1 = .ok (.bipush 97, 2) := by decide +kernel
theorem dX6_isLetter_3 : decode cX6_isLetter 3 = .ok (.if_icmp .lt 13, 3) := by decide +kernel
theorem dX6_isLetter_6 : decode cX6_isLetter 6 = .ok (.iload_n 0, 1) := by decide +kernel
theorem dX6_isLetter_7 : decode cX6_isLetter 7 = .ok (.bipush 122, 2) := by decide +kernel
theorem dX6_isLetter_9 : decode cX6_isLetter 9 = .ok (.if_icmp .gt 7, 3) := by decide +kernel
theorem dX6_isLetter_12 : decode cX6_isLetter 12 = .ok (.iconst 1, 1) := by decide +kernel
theorem dX6_isLetter_13 : decode cX6_isLetter 13 = .ok (.goto 4, 3) := by decide +kernel
theorem dX6_isLetter_16 : decode cX6_isLetter 16 = .ok (.iconst 0, 1) := by decide +kernel
theorem dX6_isLetter_17 : decode cX6_isLetter 17 = .ok (.ireturn, 1) := by decide +kernel
end
section
theorem dX7_init_0 : decode cX7_init 0 = .ok (.aload_n 0, 1) := by decide +kernel
theorem dX7_init_1 : decode cX7_init 1 = .ok (.invokespecial 1, 3) := by decide +kernel
theorem dX7_init_4 : decode cX7_init 4 = .ok (.aload_n 0, 1) := by decide +kernel
theorem dX7_init_5 : decode cX7_init 5 = .ok (.new 7, 3) := by decide +kernel
theorem dX7_init_8 : decode cX7_init 8 = .ok (.dup, 1) := by decide +kernel
theorem dX7_init_9 : decode cX7_init 9 = .ok (.invokespecial 9, 3) := by decide +kernel
theorem dX7_init_12 : decode cX7_init 12 = .ok (.putfield 10, 3) := by decide +kernel
theorem dX7_init_15 : decode cX7_init 15 = .ok (.aload_n 0, 1) := by decide +kernel
theorem dX7_init_16 : decode cX7_init 16 = .ok (.new 16, 3) := by decide +kernel
theorem dX7_init_19 : decode cX7_init 19 = .ok (.dup, 1) := by decide +kernel
theorem dX7_init_20 : decode cX7_init 20 = .ok (.new 18, 3) := by decide +kernel
theorem dX7_init_23 : decode cX7_init 23 = .ok (.dup, 1) := by decide +kernel
theorem dX7_init_24 : decode cX7_init 24 = .ok (.invokespecial 20, 3) := by decide +kernel
theorem dX7_init_27 : decode cX7_init 27 = .ok (.invokespecial 21, 3) := by decide +kernel
theorem dX7_init_30 : decode cX7_init 30 = .ok (.putfield 24, 3) := by decide +kernel
theorem dX7_init_33 : decode cX7_init 33 = .ok (.aload_n 0, 1) := by decide +kernel
theorem dX7_init_34 : decode cX7_init 34 = .ok (.iconst (-1), 1) := by decide +kernel
theorem dX7_init_35 : decode cX7_init 35 = .ok (.putfield 28, 3) := by decide +kernel
theorem dX7_init_38 : decode cX7_init 38 = .ok (.return_, 1) := by decide +kernel
theorem dX7_append_0 : decode cX7_append 0 = .ok (.aload_n 0, 1) := by decide +kernel
theorem dX7_append_1 : decode cX7_append 1 = .ok (.getfield 10, 3) := by decide +kernel
theorem dX7_append_4 : decode cX7_append 4 = .ok (.invokevirtual 32, 3) := by decide +kernel
theorem dX7_append_7 : decode cX7_append 7 = .ok (.ifCond .ne 5, 3) := by decide +kernel
theorem dX7_append_10 : decode cX7_append 10 = .ok (.iconst (-1), 1) := by decide +kernel
theorem dX7_append_11 : decode cX7_append 11 = .ok (.ireturn, 1) := by decide +kernel
theorem dX7_append_12 : decode cX7_append 12 = .ok (.aload_n 0, 1) := by decide +kernel
theorem dX7_append_13 : decode cX7_append 13 = .ok (.getfield 10, 3) := by decide +kernel
theorem dX7_append_16 : decode cX7_append 16 = .ok (.iload_n 1, 1) := by decide +kernel
theorem dX7_append_17 : decode cX7_append 17 = .ok (.invokevirtual 36, 3) := by decide +kernel
theorem dX7_append_20 : decode cX7_append 20 = .ok (.aload_n 0, 1) := by decide +kernel
theorem dX7_append_21 : decode cX7_append 21 = .ok (.getfield 10, 3) := by decide +kernel
theorem dX7_append_24 : decode cX7_append 24 = .ok (.iload_n 2, 1) := by decide +kernel
theorem dX7_append_25 : decode cX7_append 25 = .ok (.invokevirtual 36, 3) := by decide +kernel
theorem dX7_append_28 : decode cX7_append 28 = .ok (.aload_n 0, 1) := by decide +kernel
theorem dX7_append_29 : decode cX7_append 29 = .ok (.getfield 10, 3) := by decide +kernel
theorem dX7_append_32 : decode cX7_append 32 = .ok (.iload_n 3, 1) := by decide +kernel
theorem dX7_append_33 : decode cX7_append 33 = .ok (.invokevirtual 36, 3) := by decide +kernel
theorem dX7_append_36 : decode cX7_append 36 = .ok (.aload_n 0, 1) := by decide +kernel
theorem dX7_append_37 : decode cX7_append 37 = .ok (.getfield 10, 3) := by decide +kernel
theorem dX7_append_40 : decode cX7_append 40 = .ok (.iload 4, 2) := by decide +kernel
theorem dX7_append_42 : decode cX7_append 42 = .ok (.invokevirtual 36, 3) := by decide +kernel
theorem dX7_append_45 : decode cX7_append 45 = .ok (.aload_n 0, 1) := by decide +kernel
theorem dX7_append_46 : decode cX7_append 46 = .ok (.getfield 10, 3) := by decide +kernel
theorem dX7_append_49 : decode cX7_append 49 = .ok (.iload 5, 2) := by decide +kernel
theorem dX7_append_51 : decode cX7_append 51 = .ok (.invokevirtual 36, 3) := by decide +kernel
theorem dX7_append_54 : decode cX7_append 54 = .ok (.aload_n 0, 1) := by decide +kernel
theorem dX7_append_55 : decode cX7_append 55 = .ok (.getfield 10, 3) := by decide +kernel
theorem dX7_append_58 : decode cX7_append 58 = .ok (.getfield 40, 3) := by decide +kernel
theorem dX7_append_61 : decode cX7_append 61 = .ok (.ireturn, 1) := by decide +kernel
theorem dX7_load_0 : decode cX7_load 0 = .ok (.iload_n 1, 1) := by decide +kernel
theorem dX7_load_1 : decode cX7_load 1 = .ok (.ifCond .lt 14, 3) := by decide +kernel
theorem dX7_load_4 : decode cX7_load 4 = .ok (.iload_n 1, 1) := by decide +kernel
theorem dX7_load_5 : decode cX7_load 5 = .ok (.aload_n 0, 1) := by decide +kernel
theorem dX7_load_6 : decode cX7_load 6 = .ok (.getfield 10, 3) := by decide +kernel
theorem dX7_load_9 : decode cX7_load 9 = .ok (.getfield 40, 3) := by decide +kernel
theorem dX7_load_12 : decode cX7_load 12 = .ok (.if_icmp .le 13, 3) := by decide +kernel
theorem dX7_load_15 : decode cX7_load 15 = .ok (.new 43, 3) := by decide +kernel
theorem dX7_load_18 : decode cX7_load 18 = .ok (.dup, 1) := by decide +kernel
theorem dX7_load_19 : decode cX7_load 19 = .ok (.ldc 45, 2) := by decide +kernel
theorem dX7_load_21 : decode cX7_load 21 = .ok (.invokespecial 47, 3) := by decide +kernel
theorem dX7_load_24 : decode cX7_load 24 = .ok (.athrow, 1) := by decide +kernel
theorem dX7_load_25 : decode cX7_load 25 = .ok (.new 50, 3) := by decide +kernel
theorem dX7_load_28 : decode cX7_load 28 = .ok (.dup, 1) := by decide +kernel
theorem dX7_load_29 : decode cX7_load 29 = .ok (.new 52, 3) := by decide +kernel
theorem dX7_load_32 : decode cX7_load 32 = .ok (.dup, 1) := by decide +kernel
theorem dX7_load_33 : decode cX7_load 33 = .ok (.aload_n 0, 1) := by decide +kernel
theorem dX7_load_34 : decode cX7_load 34 = .ok (.getfield 10, 3) := by decide +kernel
theorem dX7_load_37 : decode cX7_load 37 = .ok (.getfield 54, 3) := by decide +kernel
theorem dX7_load_40 : decode cX7_load 40 = .ok (.iload_n 1, 1) := by decide +kernel
theorem dX7_load_41 : decode cX7_load 41 = .ok (.invokespecial 58, 3) := by decide +kernel
theorem dX7_load_44 : decode cX7_load 44 = .ok (.invokespecial 61, 3) := by decide +kernel
theorem dX7_load_47 : decode cX7_load 47 = .ok (.astore_n 2, 1) := by decide +kernel
theorem dX7_load_48 : decode cX7_load 48 = .ok (.aload_n 2, 1) := by decide +kernel
theorem dX7_load_49 : decode cX7_load 49 = .ok (.invokevirtual 64, 3) := by decide +kernel
theorem dX7_load_52 : decode cX7_load 52 = .ok (.aload_n 0, 1) := by decide +kernel
theorem dX7_load_53 : decode cX7_load 53 = .ok (.getfield 10, 3) := by decide +kernel
theorem dX7_load_56 : decode cX7_load 56 = .ok (.invokevirtual 67, 3) := by decide +kernel
theorem dX7_load_59 : decode cX7_load 59 = .ok (.aload_n 2, 1) := by decide +kernel
theorem dX7_load_60 : decode cX7_load 60 = .ok (.getfield 70, 3) := by decide +kernel
theorem dX7_load_63 : decode cX7_load 63 = .ok (.ifCond .eq 16, 3) := by decide +kernel
theorem dX7_load_66 : decode cX7_load 66 = .ok (.aload_n 0, 1) := by decide +kernel
theorem dX7_load_67 : decode cX7_load 67 = .ok (.aload_n 2, 1) := by decide +kernel
theorem dX7_load_68 : decode cX7_load 68 = .ok (.getfield 73, 3) := by decide +kernel
theorem dX7_load_71 : decode cX7_load 71 = .ok (.putfield 28, 3) := by decide +kernel
theorem dX7_load_74 : decode cX7_load 74 = .ok (.aload_n 2, 1) := by decide +kernel
theorem dX7_load_75 : decode cX7_load 75 = .ok (.getfield 70, 3) := by decide +kernel
theorem dX7_load_78 : decode cX7_load 78 = .ok (.ireturn, 1) := by decide +kernel
theorem dX7_load_79 : decode cX7_load 79 = .ok (.aload_n 0, 1) := by decide +kernel
theorem dX7_load_80 : decode cX7_load 80 = .ok (.iconst (-1), 1) := by decide +kernel
theorem dX7_load_81 : decode cX7_load 81 = .ok (.putfield 28, 3) := by decide +kernel
theorem dX7_load_84 : decode cX7_load 84 = .ok (.aload_n 0, 1) := by decide +kernel
theorem dX7_load_85 : decode cX7_load 85 = .ok (.getfield 24, 3) := by decide +kernel
theorem dX7_load_88 : decode cX7_load 88 = .ok (.invokevirtual 74, 3) := by decide +kernel
theorem dX7_load_91 : decode cX7_load 91 = .ok (.aload_n 2, 1) := by decide +kernel
theorem dX7_load_92 : decode cX7_load 92 = .ok (.getfield 78, 3) := by decide +kernel
theorem dX7_load_95 : decode cX7_load 95 = .ok (.invokevirtual 82, 3) := by decide +kernel
theorem dX7_load_98 : decode cX7_load 98 = .ok (.aload_n 2, 1) := by decide +kernel
theorem dX7_load_99 : decode cX7_load 99 = .ok (.getfield 78, 3) := by decide +kernel
theorem dX7_load_102 : decode cX7_load 102 = .ok (.getfield 87, 3) := by decide +kernel
theorem dX7_load_105 : decode cX7_load 105 = .ok (.ireturn, 1) := by decide +kernel
theorem dX7_errorOffset_0 : decode cX7_errorOffset 0 = .ok (.aload_n 0, 1) := by decide +kernel
theorem dX7_errorOffset_1 : decode cX7_errorOffset 1 = .ok (.getfield 28, 3) := by decide +kernel
theorem dX7_errorOffset_4 : decode cX7_errorOffset 4 = .ok (.ireturn, 1) := by decide +kernel
theorem dX7_issuerCount_0 : decode cX7_issuerCount 0 = .ok (.aload_n 0, 1) := by decide +kernel
theorem dX7_issuerCount_1 : decode cX7_issuerCount 1 = .ok (.getfield 24, 3) := by decide +kernel
theorem dX7_issuerCount_4 : decode cX7_issuerCount 4 = .ok (.invokevirtual 90, 3) := by decide +kernel
theorem dX7_issuerCount_7 : decode cX7_issuerCount 7 = .ok (.getfield 93, 3) := by decide +kernel
theorem dX7_issuerCount_10 : decode cX7_issuerCount 10 = .ok (.getfield 94, 3) := by decide +kernel
theorem dX7_issuerCount_13 : decode cX7_issuerCount 13 = .ok (.ireturn, 1) := by decide +kernel
theorem dX7_merchantCount_0 : decode cX7_merchantCount 0 = .ok (.aload_n 0, 1) := by decide +kernel
theorem dX7_merchantCount_1 : decode cX7_merchantCount 1 = .ok (.getfield 24, 3) := by decide +kernel
theorem dX7_merchantCount_4 : decode cX7_merchantCount 4 = .ok (.invokevirtual 90, 3) := by decide +kernel
theorem dX7_merchantCount_7 : decode cX7_merchantCount 7 = .ok (.getfield 93, 3) := by decide +kernel
theorem dX7_merchantCount_10 : decode cX7_merchantCount 10 = .ok (.getfield 97, 3) := by decide +kernel
theorem dX7_merchantCount_13 : decode cX7_merchantCount 13 = .ok (.ireturn, 1) := by decide +kernel
theorem dX7_reasonCount_0 : decode cX7_reasonCount 0 = .ok (.aload_n 0, 1) := by decide +kernel
theorem dX7_reasonCount_1 : decode cX7_reasonCount 1 = .ok (.getfield 24, 3) := by decide +kernel
theorem dX7_reasonCount_4 : decode cX7_reasonCount 4 = .ok (.invokevirtual 90, 3) := by decide +kernel
theorem dX7_reasonCount_7 : decode cX7_reasonCount 7 = .ok (.getfield 93, 3) := by decide +kernel
theorem dX7_reasonCount_10 : decode cX7_reasonCount 10 = .ok (.getfield 87, 3) := by decide +kernel
theorem dX7_reasonCount_13 : decode cX7_reasonCount 13 = .ok (.ireturn, 1) := by decide +kernel
theorem dX7_purchaseCount_0 : decode cX7_purchaseCount 0 = .ok (.aload_n 0, 1) := by decide +kernel
theorem dX7_purchaseCount_1 : decode cX7_purchaseCount 1 = .ok (.getfield 24, 3) := by decide +kernel
theorem dX7_purchaseCount_4 : decode cX7_purchaseCount 4 = .ok (.invokevirtual 90, 3) := by decide +kernel
theorem dX7_purchaseCount_7 : decode cX7_purchaseCount 7 = .ok (.getfield 100, 3) := by decide +kernel
theorem dX7_purchaseCount_10 : decode cX7_purchaseCount 10 = .ok (.ireturn, 1) := by decide +kernel
theorem dX7_disputeCount_0 : decode cX7_disputeCount 0 = .ok (.aload_n 0, 1) := by decide +kernel
theorem dX7_disputeCount_1 : decode cX7_disputeCount 1 = .ok (.getfield 24, 3) := by decide +kernel
theorem dX7_disputeCount_4 : decode cX7_disputeCount 4 = .ok (.invokevirtual 90, 3) := by decide +kernel
theorem dX7_disputeCount_7 : decode cX7_disputeCount 7 = .ok (.getfield 103, 3) := by decide +kernel
theorem dX7_disputeCount_10 : decode cX7_disputeCount 10 = .ok (.ireturn, 1) := by decide +kernel
theorem dX7_today_0 : decode cX7_today 0 = .ok (.aload_n 0, 1) := by decide +kernel
theorem dX7_today_1 : decode cX7_today 1 = .ok (.getfield 24, 3) := by decide +kernel
theorem dX7_today_4 : decode cX7_today 4 = .ok (.invokevirtual 90, 3) := by decide +kernel
theorem dX7_today_7 : decode cX7_today 7 = .ok (.getfield 106, 3) := by decide +kernel
theorem dX7_today_10 : decode cX7_today 10 = .ok (.ireturn, 1) := by decide +kernel
theorem dX7_reasonOf_0 : decode cX7_reasonOf 0 = .ok (.aload_n 0, 1) := by decide +kernel
theorem dX7_reasonOf_1 : decode cX7_reasonOf 1 = .ok (.getfield 24, 3) := by decide +kernel
theorem dX7_reasonOf_4 : decode cX7_reasonOf 4 = .ok (.invokevirtual 90, 3) := by decide +kernel
theorem dX7_reasonOf_7 : decode cX7_reasonOf 7 = .ok (.getfield 93, 3) := by decide +kernel
theorem dX7_reasonOf_10 : decode cX7_reasonOf 10 = .ok (.iload_n 1, 1) := by decide +kernel
theorem dX7_reasonOf_11 : decode cX7_reasonOf 11 = .ok (.invokevirtual 109, 3) := by decide +kernel
theorem dX7_reasonOf_14 : decode cX7_reasonOf 14 = .ok (.ireturn, 1) := by decide +kernel
theorem dX7_issuerAccount_0 : decode cX7_issuerAccount 0 = .ok (.aload_n 0, 1) := by decide +kernel
theorem dX7_issuerAccount_1 : decode cX7_issuerAccount 1 = .ok (.getfield 24, 3) := by decide +kernel
theorem dX7_issuerAccount_4 : decode cX7_issuerAccount 4 = .ok (.invokevirtual 90, 3) := by decide +kernel
theorem dX7_issuerAccount_7 : decode cX7_issuerAccount 7 = .ok (.astore_n 2, 1) := by decide +kernel
theorem dX7_issuerAccount_8 : decode cX7_issuerAccount 8 = .ok (.iload_n 1, 1) := by decide +kernel
theorem dX7_issuerAccount_9 : decode cX7_issuerAccount 9 = .ok (.aload_n 2, 1) := by decide +kernel
theorem dX7_issuerAccount_10 : decode cX7_issuerAccount 10 = .ok (.getfield 93, 3) := by decide +kernel
theorem dX7_issuerAccount_13 : decode cX7_issuerAccount 13 = .ok (.getfield 94, 3) := by decide +kernel
theorem dX7_issuerAccount_16 : decode cX7_issuerAccount 16 = .ok (.invokestatic 113, 3) := by decide +kernel
theorem dX7_issuerAccount_19 : decode cX7_issuerAccount 19 = .ok (.aload_n 2, 1) := by decide +kernel
theorem dX7_issuerAccount_20 : decode cX7_issuerAccount 20 = .ok (.getfield 117, 3) := by decide +kernel
theorem dX7_issuerAccount_23 : decode cX7_issuerAccount 23 = .ok (.iload_n 1, 1) := by decide +kernel
theorem dX7_issuerAccount_24 : decode cX7_issuerAccount 24 = .ok (.iaload, 1) := by decide +kernel
theorem dX7_issuerAccount_25 : decode cX7_issuerAccount 25 = .ok (.ireturn, 1) := by decide +kernel
theorem dX7_merchantAccount_0 : decode cX7_merchantAccount 0 = .ok (.aload_n 0, 1) := by decide +kernel
theorem dX7_merchantAccount_1 : decode cX7_merchantAccount 1 = .ok (.iload_n 1, 1) := by decide +kernel
theorem dX7_merchantAccount_2 : decode cX7_merchantAccount 2 = .ok (.invokevirtual 121, 3) := by decide +kernel
theorem dX7_merchantAccount_5 : decode cX7_merchantAccount 5 = .ok (.astore_n 2, 1) := by decide +kernel
theorem dX7_merchantAccount_6 : decode cX7_merchantAccount 6 = .ok (.aload_n 2, 1) := by decide +kernel
theorem dX7_merchantAccount_7 : decode cX7_merchantAccount 7 = .ok (.getfield 125, 3) := by decide +kernel
theorem dX7_merchantAccount_10 : decode cX7_merchantAccount 10 = .ok (.iload_n 1, 1) := by decide +kernel
theorem dX7_merchantAccount_11 : decode cX7_merchantAccount 11 = .ok (.iaload, 1) := by decide +kernel
theorem dX7_merchantAccount_12 : decode cX7_merchantAccount 12 = .ok (.ireturn, 1) := by decide +kernel
theorem dX7_networkAccount_0 : decode cX7_networkAccount 0 = .ok (.aload_n 0, 1) := by decide +kernel
theorem dX7_networkAccount_1 : decode cX7_networkAccount 1 = .ok (.getfield 24, 3) := by decide +kernel
theorem dX7_networkAccount_4 : decode cX7_networkAccount 4 = .ok (.invokevirtual 90, 3) := by decide +kernel
theorem dX7_networkAccount_7 : decode cX7_networkAccount 7 = .ok (.getfield 128, 3) := by decide +kernel
theorem dX7_networkAccount_10 : decode cX7_networkAccount 10 = .ok (.ireturn, 1) := by decide +kernel
theorem dX7_disputed_0 : decode cX7_disputed 0 = .ok (.aload_n 0, 1) := by decide +kernel
theorem dX7_disputed_1 : decode cX7_disputed 1 = .ok (.getfield 24, 3) := by decide +kernel
theorem dX7_disputed_4 : decode cX7_disputed 4 = .ok (.invokevirtual 90, 3) := by decide +kernel
theorem dX7_disputed_7 : decode cX7_disputed 7 = .ok (.astore_n 2, 1) := by decide +kernel
theorem dX7_disputed_8 : decode cX7_disputed 8 = .ok (.iload_n 1, 1) := by decide +kernel
theorem dX7_disputed_9 : decode cX7_disputed 9 = .ok (.aload_n 2, 1) := by decide +kernel
theorem dX7_disputed_10 : decode cX7_disputed 10 = .ok (.getfield 100, 3) := by decide +kernel
theorem dX7_disputed_13 : decode cX7_disputed 13 = .ok (.invokestatic 113, 3) := by decide +kernel
theorem dX7_disputed_16 : decode cX7_disputed 16 = .ok (.aload_n 2, 1) := by decide +kernel
theorem dX7_disputed_17 : decode cX7_disputed 17 = .ok (.iload_n 1, 1) := by decide +kernel
theorem dX7_disputed_18 : decode cX7_disputed 18 = .ok (.invokevirtual 131, 3) := by decide +kernel
theorem dX7_disputed_21 : decode cX7_disputed 21 = .ok (.ireturn, 1) := by decide +kernel
theorem dX7_state_0 : decode cX7_state 0 = .ok (.aload_n 0, 1) := by decide +kernel
theorem dX7_state_1 : decode cX7_state 1 = .ok (.iload_n 1, 1) := by decide +kernel
theorem dX7_state_2 : decode cX7_state 2 = .ok (.invokevirtual 134, 3) := by decide +kernel
theorem dX7_state_5 : decode cX7_state 5 = .ok (.getfield 137, 3) := by decide +kernel
theorem dX7_state_8 : decode cX7_state 8 = .ok (.iload_n 1, 1) := by decide +kernel
theorem dX7_state_9 : decode cX7_state 9 = .ok (.iaload, 1) := by decide +kernel
theorem dX7_state_10 : decode cX7_state 10 = .ok (.ireturn, 1) := by decide +kernel
theorem dX7_deadline_0 : decode cX7_deadline 0 = .ok (.aload_n 0, 1) := by decide +kernel
theorem dX7_deadline_1 : decode cX7_deadline 1 = .ok (.iload_n 1, 1) := by decide +kernel
theorem dX7_deadline_2 : decode cX7_deadline 2 = .ok (.invokevirtual 134, 3) := by decide +kernel
theorem dX7_deadline_5 : decode cX7_deadline 5 = .ok (.getfield 140, 3) := by decide +kernel
theorem dX7_deadline_8 : decode cX7_deadline 8 = .ok (.iload_n 1, 1) := by decide +kernel
theorem dX7_deadline_9 : decode cX7_deadline 9 = .ok (.iaload, 1) := by decide +kernel
theorem dX7_deadline_10 : decode cX7_deadline 10 = .ok (.ireturn, 1) := by decide +kernel
theorem dX7_evidence_0 : decode cX7_evidence 0 = .ok (.aload_n 0, 1) := by decide +kernel
theorem dX7_evidence_1 : decode cX7_evidence 1 = .ok (.iload_n 1, 1) := by decide +kernel
theorem dX7_evidence_2 : decode cX7_evidence 2 = .ok (.invokevirtual 134, 3) := by decide +kernel
theorem dX7_evidence_5 : decode cX7_evidence 5 = .ok (.getfield 143, 3) := by decide +kernel
theorem dX7_evidence_8 : decode cX7_evidence 8 = .ok (.iload_n 1, 1) := by decide +kernel
theorem dX7_evidence_9 : decode cX7_evidence 9 = .ok (.iaload, 1) := by decide +kernel
theorem dX7_evidence_10 : decode cX7_evidence 10 = .ok (.ireturn, 1) := by decide +kernel
theorem dX7_isWithMerchant_0 : decode cX7_isWithMerchant 0 = .ok (.aload_n 0, 1) := by decide +kernel
theorem dX7_isWithMerchant_1 : decode cX7_isWithMerchant 1 = .ok (.iload_n 1, 1) := by decide +kernel
theorem dX7_isWithMerchant_2 : decode cX7_isWithMerchant 2 = .ok (.invokevirtual 134, 3) := by decide +kernel
theorem dX7_isWithMerchant_5 : decode cX7_isWithMerchant 5 = .ok (.iload_n 1, 1) := by decide +kernel
theorem dX7_isWithMerchant_6 : decode cX7_isWithMerchant 6 = .ok (.invokevirtual 146, 3) := by decide +kernel
theorem dX7_isWithMerchant_9 : decode cX7_isWithMerchant 9 = .ok (.ireturn, 1) := by decide +kernel
theorem dX7_score_0 : decode cX7_score 0 = .ok (.aload_n 0, 1) := by decide +kernel
theorem dX7_score_1 : decode cX7_score 1 = .ok (.iload_n 1, 1) := by decide +kernel
theorem dX7_score_2 : decode cX7_score 2 = .ok (.invokevirtual 134, 3) := by decide +kernel
theorem dX7_score_5 : decode cX7_score 5 = .ok (.iload_n 1, 1) := by decide +kernel
theorem dX7_score_6 : decode cX7_score 6 = .ok (.invokevirtual 150, 3) := by decide +kernel
theorem dX7_score_9 : decode cX7_score 9 = .ok (.ireturn, 1) := by decide +kernel
theorem dX7_wouldWin_0 : decode cX7_wouldWin 0 = .ok (.aload_n 0, 1) := by decide +kernel
theorem dX7_wouldWin_1 : decode cX7_wouldWin 1 = .ok (.iload_n 1, 1) := by decide +kernel
theorem dX7_wouldWin_2 : decode cX7_wouldWin 2 = .ok (.invokevirtual 134, 3) := by decide +kernel
theorem dX7_wouldWin_5 : decode cX7_wouldWin 5 = .ok (.astore_n 3, 1) := by decide +kernel
theorem dX7_wouldWin_6 : decode cX7_wouldWin 6 = .ok (.iload_n 2, 1) := by decide +kernel
theorem dX7_wouldWin_7 : decode cX7_wouldWin 7 = .ok (.iconst 0, 1) := by decide +kernel
theorem dX7_wouldWin_8 : decode cX7_wouldWin 8 = .ok (.sipush 255, 3) := by decide +kernel
theorem dX7_wouldWin_11 : decode cX7_wouldWin 11 = .ok (.invokestatic 153, 3) := by decide +kernel
theorem dX7_wouldWin_14 : decode cX7_wouldWin 14 = .ok (.aload_n 3, 1) := by decide +kernel
theorem dX7_wouldWin_15 : decode cX7_wouldWin 15 = .ok (.iload_n 1, 1) := by decide +kernel
theorem dX7_wouldWin_16 : decode cX7_wouldWin 16 = .ok (.iload_n 2, 1) := by decide +kernel
theorem dX7_wouldWin_17 : decode cX7_wouldWin 17 = .ok (.invokevirtual 157, 3) := by decide +kernel
theorem dX7_wouldWin_20 : decode cX7_wouldWin 20 = .ok (.ireturn, 1) := by decide +kernel
theorem dX7_bestEvidence_0 : decode cX7_bestEvidence 0 = .ok (.aload_n 0, 1) := by decide +kernel
theorem dX7_bestEvidence_1 : decode cX7_bestEvidence 1 = .ok (.iload_n 1, 1) := by decide +kernel
theorem dX7_bestEvidence_2 : decode cX7_bestEvidence 2 = .ok (.invokevirtual 134, 3) := by decide +kernel
theorem dX7_bestEvidence_5 : decode cX7_bestEvidence 5 = .ok (.iload_n 1, 1) := by decide +kernel
theorem dX7_bestEvidence_6 : decode cX7_bestEvidence 6 = .ok (.invokevirtual 161, 3) := by decide +kernel
theorem dX7_bestEvidence_9 : decode cX7_bestEvidence 9 = .ok (.ireturn, 1) := by decide +kernel
theorem dX7_nextDeadline_0 : decode cX7_nextDeadline 0 = .ok (.aload_n 0, 1) := by decide +kernel
theorem dX7_nextDeadline_1 : decode cX7_nextDeadline 1 = .ok (.getfield 24, 3) := by decide +kernel
theorem dX7_nextDeadline_4 : decode cX7_nextDeadline 4 = .ok (.invokevirtual 90, 3) := by decide +kernel
theorem dX7_nextDeadline_7 : decode cX7_nextDeadline 7 = .ok (.invokevirtual 164, 3) := by decide +kernel
theorem dX7_nextDeadline_10 : decode cX7_nextDeadline 10 = .ok (.ireturn, 1) := by decide +kernel
theorem dX7_rate_0 : decode cX7_rate 0 = .ok (.aload_n 0, 1) := by decide +kernel
theorem dX7_rate_1 : decode cX7_rate 1 = .ok (.iload_n 1, 1) := by decide +kernel
theorem dX7_rate_2 : decode cX7_rate 2 = .ok (.invokevirtual 121, 3) := by decide +kernel
theorem dX7_rate_5 : decode cX7_rate 5 = .ok (.iload_n 1, 1) := by decide +kernel
theorem dX7_rate_6 : decode cX7_rate 6 = .ok (.invokevirtual 168, 3) := by decide +kernel
theorem dX7_rate_9 : decode cX7_rate 9 = .ok (.ireturn, 1) := by decide +kernel
theorem dX7_isWatched_0 : decode cX7_isWatched 0 = .ok (.aload_n 0, 1) := by decide +kernel
theorem dX7_isWatched_1 : decode cX7_isWatched 1 = .ok (.iload_n 1, 1) := by decide +kernel
theorem dX7_isWatched_2 : decode cX7_isWatched 2 = .ok (.invokevirtual 121, 3) := by decide +kernel
theorem dX7_isWatched_5 : decode cX7_isWatched 5 = .ok (.astore_n 2, 1) := by decide +kernel
theorem dX7_isWatched_6 : decode cX7_isWatched 6 = .ok (.aload_n 2, 1) := by decide +kernel
theorem dX7_isWatched_7 : decode cX7_isWatched 7 = .ok (.iload_n 1, 1) := by decide +kernel
theorem dX7_isWatched_8 : decode cX7_isWatched 8 = .ok (.invokevirtual 168, 3) := by decide +kernel
theorem dX7_isWatched_11 : decode cX7_isWatched 11 = .ok (.aload_n 2, 1) := by decide +kernel
theorem dX7_isWatched_12 : decode cX7_isWatched 12 = .ok (.getfield 93, 3) := by decide +kernel
theorem dX7_isWatched_15 : decode cX7_isWatched 15 = .ok (.getfield 171, 3) := by decide +kernel
theorem dX7_isWatched_18 : decode cX7_isWatched 18 = .ok (.if_icmp .le 7, 3) := by decide +kernel
theorem dX7_isWatched_21 : decode cX7_isWatched 21 = .ok (.iconst 1, 1) := by decide +kernel
theorem dX7_isWatched_22 : decode cX7_isWatched 22 = .ok (.goto 4, 3) := by decide +kernel
theorem dX7_isWatched_25 : decode cX7_isWatched 25 = .ok (.iconst 0, 1) := by decide +kernel
theorem dX7_isWatched_26 : decode cX7_isWatched 26 = .ok (.ireturn, 1) := by decide +kernel
theorem dX7_exposure_0 : decode cX7_exposure 0 = .ok (.aload_n 0, 1) := by decide +kernel
theorem dX7_exposure_1 : decode cX7_exposure 1 = .ok (.iload_n 1, 1) := by decide +kernel
theorem dX7_exposure_2 : decode cX7_exposure 2 = .ok (.invokevirtual 121, 3) := by decide +kernel
theorem dX7_exposure_5 : decode cX7_exposure 5 = .ok (.iload_n 1, 1) := by decide +kernel
theorem dX7_exposure_6 : decode cX7_exposure 6 = .ok (.invokevirtual 174, 3) := by decide +kernel
theorem dX7_exposure_9 : decode cX7_exposure 9 = .ok (.ireturn, 1) := by decide +kernel
theorem dX7_settled_0 : decode cX7_settled 0 = .ok (.aload_n 0, 1) := by decide +kernel
theorem dX7_settled_1 : decode cX7_settled 1 = .ok (.iload_n 1, 1) := by decide +kernel
theorem dX7_settled_2 : decode cX7_settled 2 = .ok (.invokevirtual 121, 3) := by decide +kernel
theorem dX7_settled_5 : decode cX7_settled 5 = .ok (.iload_n 1, 1) := by decide +kernel
theorem dX7_settled_6 : decode cX7_settled 6 = .ok (.invokevirtual 177, 3) := by decide +kernel
theorem dX7_settled_9 : decode cX7_settled 9 = .ok (.ireturn, 1) := by decide +kernel
theorem dX7_purchase_0 : decode cX7_purchase 0 = .ok (.aload_n 0, 1) := by decide +kernel
theorem dX7_purchase_1 : decode cX7_purchase 1 = .ok (.getfield 24, 3) := by decide +kernel
theorem dX7_purchase_4 : decode cX7_purchase 4 = .ok (.invokevirtual 90, 3) := by decide +kernel
theorem dX7_purchase_7 : decode cX7_purchase 7 = .ok (.astore 4, 2) := by decide +kernel
theorem dX7_purchase_9 : decode cX7_purchase 9 = .ok (.iload_n 1, 1) := by decide +kernel
theorem dX7_purchase_10 : decode cX7_purchase 10 = .ok (.aload 4, 2) := by decide +kernel
theorem dX7_purchase_12 : decode cX7_purchase 12 = .ok (.getfield 93, 3) := by decide +kernel
theorem dX7_purchase_15 : decode cX7_purchase 15 = .ok (.getfield 94, 3) := by decide +kernel
theorem dX7_purchase_18 : decode cX7_purchase 18 = .ok (.invokestatic 113, 3) := by decide +kernel
theorem dX7_purchase_21 : decode cX7_purchase 21 = .ok (.iload_n 2, 1) := by decide +kernel
theorem dX7_purchase_22 : decode cX7_purchase 22 = .ok (.aload 4, 2) := by decide +kernel
theorem dX7_purchase_24 : decode cX7_purchase 24 = .ok (.getfield 93, 3) := by decide +kernel
theorem dX7_purchase_27 : decode cX7_purchase 27 = .ok (.getfield 97, 3) := by decide +kernel
theorem dX7_purchase_30 : decode cX7_purchase 30 = .ok (.invokestatic 113, 3) := by decide +kernel
theorem dX7_purchase_33 : decode cX7_purchase 33 = .ok (.iload_n 3, 1) := by decide +kernel
theorem dX7_purchase_34 : decode cX7_purchase 34 = .ok (.iconst 1, 1) := by decide +kernel
theorem dX7_purchase_35 : decode cX7_purchase 35 = .ok (.ldc 180, 2) := by decide +kernel
theorem dX7_purchase_37 : decode cX7_purchase 37 = .ok (.invokestatic 153, 3) := by decide +kernel
theorem dX7_purchase_40 : decode cX7_purchase 40 = .ok (.aload 4, 2) := by decide +kernel
theorem dX7_purchase_42 : decode cX7_purchase 42 = .ok (.getfield 100, 3) := by decide +kernel
theorem dX7_purchase_45 : decode cX7_purchase 45 = .ok (.bipush 24, 2) := by decide +kernel
theorem dX7_purchase_47 : decode cX7_purchase 47 = .ok (.if_icmp .lt 13, 3) := by decide +kernel
theorem dX7_purchase_50 : decode cX7_purchase 50 = .ok (.new 181, 3) := by decide +kernel
theorem dX7_purchase_53 : decode cX7_purchase 53 = .ok (.dup, 1) := by decide +kernel
theorem dX7_purchase_54 : decode cX7_purchase 54 = .ok (.ldc 183, 2) := by decide +kernel
theorem dX7_purchase_56 : decode cX7_purchase 56 = .ok (.invokespecial 185, 3) := by decide +kernel
theorem dX7_purchase_59 : decode cX7_purchase 59 = .ok (.athrow, 1) := by decide +kernel
theorem dX7_purchase_60 : decode cX7_purchase 60 = .ok (.aload_n 0, 1) := by decide +kernel
theorem dX7_purchase_61 : decode cX7_purchase 61 = .ok (.getfield 24, 3) := by decide +kernel
theorem dX7_purchase_64 : decode cX7_purchase 64 = .ok (.invokevirtual 74, 3) := by decide +kernel
theorem dX7_purchase_67 : decode cX7_purchase 67 = .ok (.iload_n 1, 1) := by decide +kernel
theorem dX7_purchase_68 : decode cX7_purchase 68 = .ok (.iload_n 2, 1) := by decide +kernel
theorem dX7_purchase_69 : decode cX7_purchase 69 = .ok (.iload_n 3, 1) := by decide +kernel
theorem dX7_purchase_70 : decode cX7_purchase 70 = .ok (.invokevirtual 186, 3) := by decide +kernel
theorem dX7_purchase_73 : decode cX7_purchase 73 = .ok (.ireturn, 1) := by decide +kernel
theorem dX7_file_0 : decode cX7_file 0 = .ok (.aload_n 0, 1) := by decide +kernel
theorem dX7_file_1 : decode cX7_file 1 = .ok (.getfield 24, 3) := by decide +kernel
theorem dX7_file_4 : decode cX7_file 4 = .ok (.invokevirtual 90, 3) := by decide +kernel
theorem dX7_file_7 : decode cX7_file 7 = .ok (.astore 4, 2) := by decide +kernel
theorem dX7_file_9 : decode cX7_file 9 = .ok (.iload_n 1, 1) := by decide +kernel
theorem dX7_file_10 : decode cX7_file 10 = .ok (.aload 4, 2) := by decide +kernel
theorem dX7_file_12 : decode cX7_file 12 = .ok (.getfield 100, 3) := by decide +kernel
theorem dX7_file_15 : decode cX7_file 15 = .ok (.invokestatic 113, 3) := by decide +kernel
theorem dX7_file_18 : decode cX7_file 18 = .ok (.iload_n 2, 1) := by decide +kernel
theorem dX7_file_19 : decode cX7_file 19 = .ok (.aload 4, 2) := by decide +kernel
theorem dX7_file_21 : decode cX7_file 21 = .ok (.getfield 93, 3) := by decide +kernel
theorem dX7_file_24 : decode cX7_file 24 = .ok (.getfield 87, 3) := by decide +kernel
theorem dX7_file_27 : decode cX7_file 27 = .ok (.invokestatic 113, 3) := by decide +kernel
theorem dX7_file_30 : decode cX7_file 30 = .ok (.iload_n 3, 1) := by decide +kernel
theorem dX7_file_31 : decode cX7_file 31 = .ok (.iconst 1, 1) := by decide +kernel
theorem dX7_file_32 : decode cX7_file 32 = .ok (.ldc 180, 2) := by decide +kernel
theorem dX7_file_34 : decode cX7_file 34 = .ok (.invokestatic 153, 3) := by decide +kernel
theorem dX7_file_37 : decode cX7_file 37 = .ok (.iload_n 3, 1) := by decide +kernel
theorem dX7_file_38 : decode cX7_file 38 = .ok (.aload 4, 2) := by decide +kernel
theorem dX7_file_40 : decode cX7_file 40 = .ok (.getfield 190, 3) := by decide +kernel
theorem dX7_file_43 : decode cX7_file 43 = .ok (.iload_n 1, 1) := by decide +kernel
theorem dX7_file_44 : decode cX7_file 44 = .ok (.iaload, 1) := by decide +kernel
theorem dX7_file_45 : decode cX7_file 45 = .ok (.aload 4, 2) := by decide +kernel
theorem dX7_file_47 : decode cX7_file 47 = .ok (.iload_n 1, 1) := by decide +kernel
theorem dX7_file_48 : decode cX7_file 48 = .ok (.invokevirtual 131, 3) := by decide +kernel
theorem dX7_file_51 : decode cX7_file 51 = .ok (.isub, 1) := by decide +kernel
theorem dX7_file_52 : decode cX7_file 52 = .ok (.if_icmp .le 13, 3) := by decide +kernel
theorem dX7_file_55 : decode cX7_file 55 = .ok (.new 43, 3) := by decide +kernel
theorem dX7_file_58 : decode cX7_file 58 = .ok (.dup, 1) := by decide +kernel
theorem dX7_file_59 : decode cX7_file 59 = .ok (.ldc 193, 2) := by decide +kernel
theorem dX7_file_61 : decode cX7_file 61 = .ok (.invokespecial 47, 3) := by decide +kernel
theorem dX7_file_64 : decode cX7_file 64 = .ok (.athrow, 1) := by decide +kernel
theorem dX7_file_65 : decode cX7_file 65 = .ok (.aload 4, 2) := by decide +kernel
theorem dX7_file_67 : decode cX7_file 67 = .ok (.iload_n 1, 1) := by decide +kernel
theorem dX7_file_68 : decode cX7_file 68 = .ok (.iload_n 2, 1) := by decide +kernel
theorem dX7_file_69 : decode cX7_file 69 = .ok (.invokevirtual 195, 3) := by decide +kernel
theorem dX7_file_72 : decode cX7_file 72 = .ok (.ifCond .ne 13, 3) := by decide +kernel
theorem dX7_file_75 : decode cX7_file 75 = .ok (.aload 4, 2) := by decide +kernel
theorem dX7_file_77 : decode cX7_file 77 = .ok (.getfield 103, 3) := by decide +kernel
theorem dX7_file_80 : decode cX7_file 80 = .ok (.bipush 20, 2) := by decide +kernel
theorem dX7_file_82 : decode cX7_file 82 = .ok (.if_icmp .lt 13, 3) := by decide +kernel
theorem dX7_file_85 : decode cX7_file 85 = .ok (.new 181, 3) := by decide +kernel
theorem dX7_file_88 : decode cX7_file 88 = .ok (.dup, 1) := by decide +kernel
theorem dX7_file_89 : decode cX7_file 89 = .ok (.ldc 198, 2) := by decide +kernel
theorem dX7_file_91 : decode cX7_file 91 = .ok (.invokespecial 185, 3) := by decide +kernel
theorem dX7_file_94 : decode cX7_file 94 = .ok (.athrow, 1) := by decide +kernel
theorem dX7_file_95 : decode cX7_file 95 = .ok (.aload_n 0, 1) := by decide +kernel
theorem dX7_file_96 : decode cX7_file 96 = .ok (.getfield 24, 3) := by decide +kernel
theorem dX7_file_99 : decode cX7_file 99 = .ok (.invokevirtual 74, 3) := by decide +kernel
theorem dX7_file_102 : decode cX7_file 102 = .ok (.iload_n 1, 1) := by decide +kernel
theorem dX7_file_103 : decode cX7_file 103 = .ok (.iload_n 2, 1) := by decide +kernel
theorem dX7_file_104 : decode cX7_file 104 = .ok (.iload_n 3, 1) := by decide +kernel
theorem dX7_file_105 : decode cX7_file 105 = .ok (.invokevirtual 200, 3) := by decide +kernel
theorem dX7_file_108 : decode cX7_file 108 = .ok (.ireturn, 1) := by decide +kernel
theorem dX7_represent_0 : decode cX7_represent 0 = .ok (.aload_n 0, 1) := by decide +kernel
theorem dX7_represent_1 : decode cX7_represent 1 = .ok (.iload_n 1, 1) := by decide +kernel
theorem dX7_represent_2 : decode cX7_represent 2 = .ok (.invokevirtual 134, 3) := by decide +kernel
theorem dX7_represent_5 : decode cX7_represent 5 = .ok (.astore_n 3, 1) := by decide +kernel
theorem dX7_represent_6 : decode cX7_represent 6 = .ok (.iload_n 2, 1) := by decide +kernel
theorem dX7_represent_7 : decode cX7_represent 7 = .ok (.iconst 1, 1) := by decide +kernel
theorem dX7_represent_8 : decode cX7_represent 8 = .ok (.sipush 255, 3) := by decide +kernel
theorem dX7_represent_11 : decode cX7_represent 11 = .ok (.invokestatic 153, 3) := by decide +kernel
theorem dX7_represent_14 : decode cX7_represent 14 = .ok (.aload_n 3, 1) := by decide +kernel
theorem dX7_represent_15 : decode cX7_represent 15 = .ok (.iload_n 1, 1) := by decide +kernel
theorem dX7_represent_16 : decode cX7_represent 16 = .ok (.iconst 0, 1) := by decide +kernel
theorem dX7_represent_17 : decode cX7_represent 17 = .ok (.invokestatic 203, 3) := by decide +kernel
theorem dX7_represent_20 : decode cX7_represent 20 = .ok (.aload_n 0, 1) := by decide +kernel
theorem dX7_represent_21 : decode cX7_represent 21 = .ok (.getfield 24, 3) := by decide +kernel
theorem dX7_represent_24 : decode cX7_represent 24 = .ok (.invokevirtual 74, 3) := by decide +kernel
theorem dX7_represent_27 : decode cX7_represent 27 = .ok (.astore 4, 2) := by decide +kernel
theorem dX7_represent_29 : decode cX7_represent 29 = .ok (.aload 4, 2) := by decide +kernel
theorem dX7_represent_31 : decode cX7_represent 31 = .ok (.iload_n 1, 1) := by decide +kernel
theorem dX7_represent_32 : decode cX7_represent 32 = .ok (.iload_n 2, 1) := by decide +kernel
theorem dX7_represent_33 : decode cX7_represent 33 = .ok (.invokevirtual 207, 3) := by decide +kernel
theorem dX7_represent_36 : decode cX7_represent 36 = .ok (.aload 4, 2) := by decide +kernel
theorem dX7_represent_38 : decode cX7_represent 38 = .ok (.iload_n 1, 1) := by decide +kernel
theorem dX7_represent_39 : decode cX7_represent 39 = .ok (.invokevirtual 150, 3) := by decide +kernel
theorem dX7_represent_42 : decode cX7_represent 42 = .ok (.ireturn, 1) := by decide +kernel
theorem dX7_escalate_0 : decode cX7_escalate 0 = .ok (.aload_n 0, 1) := by decide +kernel
theorem dX7_escalate_1 : decode cX7_escalate 1 = .ok (.iload_n 1, 1) := by decide +kernel
theorem dX7_escalate_2 : decode cX7_escalate 2 = .ok (.invokevirtual 134, 3) := by decide +kernel
theorem dX7_escalate_5 : decode cX7_escalate 5 = .ok (.astore_n 2, 1) := by decide +kernel
theorem dX7_escalate_6 : decode cX7_escalate 6 = .ok (.aload_n 2, 1) := by decide +kernel
theorem dX7_escalate_7 : decode cX7_escalate 7 = .ok (.iload_n 1, 1) := by decide +kernel
theorem dX7_escalate_8 : decode cX7_escalate 8 = .ok (.iconst 1, 1) := by decide +kernel
theorem dX7_escalate_9 : decode cX7_escalate 9 = .ok (.invokestatic 203, 3) := by decide +kernel
theorem dX7_escalate_12 : decode cX7_escalate 12 = .ok (.aload_n 0, 1) := by decide +kernel
theorem dX7_escalate_13 : decode cX7_escalate 13 = .ok (.getfield 24, 3) := by decide +kernel
theorem dX7_escalate_16 : decode cX7_escalate 16 = .ok (.invokevirtual 74, 3) := by decide +kernel
theorem dX7_escalate_19 : decode cX7_escalate 19 = .ok (.astore_n 3, 1) := by decide +kernel
theorem dX7_escalate_20 : decode cX7_escalate 20 = .ok (.aload_n 3, 1) := by decide +kernel
theorem dX7_escalate_21 : decode cX7_escalate 21 = .ok (.iload_n 1, 1) := by decide +kernel
theorem dX7_escalate_22 : decode cX7_escalate 22 = .ok (.invokevirtual 210, 3) := by decide +kernel
theorem dX7_escalate_25 : decode cX7_escalate 25 = .ok (.aload_n 3, 1) := by decide +kernel
theorem dX7_escalate_26 : decode cX7_escalate 26 = .ok (.getfield 140, 3) := by decide +kernel
theorem dX7_escalate_29 : decode cX7_escalate 29 = .ok (.iload_n 1, 1) := by decide +kernel
theorem dX7_escalate_30 : decode cX7_escalate 30 = .ok (.iaload, 1) := by decide +kernel
theorem dX7_escalate_31 : decode cX7_escalate 31 = .ok (.ireturn, 1) := by decide +kernel
theorem dX7_contest_0 : decode cX7_contest 0 = .ok (.aload_n 0, 1) := by decide +kernel
theorem dX7_contest_1 : decode cX7_contest 1 = .ok (.iload_n 1, 1) := by decide +kernel
theorem dX7_contest_2 : decode cX7_contest 2 = .ok (.invokevirtual 134, 3) := by decide +kernel
theorem dX7_contest_5 : decode cX7_contest 5 = .ok (.astore_n 3, 1) := by decide +kernel
theorem dX7_contest_6 : decode cX7_contest 6 = .ok (.iload_n 2, 1) := by decide +kernel
theorem dX7_contest_7 : decode cX7_contest 7 = .ok (.iconst 0, 1) := by decide +kernel
theorem dX7_contest_8 : decode cX7_contest 8 = .ok (.sipush 255, 3) := by decide +kernel
theorem dX7_contest_11 : decode cX7_contest 11 = .ok (.invokestatic 153, 3) := by decide +kernel
theorem dX7_contest_14 : decode cX7_contest 14 = .ok (.aload_n 3, 1) := by decide +kernel
theorem dX7_contest_15 : decode cX7_contest 15 = .ok (.iload_n 1, 1) := by decide +kernel
theorem dX7_contest_16 : decode cX7_contest 16 = .ok (.iconst 2, 1) := by decide +kernel
theorem dX7_contest_17 : decode cX7_contest 17 = .ok (.invokestatic 203, 3) := by decide +kernel
theorem dX7_contest_20 : decode cX7_contest 20 = .ok (.aload_n 0, 1) := by decide +kernel
theorem dX7_contest_21 : decode cX7_contest 21 = .ok (.getfield 24, 3) := by decide +kernel
theorem dX7_contest_24 : decode cX7_contest 24 = .ok (.invokevirtual 74, 3) := by decide +kernel
theorem dX7_contest_27 : decode cX7_contest 27 = .ok (.astore 4, 2) := by decide +kernel
theorem dX7_contest_29 : decode cX7_contest 29 = .ok (.aload 4, 2) := by decide +kernel
theorem dX7_contest_31 : decode cX7_contest 31 = .ok (.iload_n 1, 1) := by decide +kernel
theorem dX7_contest_32 : decode cX7_contest 32 = .ok (.iload_n 2, 1) := by decide +kernel
theorem dX7_contest_33 : decode cX7_contest 33 = .ok (.invokevirtual 213, 3) := by decide +kernel
theorem dX7_contest_36 : decode cX7_contest 36 = .ok (.aload 4, 2) := by decide +kernel
theorem dX7_contest_38 : decode cX7_contest 38 = .ok (.getfield 140, 3) := by decide +kernel
theorem dX7_contest_41 : decode cX7_contest 41 = .ok (.iload_n 1, 1) := by decide +kernel
theorem dX7_contest_42 : decode cX7_contest 42 = .ok (.iaload, 1) := by decide +kernel
theorem dX7_contest_43 : decode cX7_contest 43 = .ok (.iconst 1, 1) := by decide +kernel
theorem dX7_contest_44 : decode cX7_contest 44 = .ok (.iadd, 1) := by decide +kernel
theorem dX7_contest_45 : decode cX7_contest 45 = .ok (.ireturn, 1) := by decide +kernel
theorem dX7_accept_0 : decode cX7_accept 0 = .ok (.aload_n 0, 1) := by decide +kernel
theorem dX7_accept_1 : decode cX7_accept 1 = .ok (.iload_n 1, 1) := by decide +kernel
theorem dX7_accept_2 : decode cX7_accept 2 = .ok (.invokevirtual 134, 3) := by decide +kernel
theorem dX7_accept_5 : decode cX7_accept 5 = .ok (.astore_n 2, 1) := by decide +kernel
theorem dX7_accept_6 : decode cX7_accept 6 = .ok (.aload_n 2, 1) := by decide +kernel
theorem dX7_accept_7 : decode cX7_accept 7 = .ok (.getfield 137, 3) := by decide +kernel
theorem dX7_accept_10 : decode cX7_accept 10 = .ok (.iload_n 1, 1) := by decide +kernel
theorem dX7_accept_11 : decode cX7_accept 11 = .ok (.iaload, 1) := by decide +kernel
theorem dX7_accept_12 : decode cX7_accept 12 = .ok (.iconst 3, 1) := by decide +kernel
theorem dX7_accept_13 : decode cX7_accept 13 = .ok (.if_icmp .eq 11, 3) := by decide +kernel
theorem dX7_accept_16 : decode cX7_accept 16 = .ok (.aload_n 2, 1) := by decide +kernel
theorem dX7_accept_17 : decode cX7_accept 17 = .ok (.iload_n 1, 1) := by decide +kernel
theorem dX7_accept_18 : decode cX7_accept 18 = .ok (.invokevirtual 216, 3) := by decide +kernel
theorem dX7_accept_21 : decode cX7_accept 21 = .ok (.ifCond .eq 13, 3) := by decide +kernel
theorem dX7_accept_24 : decode cX7_accept 24 = .ok (.new 181, 3) := by decide +kernel
theorem dX7_accept_27 : decode cX7_accept 27 = .ok (.dup, 1) := by decide +kernel
theorem dX7_accept_28 : decode cX7_accept 28 = .ok (.ldc 219, 2) := by decide +kernel
theorem dX7_accept_30 : decode cX7_accept 30 = .ok (.invokespecial 185, 3) := by decide +kernel
theorem dX7_accept_33 : decode cX7_accept 33 = .ok (.athrow, 1) := by decide +kernel
theorem dX7_accept_34 : decode cX7_accept 34 = .ok (.aload_n 0, 1) := by decide +kernel
theorem dX7_accept_35 : decode cX7_accept 35 = .ok (.getfield 24, 3) := by decide +kernel
theorem dX7_accept_38 : decode cX7_accept 38 = .ok (.invokevirtual 74, 3) := by decide +kernel
theorem dX7_accept_41 : decode cX7_accept 41 = .ok (.astore_n 3, 1) := by decide +kernel
theorem dX7_accept_42 : decode cX7_accept 42 = .ok (.aload_n 3, 1) := by decide +kernel
theorem dX7_accept_43 : decode cX7_accept 43 = .ok (.iload_n 1, 1) := by decide +kernel
theorem dX7_accept_44 : decode cX7_accept 44 = .ok (.aload_n 3, 1) := by decide +kernel
theorem dX7_accept_45 : decode cX7_accept 45 = .ok (.iload_n 1, 1) := by decide +kernel
theorem dX7_accept_46 : decode cX7_accept 46 = .ok (.invokevirtual 221, 3) := by decide +kernel
theorem dX7_accept_49 : decode cX7_accept 49 = .ok (.invokevirtual 224, 3) := by decide +kernel
theorem dX7_accept_52 : decode cX7_accept 52 = .ok (.aload_n 3, 1) := by decide +kernel
theorem dX7_accept_53 : decode cX7_accept 53 = .ok (.getfield 137, 3) := by decide +kernel
theorem dX7_accept_56 : decode cX7_accept 56 = .ok (.iload_n 1, 1) := by decide +kernel
theorem dX7_accept_57 : decode cX7_accept 57 = .ok (.iaload, 1) := by decide +kernel
theorem dX7_accept_58 : decode cX7_accept 58 = .ok (.ireturn, 1) := by decide +kernel
theorem dX7_pass_0 : decode cX7_pass 0 = .ok (.iload_n 1, 1) := by decide +kernel
theorem dX7_pass_1 : decode cX7_pass 1 = .ok (.iconst 1, 1) := by decide +kernel
theorem dX7_pass_2 : decode cX7_pass 2 = .ok (.bipush 100, 2) := by decide +kernel
theorem dX7_pass_4 : decode cX7_pass 4 = .ok (.invokestatic 153, 3) := by decide +kernel
theorem dX7_pass_7 : decode cX7_pass 7 = .ok (.aload_n 0, 1) := by decide +kernel
theorem dX7_pass_8 : decode cX7_pass 8 = .ok (.getfield 24, 3) := by decide +kernel
theorem dX7_pass_11 : decode cX7_pass 11 = .ok (.invokevirtual 90, 3) := by decide +kernel
theorem dX7_pass_14 : decode cX7_pass 14 = .ok (.getfield 106, 3) := by decide +kernel
theorem dX7_pass_17 : decode cX7_pass 17 = .ok (.iload_n 1, 1) := by decide +kernel
theorem dX7_pass_18 : decode cX7_pass 18 = .ok (.iadd, 1) := by decide +kernel
theorem dX7_pass_19 : decode cX7_pass 19 = .ok (.sipush 9999, 3) := by decide +kernel
theorem dX7_pass_22 : decode cX7_pass 22 = .ok (.if_icmp .le 13, 3) := by decide +kernel
theorem dX7_pass_25 : decode cX7_pass 25 = .ok (.new 181, 3) := by decide +kernel
theorem dX7_pass_28 : decode cX7_pass 28 = .ok (.dup, 1) := by decide +kernel
theorem dX7_pass_29 : decode cX7_pass 29 = .ok (.ldc 227, 2) := by decide +kernel
theorem dX7_pass_31 : decode cX7_pass 31 = .ok (.invokespecial 185, 3) := by decide +kernel
theorem dX7_pass_34 : decode cX7_pass 34 = .ok (.athrow, 1) := by decide +kernel
theorem dX7_pass_35 : decode cX7_pass 35 = .ok (.aload_n 0, 1) := by decide +kernel
theorem dX7_pass_36 : decode cX7_pass 36 = .ok (.getfield 24, 3) := by decide +kernel
theorem dX7_pass_39 : decode cX7_pass 39 = .ok (.invokevirtual 74, 3) := by decide +kernel
theorem dX7_pass_42 : decode cX7_pass 42 = .ok (.astore_n 2, 1) := by decide +kernel
theorem dX7_pass_43 : decode cX7_pass 43 = .ok (.iconst 0, 1) := by decide +kernel
theorem dX7_pass_44 : decode cX7_pass 44 = .ok (.istore_n 3, 1) := by decide +kernel
theorem dX7_pass_45 : decode cX7_pass 45 = .ok (.iconst 0, 1) := by decide +kernel
theorem dX7_pass_46 : decode cX7_pass 46 = .ok (.istore 4, 2) := by decide +kernel
theorem dX7_pass_48 : decode cX7_pass 48 = .ok (.iload 4, 2) := by decide +kernel
theorem dX7_pass_50 : decode cX7_pass 50 = .ok (.iload_n 1, 1) := by decide +kernel
theorem dX7_pass_51 : decode cX7_pass 51 = .ok (.if_icmp .ge 16, 3) := by decide +kernel
theorem dX7_pass_54 : decode cX7_pass 54 = .ok (.iload_n 3, 1) := by decide +kernel
theorem dX7_pass_55 : decode cX7_pass 55 = .ok (.aload_n 2, 1) := by decide +kernel
theorem dX7_pass_56 : decode cX7_pass 56 = .ok (.invokevirtual 229, 3) := by decide +kernel
theorem dX7_pass_59 : decode cX7_pass 59 = .ok (.iadd, 1) := by decide +kernel
theorem dX7_pass_60 : decode cX7_pass 60 = .ok (.istore_n 3, 1) := by decide +kernel
theorem dX7_pass_61 : decode cX7_pass 61 = .ok (.iinc 4 1, 3) := by decide +kernel
theorem dX7_pass_64 : decode cX7_pass 64 = .ok (.goto (-16), 3) := by decide +kernel
theorem dX7_pass_67 : decode cX7_pass 67 = .ok (.iload_n 3, 1) := by decide +kernel
theorem dX7_pass_68 : decode cX7_pass 68 = .ok (.ireturn, 1) := by decide +kernel
theorem dX7_undo_0 : decode cX7_undo 0 = .ok (.aload_n 0, 1) := by decide +kernel
theorem dX7_undo_1 : decode cX7_undo 1 = .ok (.getfield 24, 3) := by decide +kernel
theorem dX7_undo_4 : decode cX7_undo 4 = .ok (.invokevirtual 232, 3) := by decide +kernel
theorem dX7_undo_7 : decode cX7_undo 7 = .ok (.ireturn, 1) := by decide +kernel
theorem dX7_checksum_0 : decode cX7_checksum 0 = .ok (.aload_n 0, 1) := by decide +kernel
theorem dX7_checksum_1 : decode cX7_checksum 1 = .ok (.getfield 24, 3) := by decide +kernel
theorem dX7_checksum_4 : decode cX7_checksum 4 = .ok (.invokevirtual 90, 3) := by decide +kernel
theorem dX7_checksum_7 : decode cX7_checksum 7 = .ok (.astore_n 1, 1) := by decide +kernel
theorem dX7_checksum_8 : decode cX7_checksum 8 = .ok (.aload_n 1, 1) := by decide +kernel
theorem dX7_checksum_9 : decode cX7_checksum 9 = .ok (.getfield 106, 3) := by decide +kernel
theorem dX7_checksum_12 : decode cX7_checksum 12 = .ok (.i2l, 1) := by decide +kernel
theorem dX7_checksum_13 : decode cX7_checksum 13 = .ok (.lstore_n 2, 1) := by decide +kernel
theorem dX7_checksum_14 : decode cX7_checksum 14 = .ok (.iconst 0, 1) := by decide +kernel
theorem dX7_checksum_15 : decode cX7_checksum 15 = .ok (.istore 4, 2) := by decide +kernel
theorem dX7_checksum_17 : decode cX7_checksum 17 = .ok (.iload 4, 2) := by decide +kernel
theorem dX7_checksum_19 : decode cX7_checksum 19 = .ok (.aload_n 1, 1) := by decide +kernel
theorem dX7_checksum_20 : decode cX7_checksum 20 = .ok (.getfield 93, 3) := by decide +kernel
theorem dX7_checksum_23 : decode cX7_checksum 23 = .ok (.getfield 94, 3) := by decide +kernel
theorem dX7_checksum_26 : decode cX7_checksum 26 = .ok (.if_icmp .ge 24, 3) := by decide +kernel
theorem dX7_checksum_29 : decode cX7_checksum 29 = .ok (.ldc2_w 235, 3) := by decide +kernel
theorem dX7_checksum_32 : decode cX7_checksum 32 = .ok (.lload_n 2, 1) := by decide +kernel
theorem dX7_checksum_33 : decode cX7_checksum 33 = .ok (.lmul, 1) := by decide +kernel
theorem dX7_checksum_34 : decode cX7_checksum 34 = .ok (.aload_n 1, 1) := by decide +kernel
theorem dX7_checksum_35 : decode cX7_checksum 35 = .ok (.getfield 117, 3) := by decide +kernel
theorem dX7_checksum_38 : decode cX7_checksum 38 = .ok (.iload 4, 2) := by decide +kernel
theorem dX7_checksum_40 : decode cX7_checksum 40 = .ok (.iaload, 1) := by decide +kernel
theorem dX7_checksum_41 : decode cX7_checksum 41 = .ok (.i2l, 1) := by decide +kernel
theorem dX7_checksum_42 : decode cX7_checksum 42 = .ok (.ladd, 1) := by decide +kernel
theorem dX7_checksum_43 : decode cX7_checksum 43 = .ok (.lstore_n 2, 1) := by decide +kernel
theorem dX7_checksum_44 : decode cX7_checksum 44 = .ok (.iinc 4 1, 3) := by decide +kernel
theorem dX7_checksum_47 : decode cX7_checksum 47 = .ok (.goto (-30), 3) := by decide +kernel
theorem dX7_checksum_50 : decode cX7_checksum 50 = .ok (.iconst 0, 1) := by decide +kernel
theorem dX7_checksum_51 : decode cX7_checksum 51 = .ok (.istore 4, 2) := by decide +kernel
theorem dX7_checksum_53 : decode cX7_checksum 53 = .ok (.iload 4, 2) := by decide +kernel
theorem dX7_checksum_55 : decode cX7_checksum 55 = .ok (.aload_n 1, 1) := by decide +kernel
theorem dX7_checksum_56 : decode cX7_checksum 56 = .ok (.getfield 93, 3) := by decide +kernel
theorem dX7_checksum_59 : decode cX7_checksum 59 = .ok (.getfield 97, 3) := by decide +kernel
theorem dX7_checksum_62 : decode cX7_checksum 62 = .ok (.if_icmp .ge 24, 3) := by decide +kernel
theorem dX7_checksum_65 : decode cX7_checksum 65 = .ok (.ldc2_w 235, 3) := by decide +kernel
theorem dX7_checksum_68 : decode cX7_checksum 68 = .ok (.lload_n 2, 1) := by decide +kernel
theorem dX7_checksum_69 : decode cX7_checksum 69 = .ok (.lmul, 1) := by decide +kernel
theorem dX7_checksum_70 : decode cX7_checksum 70 = .ok (.aload_n 1, 1) := by decide +kernel
theorem dX7_checksum_71 : decode cX7_checksum 71 = .ok (.getfield 125, 3) := by decide +kernel
theorem dX7_checksum_74 : decode cX7_checksum 74 = .ok (.iload 4, 2) := by decide +kernel
theorem dX7_checksum_76 : decode cX7_checksum 76 = .ok (.iaload, 1) := by decide +kernel
theorem dX7_checksum_77 : decode cX7_checksum 77 = .ok (.i2l, 1) := by decide +kernel
theorem dX7_checksum_78 : decode cX7_checksum 78 = .ok (.ladd, 1) := by decide +kernel
theorem dX7_checksum_79 : decode cX7_checksum 79 = .ok (.lstore_n 2, 1) := by decide +kernel
theorem dX7_checksum_80 : decode cX7_checksum 80 = .ok (.iinc 4 1, 3) := by decide +kernel
theorem dX7_checksum_83 : decode cX7_checksum 83 = .ok (.goto (-30), 3) := by decide +kernel
theorem dX7_checksum_86 : decode cX7_checksum 86 = .ok (.ldc2_w 235, 3) := by decide +kernel
theorem dX7_checksum_89 : decode cX7_checksum 89 = .ok (.lload_n 2, 1) := by decide +kernel
theorem dX7_checksum_90 : decode cX7_checksum 90 = .ok (.lmul, 1) := by decide +kernel
theorem dX7_checksum_91 : decode cX7_checksum 91 = .ok (.aload_n 1, 1) := by decide +kernel
theorem dX7_checksum_92 : decode cX7_checksum 92 = .ok (.getfield 128, 3) := by decide +kernel
theorem dX7_checksum_95 : decode cX7_checksum 95 = .ok (.i2l, 1) := by decide +kernel
theorem dX7_checksum_96 : decode cX7_checksum 96 = .ok (.ladd, 1) := by decide +kernel
theorem dX7_checksum_97 : decode cX7_checksum 97 = .ok (.lstore_n 2, 1) := by decide +kernel
theorem dX7_checksum_98 : decode cX7_checksum 98 = .ok (.iconst 0, 1) := by decide +kernel
theorem dX7_checksum_99 : decode cX7_checksum 99 = .ok (.istore 4, 2) := by decide +kernel
theorem dX7_checksum_101 : decode cX7_checksum 101 = .ok (.iload 4, 2) := by decide +kernel
theorem dX7_checksum_103 : decode cX7_checksum 103 = .ok (.aload_n 1, 1) := by decide +kernel
theorem dX7_checksum_104 : decode cX7_checksum 104 = .ok (.getfield 100, 3) := by decide +kernel
theorem dX7_checksum_107 : decode cX7_checksum 107 = .ok (.if_icmp .ge 23, 3) := by decide +kernel
theorem dX7_checksum_110 : decode cX7_checksum 110 = .ok (.ldc2_w 235, 3) := by decide +kernel
theorem dX7_checksum_113 : decode cX7_checksum 113 = .ok (.lload_n 2, 1) := by decide +kernel
theorem dX7_checksum_114 : decode cX7_checksum 114 = .ok (.lmul, 1) := by decide +kernel
theorem dX7_checksum_115 : decode cX7_checksum 115 = .ok (.aload_n 1, 1) := by decide +kernel
theorem dX7_checksum_116 : decode cX7_checksum 116 = .ok (.iload 4, 2) := by decide +kernel
theorem dX7_checksum_118 : decode cX7_checksum 118 = .ok (.invokevirtual 131, 3) := by decide +kernel
theorem dX7_checksum_121 : decode cX7_checksum 121 = .ok (.i2l, 1) := by decide +kernel
theorem dX7_checksum_122 : decode cX7_checksum 122 = .ok (.ladd, 1) := by decide +kernel
theorem dX7_checksum_123 : decode cX7_checksum 123 = .ok (.lstore_n 2, 1) := by decide +kernel
theorem dX7_checksum_124 : decode cX7_checksum 124 = .ok (.iinc 4 1, 3) := by decide +kernel
theorem dX7_checksum_127 : decode cX7_checksum 127 = .ok (.goto (-26), 3) := by decide +kernel
theorem dX7_checksum_130 : decode cX7_checksum 130 = .ok (.iconst 0, 1) := by decide +kernel
theorem dX7_checksum_131 : decode cX7_checksum 131 = .ok (.istore 4, 2) := by decide +kernel
theorem dX7_checksum_133 : decode cX7_checksum 133 = .ok (.iload 4, 2) := by decide +kernel
theorem dX7_checksum_135 : decode cX7_checksum 135 = .ok (.aload_n 1, 1) := by decide +kernel
theorem dX7_checksum_136 : decode cX7_checksum 136 = .ok (.getfield 103, 3) := by decide +kernel
theorem dX7_checksum_139 : decode cX7_checksum 139 = .ok (.if_icmp .ge 54, 3) := by decide +kernel
theorem dX7_checksum_142 : decode cX7_checksum 142 = .ok (.ldc2_w 235, 3) := by decide +kernel
theorem dX7_checksum_145 : decode cX7_checksum 145 = .ok (.lload_n 2, 1) := by decide +kernel
theorem dX7_checksum_146 : decode cX7_checksum 146 = .ok (.lmul, 1) := by decide +kernel
theorem dX7_checksum_147 : decode cX7_checksum 147 = .ok (.aload_n 1, 1) := by decide +kernel
theorem dX7_checksum_148 : decode cX7_checksum 148 = .ok (.getfield 137, 3) := by decide +kernel
theorem dX7_checksum_151 : decode cX7_checksum 151 = .ok (.iload 4, 2) := by decide +kernel
theorem dX7_checksum_153 : decode cX7_checksum 153 = .ok (.iaload, 1) := by decide +kernel
theorem dX7_checksum_154 : decode cX7_checksum 154 = .ok (.i2l, 1) := by decide +kernel
theorem dX7_checksum_155 : decode cX7_checksum 155 = .ok (.ladd, 1) := by decide +kernel
theorem dX7_checksum_156 : decode cX7_checksum 156 = .ok (.lstore_n 2, 1) := by decide +kernel
theorem dX7_checksum_157 : decode cX7_checksum 157 = .ok (.ldc2_w 235, 3) := by decide +kernel
theorem dX7_checksum_160 : decode cX7_checksum 160 = .ok (.lload_n 2, 1) := by decide +kernel
theorem dX7_checksum_161 : decode cX7_checksum 161 = .ok (.lmul, 1) := by decide +kernel
theorem dX7_checksum_162 : decode cX7_checksum 162 = .ok (.aload_n 1, 1) := by decide +kernel
theorem dX7_checksum_163 : decode cX7_checksum 163 = .ok (.getfield 140, 3) := by decide +kernel
theorem dX7_checksum_166 : decode cX7_checksum 166 = .ok (.iload 4, 2) := by decide +kernel
theorem dX7_checksum_168 : decode cX7_checksum 168 = .ok (.iaload, 1) := by decide +kernel
theorem dX7_checksum_169 : decode cX7_checksum 169 = .ok (.i2l, 1) := by decide +kernel
theorem dX7_checksum_170 : decode cX7_checksum 170 = .ok (.ladd, 1) := by decide +kernel
theorem dX7_checksum_171 : decode cX7_checksum 171 = .ok (.lstore_n 2, 1) := by decide +kernel
theorem dX7_checksum_172 : decode cX7_checksum 172 = .ok (.ldc2_w 235, 3) := by decide +kernel
theorem dX7_checksum_175 : decode cX7_checksum 175 = .ok (.lload_n 2, 1) := by decide +kernel
theorem dX7_checksum_176 : decode cX7_checksum 176 = .ok (.lmul, 1) := by decide +kernel
theorem dX7_checksum_177 : decode cX7_checksum 177 = .ok (.aload_n 1, 1) := by decide +kernel
theorem dX7_checksum_178 : decode cX7_checksum 178 = .ok (.getfield 143, 3) := by decide +kernel
theorem dX7_checksum_181 : decode cX7_checksum 181 = .ok (.iload 4, 2) := by decide +kernel
theorem dX7_checksum_183 : decode cX7_checksum 183 = .ok (.iaload, 1) := by decide +kernel
theorem dX7_checksum_184 : decode cX7_checksum 184 = .ok (.i2l, 1) := by decide +kernel
theorem dX7_checksum_185 : decode cX7_checksum 185 = .ok (.ladd, 1) := by decide +kernel
theorem dX7_checksum_186 : decode cX7_checksum 186 = .ok (.lstore_n 2, 1) := by decide +kernel
theorem dX7_checksum_187 : decode cX7_checksum 187 = .ok (.iinc 4 1, 3) := by decide +kernel
theorem dX7_checksum_190 : decode cX7_checksum 190 = .ok (.goto (-57), 3) := by decide +kernel
theorem dX7_checksum_193 : decode cX7_checksum 193 = .ok (.lload_n 2, 1) := by decide +kernel
theorem dX7_checksum_194 : decode cX7_checksum 194 = .ok (.lreturn, 1) := by decide +kernel
theorem dX7_bookWithMerchant_0 : decode cX7_bookWithMerchant 0 = .ok (.aload_n 0, 1) := by decide +kernel
theorem dX7_bookWithMerchant_1 : decode cX7_bookWithMerchant 1 = .ok (.getfield 24, 3) := by decide +kernel
theorem dX7_bookWithMerchant_4 : decode cX7_bookWithMerchant 4 = .ok (.invokevirtual 90, 3) := by decide +kernel
theorem dX7_bookWithMerchant_7 : decode cX7_bookWithMerchant 7 = .ok (.astore_n 2, 1) := by decide +kernel
theorem dX7_bookWithMerchant_8 : decode cX7_bookWithMerchant 8 = .ok (.iload_n 1, 1) := by decide +kernel
theorem dX7_bookWithMerchant_9 : decode cX7_bookWithMerchant 9 = .ok (.aload_n 2, 1) := by decide +kernel
theorem dX7_bookWithMerchant_10 : decode cX7_bookWithMerchant 10 = .ok (.getfield 93, 3) := by decide +kernel
theorem dX7_bookWithMerchant_13 : decode cX7_bookWithMerchant 13 = .ok (.getfield 97, 3) := by decide +kernel
theorem dX7_bookWithMerchant_16 : decode cX7_bookWithMerchant 16 = .ok (.invokestatic 113, 3) := by decide +kernel
theorem dX7_bookWithMerchant_19 : decode cX7_bookWithMerchant 19 = .ok (.aload_n 2, 1) := by decide +kernel
theorem dX7_bookWithMerchant_20 : decode cX7_bookWithMerchant 20 = .ok (.areturn, 1) := by decide +kernel
theorem dX7_bookWithDispute_0 : decode cX7_bookWithDispute 0 = .ok (.aload_n 0, 1) := by decide +kernel
theorem dX7_bookWithDispute_1 : decode cX7_bookWithDispute 1 = .ok (.getfield 24, 3) := by decide +kernel
theorem dX7_bookWithDispute_4 : decode cX7_bookWithDispute 4 = .ok (.invokevirtual 90, 3) := by decide +kernel
theorem dX7_bookWithDispute_7 : decode cX7_bookWithDispute 7 = .ok (.astore_n 2, 1) := by decide +kernel
theorem dX7_bookWithDispute_8 : decode cX7_bookWithDispute 8 = .ok (.iload_n 1, 1) := by decide +kernel
theorem dX7_bookWithDispute_9 : decode cX7_bookWithDispute 9 = .ok (.aload_n 2, 1) := by decide +kernel
theorem dX7_bookWithDispute_10 : decode cX7_bookWithDispute 10 = .ok (.getfield 103, 3) := by decide +kernel
theorem dX7_bookWithDispute_13 : decode cX7_bookWithDispute 13 = .ok (.invokestatic 113, 3) := by decide +kernel
theorem dX7_bookWithDispute_16 : decode cX7_bookWithDispute 16 = .ok (.aload_n 2, 1) := by decide +kernel
theorem dX7_bookWithDispute_17 : decode cX7_bookWithDispute 17 = .ok (.areturn, 1) := by decide +kernel
theorem dX7_checkIndex_0 : decode cX7_checkIndex 0 = .ok (.iload_n 0, 1) := by decide +kernel
theorem dX7_checkIndex_1 : decode cX7_checkIndex 1 = .ok (.ifCond .lt 8, 3) := by decide +kernel
theorem dX7_checkIndex_4 : decode cX7_checkIndex 4 = .ok (.iload_n 0, 1) := by decide +kernel
theorem dX7_checkIndex_5 : decode cX7_checkIndex 5 = .ok (.iload_n 1, 1) := by decide +kernel
theorem dX7_checkIndex_6 : decode cX7_checkIndex 6 = .ok (.if_icmp .lt 13, 3) := by decide +kernel
theorem dX7_checkIndex_9 : decode cX7_checkIndex 9 = .ok (.new 237, 3) := by decide +kernel
theorem dX7_checkIndex_12 : decode cX7_checkIndex 12 = .ok (.dup, 1) := by decide +kernel
theorem dX7_checkIndex_13 : decode cX7_checkIndex 13 = .ok (.ldc 239, 2) := by decide +kernel
theorem dX7_checkIndex_15 : decode cX7_checkIndex 15 = .ok (.invokespecial 241, 3) := by decide +kernel
theorem dX7_checkIndex_18 : decode cX7_checkIndex 18 = .ok (.athrow, 1) := by decide +kernel
theorem dX7_checkIndex_19 : decode cX7_checkIndex 19 = .ok (.return_, 1) := by decide +kernel
theorem dX7_checkRange_0 : decode cX7_checkRange 0 = .ok (.iload_n 0, 1) := by decide +kernel
theorem dX7_checkRange_1 : decode cX7_checkRange 1 = .ok (.iload_n 1, 1) := by decide +kernel
theorem dX7_checkRange_2 : decode cX7_checkRange 2 = .ok (.if_icmp .lt 8, 3) := by decide +kernel
theorem dX7_checkRange_5 : decode cX7_checkRange 5 = .ok (.iload_n 0, 1) := by decide +kernel
theorem dX7_checkRange_6 : decode cX7_checkRange 6 = .ok (.iload_n 2, 1) := by decide +kernel
theorem dX7_checkRange_7 : decode cX7_checkRange 7 = .ok (.if_icmp .le 13, 3) := by decide +kernel
theorem dX7_checkRange_10 : decode cX7_checkRange 10 = .ok (.new 43, 3) := by decide +kernel
theorem dX7_checkRange_13 : decode cX7_checkRange 13 = .ok (.dup, 1) := by decide +kernel
theorem dX7_checkRange_14 : decode cX7_checkRange 14 = .ok (.ldc 242, 2) := by decide +kernel
theorem dX7_checkRange_16 : decode cX7_checkRange 16 = .ok (.invokespecial 47, 3) := by decide +kernel
theorem dX7_checkRange_19 : decode cX7_checkRange 19 = .ok (.athrow, 1) := by decide +kernel
theorem dX7_checkRange_20 : decode cX7_checkRange 20 = .ok (.return_, 1) := by decide +kernel
theorem dX7_checkState_0 : decode cX7_checkState 0 = .ok (.aload_n 0, 1) := by decide +kernel
theorem dX7_checkState_1 : decode cX7_checkState 1 = .ok (.getfield 137, 3) := by decide +kernel
theorem dX7_checkState_4 : decode cX7_checkState 4 = .ok (.iload_n 1, 1) := by decide +kernel
theorem dX7_checkState_5 : decode cX7_checkState 5 = .ok (.iaload, 1) := by decide +kernel
theorem dX7_checkState_6 : decode cX7_checkState 6 = .ok (.iload_n 2, 1) := by decide +kernel
theorem dX7_checkState_7 : decode cX7_checkState 7 = .ok (.if_icmp .eq 13, 3) := by decide +kernel
theorem dX7_checkState_10 : decode cX7_checkState 10 = .ok (.new 181, 3) := by decide +kernel
theorem dX7_checkState_13 : decode cX7_checkState 13 = .ok (.dup, 1) := by decide +kernel
theorem dX7_checkState_14 : decode cX7_checkState 14 = .ok (.ldc 244, 2) := by decide +kernel
theorem dX7_checkState_16 : decode cX7_checkState 16 = .ok (.invokespecial 185, 3) := by decide +kernel
theorem dX7_checkState_19 : decode cX7_checkState 19 = .ok (.athrow, 1) := by decide +kernel
theorem dX7_checkState_20 : decode cX7_checkState 20 = .ok (.return_, 1) := by decide +kernel
end
section
theorem dX8_init_0 : decode cX8_init 0 = .ok (.aload_n 0, 1) := by decide +kernel
theorem dX8_init_1 : decode cX8_init 1 = .ok (.invokespecial 3, 3) := by decide +kernel
theorem dX8_init_4 : decode cX8_init 4 = .ok (.aload_n 0, 1) := by decide +kernel
theorem dX8_init_5 : decode cX8_init 5 = .ok (.sipush 900, 3) := by decide +kernel
theorem dX8_init_8 : decode cX8_init 8 = .ok (.newarray .int, 2) := by decide +kernel
theorem dX8_init_10 : decode cX8_init 10 = .ok (.putfield 9, 3) := by decide +kernel
theorem dX8_init_13 : decode cX8_init 13 = .ok (.aload_n 0, 1) := by decide +kernel
theorem dX8_init_14 : decode cX8_init 14 = .ok (.iconst (-1), 1) := by decide +kernel
theorem dX8_init_15 : decode cX8_init 15 = .ok (.putfield 13, 3) := by decide +kernel
theorem dX8_init_18 : decode cX8_init 18 = .ok (.aload_n 0, 1) := by decide +kernel
theorem dX8_init_19 : decode cX8_init 19 = .ok (.sipush 1824, 3) := by decide +kernel
theorem dX8_init_22 : decode cX8_init 22 = .ok (.newarray .int, 2) := by decide +kernel
theorem dX8_init_24 : decode cX8_init 24 = .ok (.putfield 17, 3) := by decide +kernel
theorem dX8_init_27 : decode cX8_init 27 = .ok (.aload_n 0, 1) := by decide +kernel
theorem dX8_init_28 : decode cX8_init 28 = .ok (.sipush 1824, 3) := by decide +kernel
theorem dX8_init_31 : decode cX8_init 31 = .ok (.newarray .int, 2) := by decide +kernel
theorem dX8_init_33 : decode cX8_init 33 = .ok (.putfield 20, 3) := by decide +kernel
theorem dX8_init_36 : decode cX8_init 36 = .ok (.aload_n 0, 1) := by decide +kernel
theorem dX8_init_37 : decode cX8_init 37 = .ok (.sipush 1824, 3) := by decide +kernel
theorem dX8_init_40 : decode cX8_init 40 = .ok (.newarray .int, 2) := by decide +kernel
theorem dX8_init_42 : decode cX8_init 42 = .ok (.putfield 23, 3) := by decide +kernel
theorem dX8_init_45 : decode cX8_init 45 = .ok (.aload_n 0, 1) := by decide +kernel
theorem dX8_init_46 : decode cX8_init 46 = .ok (.bipush 8, 2) := by decide +kernel
theorem dX8_init_48 : decode cX8_init 48 = .ok (.sipush 1824, 3) := by decide +kernel
theorem dX8_init_51 : decode cX8_init 51 = .ok (.multianewarray 26 2, 4) := by decide +kernel
theorem dX8_init_55 : decode cX8_init 55 = .ok (.putfield 28, 3) := by decide +kernel
theorem dX8_init_58 : decode cX8_init 58 = .ok (.aload_n 0, 1) := by decide +kernel
theorem dX8_init_59 : decode cX8_init 59 = .ok (.sipush 1500, 3) := by decide +kernel
theorem dX8_init_62 : decode cX8_init 62 = .ok (.newarray .long, 2) := by decide +kernel
theorem dX8_init_64 : decode cX8_init 64 = .ok (.putfield 31, 3) := by decide +kernel
theorem dX8_init_67 : decode cX8_init 67 = .ok (.aload_n 0, 1) := by decide +kernel
theorem dX8_init_68 : decode cX8_init 68 = .ok (.getfield 17, 3) := by decide +kernel
theorem dX8_init_71 : decode cX8_init 71 = .ok (.invokestatic 35, 3) := by decide +kernel
theorem dX8_init_74 : decode cX8_init 74 = .ok (.return_, 1) := by decide +kernel
theorem dX8_thrown_0 : decode cX8_thrown 0 = .ok (.aload_n 0, 1) := by decide +kernel
theorem dX8_thrown_1 : decode cX8_thrown 1 = .ok (.getfield 39, 3) := by decide +kernel
theorem dX8_thrown_4 : decode cX8_thrown 4 = .ok (.ireturn, 1) := by decide +kernel
theorem dX8_fails_0 : decode cX8_fails 0 = .ok (.iload_n 1, 1) := by decide +kernel
theorem dX8_fails_1 : decode cX8_fails 1 = .ok (.ifCond .eq 15, 3) := by decide +kernel
theorem dX8_fails_4 : decode cX8_fails 4 = .ok (.aload_n 0, 1) := by decide +kernel
theorem dX8_fails_5 : decode cX8_fails 5 = .ok (.getfield 39, 3) := by decide +kernel
theorem dX8_fails_8 : decode cX8_fails 8 = .ok (.ifCond .ne 8, 3) := by decide +kernel
theorem dX8_fails_11 : decode cX8_fails 11 = .ok (.aload_n 0, 1) := by decide +kernel
theorem dX8_fails_12 : decode cX8_fails 12 = .ok (.iload_n 2, 1) := by decide +kernel
theorem dX8_fails_13 : decode cX8_fails 13 = .ok (.putfield 39, 3) := by decide +kernel
theorem dX8_fails_16 : decode cX8_fails 16 = .ok (.aload_n 0, 1) := by decide +kernel
theorem dX8_fails_17 : decode cX8_fails 17 = .ok (.getfield 39, 3) := by decide +kernel
theorem dX8_fails_20 : decode cX8_fails 20 = .ok (.ifCond .eq 7, 3) := by decide +kernel
theorem dX8_fails_23 : decode cX8_fails 23 = .ok (.iconst 1, 1) := by decide +kernel
theorem dX8_fails_24 : decode cX8_fails 24 = .ok (.goto 4, 3) := by decide +kernel
theorem dX8_fails_27 : decode cX8_fails 27 = .ok (.iconst 0, 1) := by decide +kernel
theorem dX8_fails_28 : decode cX8_fails 28 = .ok (.ireturn, 1) := by decide +kernel
theorem dX8_in_0 : decode cX8_in 0 = .ok (.iload_n 0, 1) := by decide +kernel
theorem dX8_in_1 : decode cX8_in 1 = .ok (.iload_n 1, 1) := by decide +kernel
theorem dX8_in_2 : decode cX8_in 2 = .ok (.if_icmp .lt 12, 3) := by decide +kernel
theorem dX8_in_5 : decode cX8_in 5 = .ok (.iload_n 0, 1) := by decide +kernel
theorem dX8_in_6 : decode cX8_in 6 = .ok (.iload_n 2, 1) := by decide +kernel
theorem dX8_in_7 : decode cX8_in 7 = .ok (.if_icmp .gt 7, 3) := by decide +kernel
theorem dX8_in_10 : decode cX8_in 10 = .ok (.iconst 1, 1) := by decide +kernel
theorem dX8_in_11 : decode cX8_in 11 = .ok (.goto 4, 3) := by decide +kernel
theorem dX8_in_14 : decode cX8_in 14 = .ok (.iconst 0, 1) := by decide +kernel
theorem dX8_in_15 : decode cX8_in 15 = .ok (.ireturn, 1) := by decide +kernel
theorem dX8_min_0 : decode cX8_min 0 = .ok (.iload_n 0, 1) := by decide +kernel
theorem dX8_min_1 : decode cX8_min 1 = .ok (.iload_n 1, 1) := by decide +kernel
theorem dX8_min_2 : decode cX8_min 2 = .ok (.if_icmp .ge 7, 3) := by decide +kernel
theorem dX8_min_5 : decode cX8_min 5 = .ok (.iload_n 0, 1) := by decide +kernel
theorem dX8_min_6 : decode cX8_min 6 = .ok (.goto 4, 3) := by decide +kernel
theorem dX8_min_9 : decode cX8_min 9 = .ok (.iload_n 1, 1) := by decide +kernel
theorem dX8_min_10 : decode cX8_min 10 = .ok (.ireturn, 1) := by decide +kernel
theorem dX8_copy_0 : decode cX8_copy 0 = .ok (.iconst 0, 1) := by decide +kernel
theorem dX8_copy_1 : decode cX8_copy 1 = .ok (.istore_n 2, 1) := by decide +kernel
theorem dX8_copy_2 : decode cX8_copy 2 = .ok (.iload_n 2, 1) := by decide +kernel
theorem dX8_copy_3 : decode cX8_copy 3 = .ok (.sipush 1824, 3) := by decide +kernel
theorem dX8_copy_6 : decode cX8_copy 6 = .ok (.if_icmp .ge 15, 3) := by decide +kernel
theorem dX8_copy_9 : decode cX8_copy 9 = .ok (.aload_n 1, 1) := by decide +kernel
theorem dX8_copy_10 : decode cX8_copy 10 = .ok (.iload_n 2, 1) := by decide +kernel
theorem dX8_copy_11 : decode cX8_copy 11 = .ok (.aload_n 0, 1) := by decide +kernel
theorem dX8_copy_12 : decode cX8_copy 12 = .ok (.iload_n 2, 1) := by decide +kernel
theorem dX8_copy_13 : decode cX8_copy 13 = .ok (.iaload, 1) := by decide +kernel
theorem dX8_copy_14 : decode cX8_copy 14 = .ok (.iastore, 1) := by decide +kernel
theorem dX8_copy_15 : decode cX8_copy 15 = .ok (.iinc 2 1, 3) := by decide +kernel
theorem dX8_copy_18 : decode cX8_copy 18 = .ok (.goto (-16), 3) := by decide +kernel
theorem dX8_copy_21 : decode cX8_copy 21 = .ok (.return_, 1) := by decide +kernel
theorem dX8_clear_0 : decode cX8_clear 0 = .ok (.iconst 0, 1) := by decide +kernel
theorem dX8_clear_1 : decode cX8_clear 1 = .ok (.istore_n 1, 1) := by decide +kernel
theorem dX8_clear_2 : decode cX8_clear 2 = .ok (.iload_n 1, 1) := by decide +kernel
theorem dX8_clear_3 : decode cX8_clear 3 = .ok (.sipush 1824, 3) := by decide +kernel
theorem dX8_clear_6 : decode cX8_clear 6 = .ok (.if_icmp .ge 13, 3) := by decide +kernel
theorem dX8_clear_9 : decode cX8_clear 9 = .ok (.aload_n 0, 1) := by decide +kernel
theorem dX8_clear_10 : decode cX8_clear 10 = .ok (.iload_n 1, 1) := by decide +kernel
theorem dX8_clear_11 : decode cX8_clear 11 = .ok (.iconst 0, 1) := by decide +kernel
theorem dX8_clear_12 : decode cX8_clear 12 = .ok (.iastore, 1) := by decide +kernel
theorem dX8_clear_13 : decode cX8_clear 13 = .ok (.iinc 1 1, 3) := by decide +kernel
theorem dX8_clear_16 : decode cX8_clear 16 = .ok (.goto (-14), 3) := by decide +kernel
theorem dX8_clear_19 : decode cX8_clear 19 = .ok (.aload_n 0, 1) := by decide +kernel
theorem dX8_clear_20 : decode cX8_clear 20 = .ok (.iconst 0, 1) := by decide +kernel
theorem dX8_clear_21 : decode cX8_clear 21 = .ok (.iconst 1, 1) := by decide +kernel
theorem dX8_clear_22 : decode cX8_clear 22 = .ok (.iastore, 1) := by decide +kernel
theorem dX8_clear_23 : decode cX8_clear 23 = .ok (.aload_n 0, 1) := by decide +kernel
theorem dX8_clear_24 : decode cX8_clear 24 = .ok (.iconst 1, 1) := by decide +kernel
theorem dX8_clear_25 : decode cX8_clear 25 = .ok (.iconst 1, 1) := by decide +kernel
theorem dX8_clear_26 : decode cX8_clear 26 = .ok (.iastore, 1) := by decide +kernel
theorem dX8_clear_27 : decode cX8_clear 27 = .ok (.aload_n 0, 1) := by decide +kernel
theorem dX8_clear_28 : decode cX8_clear 28 = .ok (.bipush 8, 2) := by decide +kernel
theorem dX8_clear_30 : decode cX8_clear 30 = .ok (.bipush 100, 2) := by decide +kernel
theorem dX8_clear_32 : decode cX8_clear 32 = .ok (.iastore, 1) := by decide +kernel
theorem dX8_clear_33 : decode cX8_clear 33 = .ok (.return_, 1) := by decide +kernel
theorem dX8_reason_0 : decode cX8_reason 0 = .ok (.bipush 20, 2) := by decide +kernel
theorem dX8_reason_2 : decode cX8_reason 2 = .ok (.bipush 6, 2) := by decide +kernel
theorem dX8_reason_4 : decode cX8_reason 4 = .ok (.iload_n 0, 1) := by decide +kernel
theorem dX8_reason_5 : decode cX8_reason 5 = .ok (.imul, 1) := by decide +kernel
theorem dX8_reason_6 : decode cX8_reason 6 = .ok (.iadd, 1) := by decide +kernel
theorem dX8_reason_7 : decode cX8_reason 7 = .ok (.ireturn, 1) := by decide +kernel
theorem dX8_purchase_0 : decode cX8_purchase 0 = .ok (.bipush 68, 2) := by decide +kernel
theorem dX8_purchase_2 : decode cX8_purchase 2 = .ok (.iconst 4, 1) := by decide +kernel
theorem dX8_purchase_3 : decode cX8_purchase 3 = .ok (.iload_n 0, 1) := by decide +kernel
theorem dX8_purchase_4 : decode cX8_purchase 4 = .ok (.imul, 1) := by decide +kernel
theorem dX8_purchase_5 : decode cX8_purchase 5 = .ok (.iadd, 1) := by decide +kernel
theorem dX8_purchase_6 : decode cX8_purchase 6 = .ok (.ireturn, 1) := by decide +kernel
theorem dX8_dispute_0 : decode cX8_dispute 0 = .ok (.sipush 164, 3) := by decide +kernel
theorem dX8_dispute_3 : decode cX8_dispute 3 = .ok (.bipush 8, 2) := by decide +kernel
theorem dX8_dispute_5 : decode cX8_dispute 5 = .ok (.iload_n 0, 1) := by decide +kernel
theorem dX8_dispute_6 : decode cX8_dispute 6 = .ok (.imul, 1) := by decide +kernel
theorem dX8_dispute_7 : decode cX8_dispute 7 = .ok (.iadd, 1) := by decide +kernel
theorem dX8_dispute_8 : decode cX8_dispute 8 = .ok (.ireturn, 1) := by decide +kernel
theorem dX8_append_0 : decode cX8_append 0 = .ok (.aload_n 0, 1) := by decide +kernel
theorem dX8_append_1 : decode cX8_append 1 = .ok (.iconst 0, 1) := by decide +kernel
theorem dX8_append_2 : decode cX8_append 2 = .ok (.putfield 39, 3) := by decide +kernel
theorem dX8_append_5 : decode cX8_append 5 = .ok (.aload_n 0, 1) := by decide +kernel
theorem dX8_append_6 : decode cX8_append 6 = .ok (.getfield 42, 3) := by decide +kernel
theorem dX8_append_9 : decode cX8_append 9 = .ok (.bipush 20, 2) := by decide +kernel
theorem dX8_append_11 : decode cX8_append 11 = .ok (.iadd, 1) := by decide +kernel
theorem dX8_append_12 : decode cX8_append 12 = .ok (.sipush 900, 3) := by decide +kernel
theorem dX8_append_15 : decode cX8_append 15 = .ok (.if_icmp .le 5, 3) := by decide +kernel
theorem dX8_append_18 : decode cX8_append 18 = .ok (.iconst (-1), 1) := by decide +kernel
theorem dX8_append_19 : decode cX8_append 19 = .ok (.ireturn, 1) := by decide +kernel
theorem dX8_append_20 : decode cX8_append 20 = .ok (.iconst 0, 1) := by decide +kernel
theorem dX8_append_21 : decode cX8_append 21 = .ok (.istore 6, 2) := by decide +kernel
theorem dX8_append_23 : decode cX8_append 23 = .ok (.iload 6, 2) := by decide +kernel
theorem dX8_append_25 : decode cX8_append 25 = .ok (.bipush 20, 2) := by decide +kernel
theorem dX8_append_27 : decode cX8_append 27 = .ok (.if_icmp .ge 93, 3) := by decide +kernel
theorem dX8_append_30 : decode cX8_append 30 = .ok (.iload 6, 2) := by decide +kernel
theorem dX8_append_32 : decode cX8_append 32 = .ok (.iconst 4, 1) := by decide +kernel
theorem dX8_append_33 : decode cX8_append 33 = .ok (.if_icmp .ge 7, 3) := by decide +kernel
theorem dX8_append_36 : decode cX8_append 36 = .ok (.iload_n 1, 1) := by decide +kernel
theorem dX8_append_37 : decode cX8_append 37 = .ok (.goto 39, 3) := by decide +kernel
theorem dX8_append_40 : decode cX8_append 40 = .ok (.iload 6, 2) := by decide +kernel
theorem dX8_append_42 : decode cX8_append 42 = .ok (.bipush 8, 2) := by decide +kernel
theorem dX8_append_44 : decode cX8_append 44 = .ok (.if_icmp .ge 7, 3) := by decide +kernel
theorem dX8_append_47 : decode cX8_append 47 = .ok (.iload_n 2, 1) := by decide +kernel
theorem dX8_append_48 : decode cX8_append 48 = .ok (.goto 28, 3) := by decide +kernel
theorem dX8_append_51 : decode cX8_append 51 = .ok (.iload 6, 2) := by decide +kernel
theorem dX8_append_53 : decode cX8_append 53 = .ok (.bipush 12, 2) := by decide +kernel
theorem dX8_append_55 : decode cX8_append 55 = .ok (.if_icmp .ge 7, 3) := by decide +kernel
theorem dX8_append_58 : decode cX8_append 58 = .ok (.iload_n 3, 1) := by decide +kernel
theorem dX8_append_59 : decode cX8_append 59 = .ok (.goto 17, 3) := by decide +kernel
theorem dX8_append_62 : decode cX8_append 62 = .ok (.iload 6, 2) := by decide +kernel
theorem dX8_append_64 : decode cX8_append 64 = .ok (.bipush 16, 2) := by decide +kernel
theorem dX8_append_66 : decode cX8_append 66 = .ok (.if_icmp .ge 8, 3) := by decide +kernel
theorem dX8_append_69 : decode cX8_append 69 = .ok (.iload 4, 2) := by decide +kernel
theorem dX8_append_71 : decode cX8_append 71 = .ok (.goto 5, 3) := by decide +kernel
theorem dX8_append_74 : decode cX8_append 74 = .ok (.iload 5, 2) := by decide +kernel
theorem dX8_append_76 : decode cX8_append 76 = .ok (.istore 7, 2) := by decide +kernel
theorem dX8_append_78 : decode cX8_append 78 = .ok (.aload_n 0, 1) := by decide +kernel
theorem dX8_append_79 : decode cX8_append 79 = .ok (.getfield 9, 3) := by decide +kernel
theorem dX8_append_82 : decode cX8_append 82 = .ok (.aload_n 0, 1) := by decide +kernel
theorem dX8_append_83 : decode cX8_append 83 = .ok (.getfield 42, 3) := by decide +kernel
theorem dX8_append_86 : decode cX8_append 86 = .ok (.iload 7, 2) := by decide +kernel
theorem dX8_append_88 : decode cX8_append 88 = .ok (.bipush 24, 2) := by decide +kernel
theorem dX8_append_90 : decode cX8_append 90 = .ok (.bipush 8, 2) := by decide +kernel
theorem dX8_append_92 : decode cX8_append 92 = .ok (.iload 6, 2) := by decide +kernel
theorem dX8_append_94 : decode cX8_append 94 = .ok (.iconst 4, 1) := by decide +kernel
theorem dX8_append_95 : decode cX8_append 95 = .ok (.irem, 1) := by decide +kernel
theorem dX8_append_96 : decode cX8_append 96 = .ok (.imul, 1) := by decide +kernel
theorem dX8_append_97 : decode cX8_append 97 = .ok (.isub, 1) := by decide +kernel
theorem dX8_append_98 : decode cX8_append 98 = .ok (.ishr, 1) := by decide +kernel
theorem dX8_append_99 : decode cX8_append 99 = .ok (.sipush 255, 3) := by decide +kernel
theorem dX8_append_102 : decode cX8_append 102 = .ok (.iand, 1) := by decide +kernel
theorem dX8_append_103 : decode cX8_append 103 = .ok (.iastore, 1) := by decide +kernel
theorem dX8_append_104 : decode cX8_append 104 = .ok (.aload_n 0, 1) := by decide +kernel
theorem dX8_append_105 : decode cX8_append 105 = .ok (.dup, 1) := by decide +kernel
theorem dX8_append_106 : decode cX8_append 106 = .ok (.getfield 42, 3) := by decide +kernel
theorem dX8_append_109 : decode cX8_append 109 = .ok (.iconst 1, 1) := by decide +kernel
theorem dX8_append_110 : decode cX8_append 110 = .ok (.iadd, 1) := by decide +kernel
theorem dX8_append_111 : decode cX8_append 111 = .ok (.putfield 42, 3) := by decide +kernel
theorem dX8_append_114 : decode cX8_append 114 = .ok (.iinc 6 1, 3) := by decide +kernel
theorem dX8_append_117 : decode cX8_append 117 = .ok (.goto (-94), 3) := by decide +kernel
theorem dX8_append_120 : decode cX8_append 120 = .ok (.aload_n 0, 1) := by decide +kernel
theorem dX8_append_121 : decode cX8_append 121 = .ok (.getfield 42, 3) := by decide +kernel
theorem dX8_append_124 : decode cX8_append 124 = .ok (.ireturn, 1) := by decide +kernel
theorem dX8_byteAt_0 : decode cX8_byteAt 0 = .ok (.iload_n 1, 1) := by decide +kernel
theorem dX8_byteAt_1 : decode cX8_byteAt 1 = .ok (.aload_n 0, 1) := by decide +kernel
theorem dX8_byteAt_2 : decode cX8_byteAt 2 = .ok (.getfield 45, 3) := by decide +kernel
theorem dX8_byteAt_5 : decode cX8_byteAt 5 = .ok (.if_icmp .ge 12, 3) := by decide +kernel
theorem dX8_byteAt_8 : decode cX8_byteAt 8 = .ok (.aload_n 0, 1) := by decide +kernel
theorem dX8_byteAt_9 : decode cX8_byteAt 9 = .ok (.getfield 9, 3) := by decide +kernel
theorem dX8_byteAt_12 : decode cX8_byteAt 12 = .ok (.iload_n 1, 1) := by decide +kernel
theorem dX8_byteAt_13 : decode cX8_byteAt 13 = .ok (.iaload, 1) := by decide +kernel
theorem dX8_byteAt_14 : decode cX8_byteAt 14 = .ok (.goto 4, 3) := by decide +kernel
theorem dX8_byteAt_17 : decode cX8_byteAt 17 = .ok (.iconst (-1), 1) := by decide +kernel
theorem dX8_byteAt_18 : decode cX8_byteAt 18 = .ok (.ireturn, 1) := by decide +kernel
theorem dX8_next_0 : decode cX8_next 0 = .ok (.aload_n 0, 1) := by decide +kernel
theorem dX8_next_1 : decode cX8_next 1 = .ok (.aload_n 0, 1) := by decide +kernel
theorem dX8_next_2 : decode cX8_next 2 = .ok (.getfield 48, 3) := by decide +kernel
theorem dX8_next_5 : decode cX8_next 5 = .ok (.invokevirtual 51, 3) := by decide +kernel
theorem dX8_next_8 : decode cX8_next 8 = .ok (.bipush 32, 2) := by decide +kernel
theorem dX8_next_10 : decode cX8_next 10 = .ok (.if_icmp .ne 16, 3) := by decide +kernel
theorem dX8_next_13 : decode cX8_next 13 = .ok (.aload_n 0, 1) := by decide +kernel
theorem dX8_next_14 : decode cX8_next 14 = .ok (.dup, 1) := by decide +kernel
theorem dX8_next_15 : decode cX8_next 15 = .ok (.getfield 48, 3) := by decide +kernel
theorem dX8_next_18 : decode cX8_next 18 = .ok (.iconst 1, 1) := by decide +kernel
theorem dX8_next_19 : decode cX8_next 19 = .ok (.iadd, 1) := by decide +kernel
theorem dX8_next_20 : decode cX8_next 20 = .ok (.putfield 48, 3) := by decide +kernel
theorem dX8_next_23 : decode cX8_next 23 = .ok (.goto (-23), 3) := by decide +kernel
theorem dX8_next_26 : decode cX8_next 26 = .ok (.aload_n 0, 1) := by decide +kernel
theorem dX8_next_27 : decode cX8_next 27 = .ok (.aload_n 0, 1) := by decide +kernel
theorem dX8_next_28 : decode cX8_next 28 = .ok (.getfield 48, 3) := by decide +kernel
theorem dX8_next_31 : decode cX8_next 31 = .ok (.invokevirtual 51, 3) := by decide +kernel
theorem dX8_next_34 : decode cX8_next 34 = .ok (.ireturn, 1) := by decide +kernel
theorem dX8_isGood_0 : decode cX8_isGood 0 = .ok (.aload_n 0, 1) := by decide +kernel
theorem dX8_isGood_1 : decode cX8_isGood 1 = .ok (.getfield 55, 3) := by decide +kernel
theorem dX8_isGood_4 : decode cX8_isGood 4 = .ok (.ifCond .ne 7, 3) := by decide +kernel
theorem dX8_isGood_7 : decode cX8_isGood 7 = .ok (.iconst 1, 1) := by decide +kernel
theorem dX8_isGood_8 : decode cX8_isGood 8 = .ok (.goto 4, 3) := by decide +kernel
theorem dX8_isGood_11 : decode cX8_isGood 11 = .ok (.iconst 0, 1) := by decide +kernel
theorem dX8_isGood_12 : decode cX8_isGood 12 = .ok (.ireturn, 1) := by decide +kernel
theorem dX8_report_0 : decode cX8_report 0 = .ok (.aload_n 0, 1) := by decide +kernel
theorem dX8_report_1 : decode cX8_report 1 = .ok (.getfield 55, 3) := by decide +kernel
theorem dX8_report_4 : decode cX8_report 4 = .ok (.ifCond .eq 4, 3) := by decide +kernel
theorem dX8_report_7 : decode cX8_report 7 = .ok (.return_, 1) := by decide +kernel
theorem dX8_report_8 : decode cX8_report 8 = .ok (.aload_n 0, 1) := by decide +kernel
theorem dX8_report_9 : decode cX8_report 9 = .ok (.iload_n 1, 1) := by decide +kernel
theorem dX8_report_10 : decode cX8_report 10 = .ok (.putfield 55, 3) := by decide +kernel
theorem dX8_report_13 : decode cX8_report 13 = .ok (.aload_n 0, 1) := by decide +kernel
theorem dX8_report_14 : decode cX8_report 14 = .ok (.iload_n 2, 1) := by decide +kernel
theorem dX8_report_15 : decode cX8_report 15 = .ok (.putfield 58, 3) := by decide +kernel
theorem dX8_report_18 : decode cX8_report 18 = .ok (.return_, 1) := by decide +kernel
theorem dX8_isDigit_0 : decode cX8_isDigit 0 = .ok (.iload_n 0, 1) := by decide +kernel
theorem dX8_isDigit_1 : decode cX8_isDigit 1 = .ok (.bipush 48, 2) := by decide +kernel
theorem dX8_isDigit_3 : decode cX8_isDigit 3 = .ok (.bipush 57, 2) := by decide +kernel
theorem dX8_isDigit_5 : decode cX8_isDigit 5 = .ok (.invokestatic 61, 3) := by decide +kernel
theorem dX8_isDigit_8 : decode cX8_isDigit 8 = .ok (.ireturn, 1) := by decide +kernel
theorem dX8_takeWord_0 : decode cX8_takeWord 0 = .ok (.aload_n 0, 1) := by decide +kernel
theorem dX8_takeWord_1 : decode cX8_takeWord 1 = .ok (.invokevirtual 65, 3) := by decide +kernel
theorem dX8_takeWord_4 : decode cX8_takeWord 4 = .ok (.ifCond .ne 5, 3) := by decide +kernel
theorem dX8_takeWord_7 : decode cX8_takeWord 7 = .ok (.iconst 0, 1) := by decide +kernel
theorem dX8_takeWord_8 : decode cX8_takeWord 8 = .ok (.ireturn, 1) := by decide +kernel
theorem dX8_takeWord_9 : decode cX8_takeWord 9 = .ok (.aload_n 0, 1) := by decide +kernel
theorem dX8_takeWord_10 : decode cX8_takeWord 10 = .ok (.invokevirtual 69, 3) := by decide +kernel
theorem dX8_takeWord_13 : decode cX8_takeWord 13 = .ok (.pop, 1) := by decide +kernel
theorem dX8_takeWord_14 : decode cX8_takeWord 14 = .ok (.iconst 0, 1) := by decide +kernel
theorem dX8_takeWord_15 : decode cX8_takeWord 15 = .ok (.istore_n 2, 1) := by decide +kernel
theorem dX8_takeWord_16 : decode cX8_takeWord 16 = .ok (.iload_n 2, 1) := by decide +kernel
theorem dX8_takeWord_17 : decode cX8_takeWord 17 = .ok (.aload_n 1, 1) := by decide +kernel
theorem dX8_takeWord_18 : decode cX8_takeWord 18 = .ok (.invokevirtual 73, 3) := by decide +kernel
theorem dX8_takeWord_21 : decode cX8_takeWord 21 = .ok (.if_icmp .ge 27, 3) := by decide +kernel
theorem dX8_takeWord_24 : decode cX8_takeWord 24 = .ok (.aload_n 0, 1) := by decide +kernel
theorem dX8_takeWord_25 : decode cX8_takeWord 25 = .ok (.aload_n 0, 1) := by decide +kernel
theorem dX8_takeWord_26 : decode cX8_takeWord 26 = .ok (.getfield 48, 3) := by decide +kernel
theorem dX8_takeWord_29 : decode cX8_takeWord 29 = .ok (.iload_n 2, 1) := by decide +kernel
theorem dX8_takeWord_30 : decode cX8_takeWord 30 = .ok (.iadd, 1) := by decide +kernel
theorem dX8_takeWord_31 : decode cX8_takeWord 31 = .ok (.invokevirtual 51, 3) := by decide +kernel
theorem dX8_takeWord_34 : decode cX8_takeWord 34 = .ok (.aload_n 1, 1) := by decide +kernel
theorem dX8_takeWord_35 : decode cX8_takeWord 35 = .ok (.iload_n 2, 1) := by decide +kernel
theorem dX8_takeWord_36 : decode cX8_takeWord 36 = .ok (.invokevirtual 78, 3) := by decide +kernel
theorem dX8_takeWord_39 : decode cX8_takeWord 39 = .ok (.if_icmp .ne 9, 3) := by decide +kernel
theorem dX8_takeWord_42 : decode cX8_takeWord 42 = .ok (.iinc 2 1, 3) := by decide +kernel
theorem dX8_takeWord_45 : decode cX8_takeWord 45 = .ok (.goto (-29), 3) := by decide +kernel
theorem dX8_takeWord_48 : decode cX8_takeWord 48 = .ok (.iload_n 2, 1) := by decide +kernel
theorem dX8_takeWord_49 : decode cX8_takeWord 49 = .ok (.aload_n 1, 1) := by decide +kernel
theorem dX8_takeWord_50 : decode cX8_takeWord 50 = .ok (.invokevirtual 73, 3) := by decide +kernel
theorem dX8_takeWord_53 : decode cX8_takeWord 53 = .ok (.if_icmp .lt 23, 3) := by decide +kernel
theorem dX8_takeWord_56 : decode cX8_takeWord 56 = .ok (.aload_n 0, 1) := by decide +kernel
theorem dX8_takeWord_57 : decode cX8_takeWord 57 = .ok (.aload_n 0, 1) := by decide +kernel
theorem dX8_takeWord_58 : decode cX8_takeWord 58 = .ok (.getfield 48, 3) := by decide +kernel
theorem dX8_takeWord_61 : decode cX8_takeWord 61 = .ok (.iload_n 2, 1) := by decide +kernel
theorem dX8_takeWord_62 : decode cX8_takeWord 62 = .ok (.iadd, 1) := by decide +kernel
theorem dX8_takeWord_63 : decode cX8_takeWord 63 = .ok (.invokevirtual 51, 3) := by decide +kernel
theorem dX8_takeWord_66 : decode cX8_takeWord 66 = .ok (.bipush 97, 2) := by decide +kernel
theorem dX8_takeWord_68 : decode cX8_takeWord 68 = .ok (.bipush 122, 2) := by decide +kernel
theorem dX8_takeWord_70 : decode cX8_takeWord 70 = .ok (.invokestatic 61, 3) := by decide +kernel
theorem dX8_takeWord_73 : decode cX8_takeWord 73 = .ok (.ifCond .eq 5, 3) := by decide +kernel
theorem dX8_takeWord_76 : decode cX8_takeWord 76 = .ok (.iconst 0, 1) := by decide +kernel
theorem dX8_takeWord_77 : decode cX8_takeWord 77 = .ok (.ireturn, 1) := by decide +kernel
theorem dX8_takeWord_78 : decode cX8_takeWord 78 = .ok (.aload_n 0, 1) := by decide +kernel
theorem dX8_takeWord_79 : decode cX8_takeWord 79 = .ok (.dup, 1) := by decide +kernel
theorem dX8_takeWord_80 : decode cX8_takeWord 80 = .ok (.getfield 48, 3) := by decide +kernel
theorem dX8_takeWord_83 : decode cX8_takeWord 83 = .ok (.iload_n 2, 1) := by decide +kernel
theorem dX8_takeWord_84 : decode cX8_takeWord 84 = .ok (.iadd, 1) := by decide +kernel
theorem dX8_takeWord_85 : decode cX8_takeWord 85 = .ok (.putfield 48, 3) := by decide +kernel
theorem dX8_takeWord_88 : decode cX8_takeWord 88 = .ok (.iconst 1, 1) := by decide +kernel
theorem dX8_takeWord_89 : decode cX8_takeWord 89 = .ok (.ireturn, 1) := by decide +kernel
theorem dX8_expect_0 : decode cX8_expect 0 = .ok (.aload_n 0, 1) := by decide +kernel
theorem dX8_expect_1 : decode cX8_expect 1 = .ok (.invokevirtual 65, 3) := by decide +kernel
theorem dX8_expect_4 : decode cX8_expect 4 = .ok (.ifCond .ne 4, 3) := by decide +kernel
theorem dX8_expect_7 : decode cX8_expect 7 = .ok (.return_, 1) := by decide +kernel
theorem dX8_expect_8 : decode cX8_expect 8 = .ok (.aload_n 0, 1) := by decide +kernel
theorem dX8_expect_9 : decode cX8_expect 9 = .ok (.invokevirtual 69, 3) := by decide +kernel
theorem dX8_expect_12 : decode cX8_expect 12 = .ok (.iload_n 1, 1) := by decide +kernel
theorem dX8_expect_13 : decode cX8_expect 13 = .ok (.if_icmp .ne 16, 3) := by decide +kernel
theorem dX8_expect_16 : decode cX8_expect 16 = .ok (.aload_n 0, 1) := by decide +kernel
theorem dX8_expect_17 : decode cX8_expect 17 = .ok (.dup, 1) := by decide +kernel
theorem dX8_expect_18 : decode cX8_expect 18 = .ok (.getfield 48, 3) := by decide +kernel
theorem dX8_expect_21 : decode cX8_expect 21 = .ok (.iconst 1, 1) := by decide +kernel
theorem dX8_expect_22 : decode cX8_expect 22 = .ok (.iadd, 1) := by decide +kernel
theorem dX8_expect_23 : decode cX8_expect 23 = .ok (.putfield 48, 3) := by decide +kernel
theorem dX8_expect_26 : decode cX8_expect 26 = .ok (.goto 13, 3) := by decide +kernel
theorem dX8_expect_29 : decode cX8_expect 29 = .ok (.aload_n 0, 1) := by decide +kernel
theorem dX8_expect_30 : decode cX8_expect 30 = .ok (.bipush (-2), 2) := by decide +kernel
theorem dX8_expect_32 : decode cX8_expect 32 = .ok (.aload_n 0, 1) := by decide +kernel
theorem dX8_expect_33 : decode cX8_expect 33 = .ok (.getfield 48, 3) := by decide +kernel
theorem dX8_expect_36 : decode cX8_expect 36 = .ok (.invokevirtual 82, 3) := by decide +kernel
theorem dX8_expect_39 : decode cX8_expect 39 = .ok (.return_, 1) := by decide +kernel
theorem dX8_number_0 : decode cX8_number 0 = .ok (.aload_n 0, 1) := by decide +kernel
theorem dX8_number_1 : decode cX8_number 1 = .ok (.invokevirtual 65, 3) := by decide +kernel
theorem dX8_number_4 : decode cX8_number 4 = .ok (.ifCond .ne 5, 3) := by decide +kernel
theorem dX8_number_7 : decode cX8_number 7 = .ok (.iconst 0, 1) := by decide +kernel
theorem dX8_number_8 : decode cX8_number 8 = .ok (.ireturn, 1) := by decide +kernel
theorem dX8_number_9 : decode cX8_number 9 = .ok (.aload_n 0, 1) := by decide +kernel
theorem dX8_number_10 : decode cX8_number 10 = .ok (.invokevirtual 69, 3) := by decide +kernel
theorem dX8_number_13 : decode cX8_number 13 = .ok (.invokestatic 86, 3) := by decide +kernel
theorem dX8_number_16 : decode cX8_number 16 = .ok (.ifCond .ne 15, 3) := by decide +kernel
theorem dX8_number_19 : decode cX8_number 19 = .ok (.aload_n 0, 1) := by decide +kernel
theorem dX8_number_20 : decode cX8_number 20 = .ok (.bipush (-2), 2) := by decide +kernel
theorem dX8_number_22 : decode cX8_number 22 = .ok (.aload_n 0, 1) := by decide +kernel
theorem dX8_number_23 : decode cX8_number 23 = .ok (.getfield 48, 3) := by decide +kernel
theorem dX8_number_26 : decode cX8_number 26 = .ok (.invokevirtual 82, 3) := by decide +kernel
theorem dX8_number_29 : decode cX8_number 29 = .ok (.iconst 0, 1) := by decide +kernel
theorem dX8_number_30 : decode cX8_number 30 = .ok (.ireturn, 1) := by decide +kernel
theorem dX8_number_31 : decode cX8_number 31 = .ok (.aload_n 0, 1) := by decide +kernel
theorem dX8_number_32 : decode cX8_number 32 = .ok (.aload_n 0, 1) := by decide +kernel
theorem dX8_number_33 : decode cX8_number 33 = .ok (.getfield 48, 3) := by decide +kernel
theorem dX8_number_36 : decode cX8_number 36 = .ok (.putfield 90, 3) := by decide +kernel
theorem dX8_number_39 : decode cX8_number 39 = .ok (.iconst 0, 1) := by decide +kernel
theorem dX8_number_40 : decode cX8_number 40 = .ok (.istore_n 3, 1) := by decide +kernel
theorem dX8_number_41 : decode cX8_number 41 = .ok (.aload_n 0, 1) := by decide +kernel
theorem dX8_number_42 : decode cX8_number 42 = .ok (.aload_n 0, 1) := by decide +kernel
theorem dX8_number_43 : decode cX8_number 43 = .ok (.getfield 48, 3) := by decide +kernel
theorem dX8_number_46 : decode cX8_number 46 = .ok (.invokevirtual 51, 3) := by decide +kernel
theorem dX8_number_49 : decode cX8_number 49 = .ok (.invokestatic 86, 3) := by decide +kernel
theorem dX8_number_52 : decode cX8_number 52 = .ok (.ifCond .eq 38, 3) := by decide +kernel
theorem dX8_number_55 : decode cX8_number 55 = .ok (.ldc 93, 2) := by decide +kernel
theorem dX8_number_57 : decode cX8_number 57 = .ok (.bipush 10, 2) := by decide +kernel
theorem dX8_number_59 : decode cX8_number 59 = .ok (.iload_n 3, 1) := by decide +kernel
theorem dX8_number_60 : decode cX8_number 60 = .ok (.imul, 1) := by decide +kernel
theorem dX8_number_61 : decode cX8_number 61 = .ok (.aload_n 0, 1) := by decide +kernel
theorem dX8_number_62 : decode cX8_number 62 = .ok (.aload_n 0, 1) := by decide +kernel
theorem dX8_number_63 : decode cX8_number 63 = .ok (.getfield 48, 3) := by decide +kernel
theorem dX8_number_66 : decode cX8_number 66 = .ok (.invokevirtual 51, 3) := by decide +kernel
theorem dX8_number_69 : decode cX8_number 69 = .ok (.iadd, 1) := by decide +kernel
theorem dX8_number_70 : decode cX8_number 70 = .ok (.bipush 48, 2) := by decide +kernel
theorem dX8_number_72 : decode cX8_number 72 = .ok (.isub, 1) := by decide +kernel
theorem dX8_number_73 : decode cX8_number 73 = .ok (.invokestatic 94, 3) := by decide +kernel
theorem dX8_number_76 : decode cX8_number 76 = .ok (.istore_n 3, 1) := by decide +kernel
theorem dX8_number_77 : decode cX8_number 77 = .ok (.aload_n 0, 1) := by decide +kernel
theorem dX8_number_78 : decode cX8_number 78 = .ok (.dup, 1) := by decide +kernel
theorem dX8_number_79 : decode cX8_number 79 = .ok (.getfield 48, 3) := by decide +kernel
theorem dX8_number_82 : decode cX8_number 82 = .ok (.iconst 1, 1) := by decide +kernel
theorem dX8_number_83 : decode cX8_number 83 = .ok (.iadd, 1) := by decide +kernel
theorem dX8_number_84 : decode cX8_number 84 = .ok (.putfield 48, 3) := by decide +kernel
theorem dX8_number_87 : decode cX8_number 87 = .ok (.goto (-46), 3) := by decide +kernel
theorem dX8_number_90 : decode cX8_number 90 = .ok (.iload_n 3, 1) := by decide +kernel
theorem dX8_number_91 : decode cX8_number 91 = .ok (.iload_n 1, 1) := by decide +kernel
theorem dX8_number_92 : decode cX8_number 92 = .ok (.iload_n 2, 1) := by decide +kernel
theorem dX8_number_93 : decode cX8_number 93 = .ok (.invokestatic 61, 3) := by decide +kernel
theorem dX8_number_96 : decode cX8_number 96 = .ok (.ifCond .ne 13, 3) := by decide +kernel
theorem dX8_number_99 : decode cX8_number 99 = .ok (.aload_n 0, 1) := by decide +kernel
theorem dX8_number_100 : decode cX8_number 100 = .ok (.bipush (-3), 2) := by decide +kernel
theorem dX8_number_102 : decode cX8_number 102 = .ok (.aload_n 0, 1) := by decide +kernel
theorem dX8_number_103 : decode cX8_number 103 = .ok (.getfield 90, 3) := by decide +kernel
theorem dX8_number_106 : decode cX8_number 106 = .ok (.invokevirtual 82, 3) := by decide +kernel
theorem dX8_number_109 : decode cX8_number 109 = .ok (.iload_n 3, 1) := by decide +kernel
theorem dX8_number_110 : decode cX8_number 110 = .ok (.ireturn, 1) := by decide +kernel
theorem dX8_emit_0 : decode cX8_emit 0 = .ok (.aload_n 0, 1) := by decide +kernel
theorem dX8_emit_1 : decode cX8_emit 1 = .ok (.invokevirtual 65, 3) := by decide +kernel
theorem dX8_emit_4 : decode cX8_emit 4 = .ok (.ifCond .ne 4, 3) := by decide +kernel
theorem dX8_emit_7 : decode cX8_emit 7 = .ok (.return_, 1) := by decide +kernel
theorem dX8_emit_8 : decode cX8_emit 8 = .ok (.aload_n 0, 1) := by decide +kernel
theorem dX8_emit_9 : decode cX8_emit 9 = .ok (.getfield 20, 3) := by decide +kernel
theorem dX8_emit_12 : decode cX8_emit 12 = .ok (.sipush 324, 3) := by decide +kernel
theorem dX8_emit_15 : decode cX8_emit 15 = .ok (.aload_n 0, 1) := by decide +kernel
theorem dX8_emit_16 : decode cX8_emit 16 = .ok (.getfield 20, 3) := by decide +kernel
theorem dX8_emit_19 : decode cX8_emit 19 = .ok (.bipush 10, 2) := by decide +kernel
theorem dX8_emit_21 : decode cX8_emit 21 = .ok (.iaload, 1) := by decide +kernel
theorem dX8_emit_22 : decode cX8_emit 22 = .ok (.iadd, 1) := by decide +kernel
theorem dX8_emit_23 : decode cX8_emit 23 = .ok (.iload_n 1, 1) := by decide +kernel
theorem dX8_emit_24 : decode cX8_emit 24 = .ok (.iastore, 1) := by decide +kernel
theorem dX8_emit_25 : decode cX8_emit 25 = .ok (.aload_n 0, 1) := by decide +kernel
theorem dX8_emit_26 : decode cX8_emit 26 = .ok (.getfield 20, 3) := by decide +kernel
theorem dX8_emit_29 : decode cX8_emit 29 = .ok (.bipush 10, 2) := by decide +kernel
theorem dX8_emit_31 : decode cX8_emit 31 = .ok (.dup2, 1) := by decide +kernel
theorem dX8_emit_32 : decode cX8_emit 32 = .ok (.iaload, 1) := by decide +kernel
theorem dX8_emit_33 : decode cX8_emit 33 = .ok (.iconst 1, 1) := by decide +kernel
theorem dX8_emit_34 : decode cX8_emit 34 = .ok (.iadd, 1) := by decide +kernel
theorem dX8_emit_35 : decode cX8_emit 35 = .ok (.iastore, 1) := by decide +kernel
theorem dX8_emit_36 : decode cX8_emit 36 = .ok (.return_, 1) := by decide +kernel
theorem dX8_factor_0 : decode cX8_factor 0 = .ok (.aload_n 0, 1) := by decide +kernel
theorem dX8_factor_1 : decode cX8_factor 1 = .ok (.invokevirtual 65, 3) := by decide +kernel
theorem dX8_factor_4 : decode cX8_factor 4 = .ok (.ifCond .ne 4, 3) := by decide +kernel
theorem dX8_factor_7 : decode cX8_factor 7 = .ok (.return_, 1) := by decide +kernel
theorem dX8_factor_8 : decode cX8_factor 8 = .ok (.aload_n 0, 1) := by decide +kernel
theorem dX8_factor_9 : decode cX8_factor 9 = .ok (.invokevirtual 69, 3) := by decide +kernel
theorem dX8_factor_12 : decode cX8_factor 12 = .ok (.istore_n 1, 1) := by decide +kernel
theorem dX8_factor_13 : decode cX8_factor 13 = .ok (.iload_n 1, 1) := by decide +kernel
theorem dX8_factor_14 : decode cX8_factor 14 = .ok (.bipush 40, 2) := by decide +kernel
theorem dX8_factor_16 : decode cX8_factor 16 = .ok (.if_icmp .ne 62, 3) := by decide +kernel
theorem dX8_factor_19 : decode cX8_factor 19 = .ok (.aload_n 0, 1) := by decide +kernel
theorem dX8_factor_20 : decode cX8_factor 20 = .ok (.getfield 98, 3) := by decide +kernel
theorem dX8_factor_23 : decode cX8_factor 23 = .ok (.iconst 4, 1) := by decide +kernel
theorem dX8_factor_24 : decode cX8_factor 24 = .ok (.if_icmp .ne 13, 3) := by decide +kernel
theorem dX8_factor_27 : decode cX8_factor 27 = .ok (.aload_n 0, 1) := by decide +kernel
theorem dX8_factor_28 : decode cX8_factor 28 = .ok (.bipush (-5), 2) := by decide +kernel
theorem dX8_factor_30 : decode cX8_factor 30 = .ok (.aload_n 0, 1) := by decide +kernel
theorem dX8_factor_31 : decode cX8_factor 31 = .ok (.getfield 48, 3) := by decide +kernel
theorem dX8_factor_34 : decode cX8_factor 34 = .ok (.invokevirtual 82, 3) := by decide +kernel
theorem dX8_factor_37 : decode cX8_factor 37 = .ok (.aload_n 0, 1) := by decide +kernel
theorem dX8_factor_38 : decode cX8_factor 38 = .ok (.dup, 1) := by decide +kernel
theorem dX8_factor_39 : decode cX8_factor 39 = .ok (.getfield 48, 3) := by decide +kernel
theorem dX8_factor_42 : decode cX8_factor 42 = .ok (.iconst 1, 1) := by decide +kernel
theorem dX8_factor_43 : decode cX8_factor 43 = .ok (.iadd, 1) := by decide +kernel
theorem dX8_factor_44 : decode cX8_factor 44 = .ok (.putfield 48, 3) := by decide +kernel
theorem dX8_factor_47 : decode cX8_factor 47 = .ok (.aload_n 0, 1) := by decide +kernel
theorem dX8_factor_48 : decode cX8_factor 48 = .ok (.dup, 1) := by decide +kernel
theorem dX8_factor_49 : decode cX8_factor 49 = .ok (.getfield 98, 3) := by decide +kernel
theorem dX8_factor_52 : decode cX8_factor 52 = .ok (.iconst 1, 1) := by decide +kernel
theorem dX8_factor_53 : decode cX8_factor 53 = .ok (.iadd, 1) := by decide +kernel
theorem dX8_factor_54 : decode cX8_factor 54 = .ok (.putfield 98, 3) := by decide +kernel
theorem dX8_factor_57 : decode cX8_factor 57 = .ok (.aload_n 0, 1) := by decide +kernel
theorem dX8_factor_58 : decode cX8_factor 58 = .ok (.invokevirtual 101, 3) := by decide +kernel
theorem dX8_factor_61 : decode cX8_factor 61 = .ok (.aload_n 0, 1) := by decide +kernel
theorem dX8_factor_62 : decode cX8_factor 62 = .ok (.bipush 41, 2) := by decide +kernel
theorem dX8_factor_64 : decode cX8_factor 64 = .ok (.invokevirtual 104, 3) := by decide +kernel
theorem dX8_factor_67 : decode cX8_factor 67 = .ok (.aload_n 0, 1) := by decide +kernel
theorem dX8_factor_68 : decode cX8_factor 68 = .ok (.dup, 1) := by decide +kernel
theorem dX8_factor_69 : decode cX8_factor 69 = .ok (.getfield 98, 3) := by decide +kernel
theorem dX8_factor_72 : decode cX8_factor 72 = .ok (.iconst 1, 1) := by decide +kernel
theorem dX8_factor_73 : decode cX8_factor 73 = .ok (.isub, 1) := by decide +kernel
theorem dX8_factor_74 : decode cX8_factor 74 = .ok (.putfield 98, 3) := by decide +kernel
theorem dX8_factor_77 : decode cX8_factor 77 = .ok (.return_, 1) := by decide +kernel
theorem dX8_factor_78 : decode cX8_factor 78 = .ok (.iload_n 1, 1) := by decide +kernel
theorem dX8_factor_79 : decode cX8_factor 79 = .ok (.invokestatic 86, 3) := by decide +kernel
theorem dX8_factor_82 : decode cX8_factor 82 = .ok (.ifCond .eq 7, 3) := by decide +kernel
theorem dX8_factor_85 : decode cX8_factor 85 = .ok (.iconst (-1), 1) := by decide +kernel
theorem dX8_factor_86 : decode cX8_factor 86 = .ok (.goto 56, 3) := by decide +kernel
theorem dX8_factor_89 : decode cX8_factor 89 = .ok (.aload_n 0, 1) := by decide +kernel
theorem dX8_factor_90 : decode cX8_factor 90 = .ok (.ldc 108, 2) := by decide +kernel
theorem dX8_factor_92 : decode cX8_factor 92 = .ok (.invokevirtual 110, 3) := by decide +kernel
theorem dX8_factor_95 : decode cX8_factor 95 = .ok (.ifCond .eq 7, 3) := by decide +kernel
theorem dX8_factor_98 : decode cX8_factor 98 = .ok (.iconst 0, 1) := by decide +kernel
theorem dX8_factor_99 : decode cX8_factor 99 = .ok (.goto 43, 3) := by decide +kernel
theorem dX8_factor_102 : decode cX8_factor 102 = .ok (.aload_n 0, 1) := by decide +kernel
theorem dX8_factor_103 : decode cX8_factor 103 = .ok (.ldc 114, 2) := by decide +kernel
theorem dX8_factor_105 : decode cX8_factor 105 = .ok (.invokevirtual 110, 3) := by decide +kernel
theorem dX8_factor_108 : decode cX8_factor 108 = .ok (.ifCond .eq 7, 3) := by decide +kernel
theorem dX8_factor_111 : decode cX8_factor 111 = .ok (.iconst 1, 1) := by decide +kernel
theorem dX8_factor_112 : decode cX8_factor 112 = .ok (.goto 30, 3) := by decide +kernel
theorem dX8_factor_115 : decode cX8_factor 115 = .ok (.aload_n 0, 1) := by decide +kernel
theorem dX8_factor_116 : decode cX8_factor 116 = .ok (.ldc 116, 2) := by decide +kernel
theorem dX8_factor_118 : decode cX8_factor 118 = .ok (.invokevirtual 110, 3) := by decide +kernel
theorem dX8_factor_121 : decode cX8_factor 121 = .ok (.ifCond .eq 7, 3) := by decide +kernel
theorem dX8_factor_124 : decode cX8_factor 124 = .ok (.iconst 2, 1) := by decide +kernel
theorem dX8_factor_125 : decode cX8_factor 125 = .ok (.goto 17, 3) := by decide +kernel
theorem dX8_factor_128 : decode cX8_factor 128 = .ok (.aload_n 0, 1) := by decide +kernel
theorem dX8_factor_129 : decode cX8_factor 129 = .ok (.ldc 118, 2) := by decide +kernel
theorem dX8_factor_131 : decode cX8_factor 131 = .ok (.invokevirtual 110, 3) := by decide +kernel
theorem dX8_factor_134 : decode cX8_factor 134 = .ok (.ifCond .eq 7, 3) := by decide +kernel
theorem dX8_factor_137 : decode cX8_factor 137 = .ok (.iconst 3, 1) := by decide +kernel
theorem dX8_factor_138 : decode cX8_factor 138 = .ok (.goto 4, 3) := by decide +kernel
theorem dX8_factor_141 : decode cX8_factor 141 = .ok (.iconst (-1), 1) := by decide +kernel
theorem dX8_factor_142 : decode cX8_factor 142 = .ok (.istore_n 2, 1) := by decide +kernel
theorem dX8_factor_143 : decode cX8_factor 143 = .ok (.iload_n 2, 1) := by decide +kernel
theorem dX8_factor_144 : decode cX8_factor 144 = .ok (.ifCond .ge 14, 3) := by decide +kernel
theorem dX8_factor_147 : decode cX8_factor 147 = .ok (.aload_n 0, 1) := by decide +kernel
theorem dX8_factor_148 : decode cX8_factor 148 = .ok (.iconst 0, 1) := by decide +kernel
theorem dX8_factor_149 : decode cX8_factor 149 = .ok (.sipush 9999, 3) := by decide +kernel
theorem dX8_factor_152 : decode cX8_factor 152 = .ok (.invokevirtual 120, 3) := by decide +kernel
theorem dX8_factor_155 : decode cX8_factor 155 = .ok (.goto 4, 3) := by decide +kernel
theorem dX8_factor_158 : decode cX8_factor 158 = .ok (.iload_n 2, 1) := by decide +kernel
theorem dX8_factor_159 : decode cX8_factor 159 = .ok (.istore_n 3, 1) := by decide +kernel
theorem dX8_factor_160 : decode cX8_factor 160 = .ok (.aload_n 0, 1) := by decide +kernel
theorem dX8_factor_161 : decode cX8_factor 161 = .ok (.iload_n 2, 1) := by decide +kernel
theorem dX8_factor_162 : decode cX8_factor 162 = .ok (.ifCond .ge 7, 3) := by decide +kernel
theorem dX8_factor_165 : decode cX8_factor 165 = .ok (.iconst 0, 1) := by decide +kernel
theorem dX8_factor_166 : decode cX8_factor 166 = .ok (.goto 4, 3) := by decide +kernel
theorem dX8_factor_169 : decode cX8_factor 169 = .ok (.iconst 1, 1) := by decide +kernel
theorem dX8_factor_170 : decode cX8_factor 170 = .ok (.invokevirtual 123, 3) := by decide +kernel
theorem dX8_factor_173 : decode cX8_factor 173 = .ok (.aload_n 0, 1) := by decide +kernel
theorem dX8_factor_174 : decode cX8_factor 174 = .ok (.iload_n 3, 1) := by decide +kernel
theorem dX8_factor_175 : decode cX8_factor 175 = .ok (.invokevirtual 123, 3) := by decide +kernel
theorem dX8_factor_178 : decode cX8_factor 178 = .ok (.return_, 1) := by decide +kernel
theorem dX8_term_0 : decode cX8_term 0 = .ok (.aload_n 0, 1) := by decide +kernel
theorem dX8_term_1 : decode cX8_term 1 = .ok (.invokevirtual 126, 3) := by decide +kernel
theorem dX8_term_4 : decode cX8_term 4 = .ok (.aload_n 0, 1) := by decide +kernel
theorem dX8_term_5 : decode cX8_term 5 = .ok (.invokevirtual 65, 3) := by decide +kernel
theorem dX8_term_8 : decode cX8_term 8 = .ok (.ifCond .eq 66, 3) := by decide +kernel
theorem dX8_term_11 : decode cX8_term 11 = .ok (.aload_n 0, 1) := by decide +kernel
theorem dX8_term_12 : decode cX8_term 12 = .ok (.invokevirtual 69, 3) := by decide +kernel
theorem dX8_term_15 : decode cX8_term 15 = .ok (.bipush 42, 2) := by decide +kernel
theorem dX8_term_17 : decode cX8_term 17 = .ok (.if_icmp .eq 12, 3) := by decide +kernel
theorem dX8_term_20 : decode cX8_term 20 = .ok (.aload_n 0, 1) := by decide +kernel
theorem dX8_term_21 : decode cX8_term 21 = .ok (.invokevirtual 69, 3) := by decide +kernel
theorem dX8_term_24 : decode cX8_term 24 = .ok (.bipush 47, 2) := by decide +kernel
theorem dX8_term_26 : decode cX8_term 26 = .ok (.if_icmp .ne 48, 3) := by decide +kernel
theorem dX8_term_29 : decode cX8_term 29 = .ok (.aload_n 0, 1) := by decide +kernel
theorem dX8_term_30 : decode cX8_term 30 = .ok (.invokevirtual 69, 3) := by decide +kernel
theorem dX8_term_33 : decode cX8_term 33 = .ok (.bipush 42, 2) := by decide +kernel
theorem dX8_term_35 : decode cX8_term 35 = .ok (.if_icmp .ne 7, 3) := by decide +kernel
theorem dX8_term_38 : decode cX8_term 38 = .ok (.iconst 1, 1) := by decide +kernel
theorem dX8_term_39 : decode cX8_term 39 = .ok (.goto 4, 3) := by decide +kernel
theorem dX8_term_42 : decode cX8_term 42 = .ok (.iconst 0, 1) := by decide +kernel
theorem dX8_term_43 : decode cX8_term 43 = .ok (.istore_n 1, 1) := by decide +kernel
theorem dX8_term_44 : decode cX8_term 44 = .ok (.aload_n 0, 1) := by decide +kernel
theorem dX8_term_45 : decode cX8_term 45 = .ok (.dup, 1) := by decide +kernel
theorem dX8_term_46 : decode cX8_term 46 = .ok (.getfield 48, 3) := by decide +kernel
theorem dX8_term_49 : decode cX8_term 49 = .ok (.iconst 1, 1) := by decide +kernel
theorem dX8_term_50 : decode cX8_term 50 = .ok (.iadd, 1) := by decide +kernel
theorem dX8_term_51 : decode cX8_term 51 = .ok (.putfield 48, 3) := by decide +kernel
theorem dX8_term_54 : decode cX8_term 54 = .ok (.aload_n 0, 1) := by decide +kernel
theorem dX8_term_55 : decode cX8_term 55 = .ok (.invokevirtual 126, 3) := by decide +kernel
theorem dX8_term_58 : decode cX8_term 58 = .ok (.aload_n 0, 1) := by decide +kernel
theorem dX8_term_59 : decode cX8_term 59 = .ok (.iload_n 1, 1) := by decide +kernel
theorem dX8_term_60 : decode cX8_term 60 = .ok (.ifCond .eq 7, 3) := by decide +kernel
theorem dX8_term_63 : decode cX8_term 63 = .ok (.iconst 4, 1) := by decide +kernel
theorem dX8_term_64 : decode cX8_term 64 = .ok (.goto 4, 3) := by decide +kernel
theorem dX8_term_67 : decode cX8_term 67 = .ok (.iconst 5, 1) := by decide +kernel
theorem dX8_term_68 : decode cX8_term 68 = .ok (.invokevirtual 123, 3) := by decide +kernel
theorem dX8_term_71 : decode cX8_term 71 = .ok (.goto (-67), 3) := by decide +kernel
theorem dX8_term_74 : decode cX8_term 74 = .ok (.return_, 1) := by decide +kernel
theorem dX8_sum_0 : decode cX8_sum 0 = .ok (.aload_n 0, 1) := by decide +kernel
theorem dX8_sum_1 : decode cX8_sum 1 = .ok (.invokevirtual 129, 3) := by decide +kernel
theorem dX8_sum_4 : decode cX8_sum 4 = .ok (.aload_n 0, 1) := by decide +kernel
theorem dX8_sum_5 : decode cX8_sum 5 = .ok (.invokevirtual 65, 3) := by decide +kernel
theorem dX8_sum_8 : decode cX8_sum 8 = .ok (.ifCond .eq 66, 3) := by decide +kernel
theorem dX8_sum_11 : decode cX8_sum 11 = .ok (.aload_n 0, 1) := by decide +kernel
theorem dX8_sum_12 : decode cX8_sum 12 = .ok (.invokevirtual 69, 3) := by decide +kernel
theorem dX8_sum_15 : decode cX8_sum 15 = .ok (.bipush 43, 2) := by decide +kernel
theorem dX8_sum_17 : decode cX8_sum 17 = .ok (.if_icmp .eq 12, 3) := by decide +kernel
theorem dX8_sum_20 : decode cX8_sum 20 = .ok (.aload_n 0, 1) := by decide +kernel
theorem dX8_sum_21 : decode cX8_sum 21 = .ok (.invokevirtual 69, 3) := by decide +kernel
theorem dX8_sum_24 : decode cX8_sum 24 = .ok (.bipush 45, 2) := by decide +kernel
theorem dX8_sum_26 : decode cX8_sum 26 = .ok (.if_icmp .ne 48, 3) := by decide +kernel
theorem dX8_sum_29 : decode cX8_sum 29 = .ok (.aload_n 0, 1) := by decide +kernel
theorem dX8_sum_30 : decode cX8_sum 30 = .ok (.invokevirtual 69, 3) := by decide +kernel
theorem dX8_sum_33 : decode cX8_sum 33 = .ok (.bipush 43, 2) := by decide +kernel
theorem dX8_sum_35 : decode cX8_sum 35 = .ok (.if_icmp .ne 7, 3) := by decide +kernel
theorem dX8_sum_38 : decode cX8_sum 38 = .ok (.iconst 1, 1) := by decide +kernel
theorem dX8_sum_39 : decode cX8_sum 39 = .ok (.goto 4, 3) := by decide +kernel
theorem dX8_sum_42 : decode cX8_sum 42 = .ok (.iconst 0, 1) := by decide +kernel
theorem dX8_sum_43 : decode cX8_sum 43 = .ok (.istore_n 1, 1) := by decide +kernel
theorem dX8_sum_44 : decode cX8_sum 44 = .ok (.aload_n 0, 1) := by decide +kernel
theorem dX8_sum_45 : decode cX8_sum 45 = .ok (.dup, 1) := by decide +kernel
theorem dX8_sum_46 : decode cX8_sum 46 = .ok (.getfield 48, 3) := by decide +kernel
theorem dX8_sum_49 : decode cX8_sum 49 = .ok (.iconst 1, 1) := by decide +kernel
theorem dX8_sum_50 : decode cX8_sum 50 = .ok (.iadd, 1) := by decide +kernel
theorem dX8_sum_51 : decode cX8_sum 51 = .ok (.putfield 48, 3) := by decide +kernel
theorem dX8_sum_54 : decode cX8_sum 54 = .ok (.aload_n 0, 1) := by decide +kernel
theorem dX8_sum_55 : decode cX8_sum 55 = .ok (.invokevirtual 129, 3) := by decide +kernel
theorem dX8_sum_58 : decode cX8_sum 58 = .ok (.aload_n 0, 1) := by decide +kernel
theorem dX8_sum_59 : decode cX8_sum 59 = .ok (.iload_n 1, 1) := by decide +kernel
theorem dX8_sum_60 : decode cX8_sum 60 = .ok (.ifCond .eq 7, 3) := by decide +kernel
theorem dX8_sum_63 : decode cX8_sum 63 = .ok (.iconst 2, 1) := by decide +kernel
theorem dX8_sum_64 : decode cX8_sum 64 = .ok (.goto 4, 3) := by decide +kernel
theorem dX8_sum_67 : decode cX8_sum 67 = .ok (.iconst 3, 1) := by decide +kernel
theorem dX8_sum_68 : decode cX8_sum 68 = .ok (.invokevirtual 123, 3) := by decide +kernel
theorem dX8_sum_71 : decode cX8_sum 71 = .ok (.goto (-67), 3) := by decide +kernel
theorem dX8_sum_74 : decode cX8_sum 74 = .ok (.return_, 1) := by decide +kernel
theorem dX8_once_0 : decode cX8_once 0 = .ok (.aload_n 0, 1) := by decide +kernel
theorem dX8_once_1 : decode cX8_once 1 = .ok (.getfield 132, 3) := by decide +kernel
theorem dX8_once_4 : decode cX8_once 4 = .ok (.iload_n 1, 1) := by decide +kernel
theorem dX8_once_5 : decode cX8_once 5 = .ok (.ishr, 1) := by decide +kernel
theorem dX8_once_6 : decode cX8_once 6 = .ok (.iconst 1, 1) := by decide +kernel
theorem dX8_once_7 : decode cX8_once 7 = .ok (.iand, 1) := by decide +kernel
theorem dX8_once_8 : decode cX8_once 8 = .ok (.iconst 1, 1) := by decide +kernel
theorem dX8_once_9 : decode cX8_once 9 = .ok (.if_icmp .ne 10, 3) := by decide +kernel
theorem dX8_once_12 : decode cX8_once 12 = .ok (.aload_n 0, 1) := by decide +kernel
theorem dX8_once_13 : decode cX8_once 13 = .ok (.bipush (-2), 2) := by decide +kernel
theorem dX8_once_15 : decode cX8_once 15 = .ok (.iload_n 2, 1) := by decide +kernel
theorem dX8_once_16 : decode cX8_once 16 = .ok (.invokevirtual 82, 3) := by decide +kernel
theorem dX8_once_19 : decode cX8_once 19 = .ok (.aload_n 0, 1) := by decide +kernel
theorem dX8_once_20 : decode cX8_once 20 = .ok (.dup, 1) := by decide +kernel
theorem dX8_once_21 : decode cX8_once 21 = .ok (.getfield 132, 3) := by decide +kernel
theorem dX8_once_24 : decode cX8_once 24 = .ok (.iconst 1, 1) := by decide +kernel
theorem dX8_once_25 : decode cX8_once 25 = .ok (.iload_n 1, 1) := by decide +kernel
theorem dX8_once_26 : decode cX8_once 26 = .ok (.ishl, 1) := by decide +kernel
theorem dX8_once_27 : decode cX8_once 27 = .ok (.ior, 1) := by decide +kernel
theorem dX8_once_28 : decode cX8_once 28 = .ok (.putfield 132, 3) := by decide +kernel
theorem dX8_once_31 : decode cX8_once 31 = .ok (.return_, 1) := by decide +kernel
theorem dX8_readReason_0 : decode cX8_readReason 0 = .ok (.aload_n 0, 1) := by decide +kernel
theorem dX8_readReason_1 : decode cX8_readReason 1 = .ok (.getfield 20, 3) := by decide +kernel
theorem dX8_readReason_4 : decode cX8_readReason 4 = .ok (.iconst 2, 1) := by decide +kernel
theorem dX8_readReason_5 : decode cX8_readReason 5 = .ok (.iaload, 1) := by decide +kernel
theorem dX8_readReason_6 : decode cX8_readReason 6 = .ok (.bipush 8, 2) := by decide +kernel
theorem dX8_readReason_8 : decode cX8_readReason 8 = .ok (.if_icmp .ne 10, 3) := by decide +kernel
theorem dX8_readReason_11 : decode cX8_readReason 11 = .ok (.aload_n 0, 1) := by decide +kernel
theorem dX8_readReason_12 : decode cX8_readReason 12 = .ok (.bipush (-4), 2) := by decide +kernel
theorem dX8_readReason_14 : decode cX8_readReason 14 = .ok (.iload_n 1, 1) := by decide +kernel
theorem dX8_readReason_15 : decode cX8_readReason 15 = .ok (.invokevirtual 82, 3) := by decide +kernel
theorem dX8_readReason_18 : decode cX8_readReason 18 = .ok (.aload_n 0, 1) := by decide +kernel
theorem dX8_readReason_19 : decode cX8_readReason 19 = .ok (.invokevirtual 65, 3) := by decide +kernel
theorem dX8_readReason_22 : decode cX8_readReason 22 = .ok (.ifCond .ne 4, 3) := by decide +kernel
theorem dX8_readReason_25 : decode cX8_readReason 25 = .ok (.return_, 1) := by decide +kernel
theorem dX8_readReason_26 : decode cX8_readReason 26 = .ok (.aload_n 0, 1) := by decide +kernel
theorem dX8_readReason_27 : decode cX8_readReason 27 = .ok (.getfield 20, 3) := by decide +kernel
theorem dX8_readReason_30 : decode cX8_readReason 30 = .ok (.iconst 2, 1) := by decide +kernel
theorem dX8_readReason_31 : decode cX8_readReason 31 = .ok (.iaload, 1) := by decide +kernel
theorem dX8_readReason_32 : decode cX8_readReason 32 = .ok (.invokestatic 135, 3) := by decide +kernel
theorem dX8_readReason_35 : decode cX8_readReason 35 = .ok (.istore_n 2, 1) := by decide +kernel
theorem dX8_readReason_36 : decode cX8_readReason 36 = .ok (.aload_n 0, 1) := by decide +kernel
theorem dX8_readReason_37 : decode cX8_readReason 37 = .ok (.getfield 20, 3) := by decide +kernel
theorem dX8_readReason_40 : decode cX8_readReason 40 = .ok (.iload_n 2, 1) := by decide +kernel
theorem dX8_readReason_41 : decode cX8_readReason 41 = .ok (.aload_n 0, 1) := by decide +kernel
theorem dX8_readReason_42 : decode cX8_readReason 42 = .ok (.iconst 0, 1) := by decide +kernel
theorem dX8_readReason_43 : decode cX8_readReason 43 = .ok (.bipush 99, 2) := by decide +kernel
theorem dX8_readReason_45 : decode cX8_readReason 45 = .ok (.invokevirtual 120, 3) := by decide +kernel
theorem dX8_readReason_48 : decode cX8_readReason 48 = .ok (.iastore, 1) := by decide +kernel
theorem dX8_readReason_49 : decode cX8_readReason 49 = .ok (.iconst 0, 1) := by decide +kernel
theorem dX8_readReason_50 : decode cX8_readReason 50 = .ok (.istore_n 3, 1) := by decide +kernel
theorem dX8_readReason_51 : decode cX8_readReason 51 = .ok (.iload_n 3, 1) := by decide +kernel
theorem dX8_readReason_52 : decode cX8_readReason 52 = .ok (.aload_n 0, 1) := by decide +kernel
theorem dX8_readReason_53 : decode cX8_readReason 53 = .ok (.getfield 20, 3) := by decide +kernel
theorem dX8_readReason_56 : decode cX8_readReason 56 = .ok (.iconst 2, 1) := by decide +kernel
theorem dX8_readReason_57 : decode cX8_readReason 57 = .ok (.iaload, 1) := by decide +kernel
theorem dX8_readReason_58 : decode cX8_readReason 58 = .ok (.if_icmp .ge 44, 3) := by decide +kernel
theorem dX8_readReason_61 : decode cX8_readReason 61 = .ok (.aload_n 0, 1) := by decide +kernel
theorem dX8_readReason_62 : decode cX8_readReason 62 = .ok (.invokevirtual 65, 3) := by decide +kernel
theorem dX8_readReason_65 : decode cX8_readReason 65 = .ok (.ifCond .eq 31, 3) := by decide +kernel
theorem dX8_readReason_68 : decode cX8_readReason 68 = .ok (.aload_n 0, 1) := by decide +kernel
theorem dX8_readReason_69 : decode cX8_readReason 69 = .ok (.getfield 20, 3) := by decide +kernel
theorem dX8_readReason_72 : decode cX8_readReason 72 = .ok (.iload_n 3, 1) := by decide +kernel
theorem dX8_readReason_73 : decode cX8_readReason 73 = .ok (.invokestatic 135, 3) := by decide +kernel
theorem dX8_readReason_76 : decode cX8_readReason 76 = .ok (.iaload, 1) := by decide +kernel
theorem dX8_readReason_77 : decode cX8_readReason 77 = .ok (.aload_n 0, 1) := by decide +kernel
theorem dX8_readReason_78 : decode cX8_readReason 78 = .ok (.getfield 20, 3) := by decide +kernel
theorem dX8_readReason_81 : decode cX8_readReason 81 = .ok (.iload_n 2, 1) := by decide +kernel
theorem dX8_readReason_82 : decode cX8_readReason 82 = .ok (.iaload, 1) := by decide +kernel
theorem dX8_readReason_83 : decode cX8_readReason 83 = .ok (.if_icmp .ne 13, 3) := by decide +kernel
theorem dX8_readReason_86 : decode cX8_readReason 86 = .ok (.aload_n 0, 1) := by decide +kernel
theorem dX8_readReason_87 : decode cX8_readReason 87 = .ok (.bipush (-3), 2) := by decide +kernel
theorem dX8_readReason_89 : decode cX8_readReason 89 = .ok (.aload_n 0, 1) := by decide +kernel
theorem dX8_readReason_90 : decode cX8_readReason 90 = .ok (.getfield 90, 3) := by decide +kernel
theorem dX8_readReason_93 : decode cX8_readReason 93 = .ok (.invokevirtual 82, 3) := by decide +kernel
theorem dX8_readReason_96 : decode cX8_readReason 96 = .ok (.iinc 3 1, 3) := by decide +kernel
theorem dX8_readReason_99 : decode cX8_readReason 99 = .ok (.goto (-48), 3) := by decide +kernel
theorem dX8_readReason_102 : decode cX8_readReason 102 = .ok (.aload_n 0, 1) := by decide +kernel
theorem dX8_readReason_103 : decode cX8_readReason 103 = .ok (.getfield 20, 3) := by decide +kernel
theorem dX8_readReason_106 : decode cX8_readReason 106 = .ok (.iload_n 2, 1) := by decide +kernel
theorem dX8_readReason_107 : decode cX8_readReason 107 = .ok (.iconst 1, 1) := by decide +kernel
theorem dX8_readReason_108 : decode cX8_readReason 108 = .ok (.iadd, 1) := by decide +kernel
theorem dX8_readReason_109 : decode cX8_readReason 109 = .ok (.aload_n 0, 1) := by decide +kernel
theorem dX8_readReason_110 : decode cX8_readReason 110 = .ok (.iconst 0, 1) := by decide +kernel
theorem dX8_readReason_111 : decode cX8_readReason 111 = .ok (.sipush 200, 3) := by decide +kernel
theorem dX8_readReason_114 : decode cX8_readReason 114 = .ok (.invokevirtual 120, 3) := by decide +kernel
theorem dX8_readReason_117 : decode cX8_readReason 117 = .ok (.iastore, 1) := by decide +kernel
theorem dX8_readReason_118 : decode cX8_readReason 118 = .ok (.aload_n 0, 1) := by decide +kernel
theorem dX8_readReason_119 : decode cX8_readReason 119 = .ok (.getfield 20, 3) := by decide +kernel
theorem dX8_readReason_122 : decode cX8_readReason 122 = .ok (.iload_n 2, 1) := by decide +kernel
theorem dX8_readReason_123 : decode cX8_readReason 123 = .ok (.iconst 2, 1) := by decide +kernel
theorem dX8_readReason_124 : decode cX8_readReason 124 = .ok (.iadd, 1) := by decide +kernel
theorem dX8_readReason_125 : decode cX8_readReason 125 = .ok (.aload_n 0, 1) := by decide +kernel
theorem dX8_readReason_126 : decode cX8_readReason 126 = .ok (.iconst 1, 1) := by decide +kernel
theorem dX8_readReason_127 : decode cX8_readReason 127 = .ok (.bipush 60, 2) := by decide +kernel
theorem dX8_readReason_129 : decode cX8_readReason 129 = .ok (.invokevirtual 120, 3) := by decide +kernel
theorem dX8_readReason_132 : decode cX8_readReason 132 = .ok (.iastore, 1) := by decide +kernel
theorem dX8_readReason_133 : decode cX8_readReason 133 = .ok (.aload_n 0, 1) := by decide +kernel
theorem dX8_readReason_134 : decode cX8_readReason 134 = .ok (.getfield 20, 3) := by decide +kernel
theorem dX8_readReason_137 : decode cX8_readReason 137 = .ok (.iload_n 2, 1) := by decide +kernel
theorem dX8_readReason_138 : decode cX8_readReason 138 = .ok (.iconst 3, 1) := by decide +kernel
theorem dX8_readReason_139 : decode cX8_readReason 139 = .ok (.iadd, 1) := by decide +kernel
theorem dX8_readReason_140 : decode cX8_readReason 140 = .ok (.aload_n 0, 1) := by decide +kernel
theorem dX8_readReason_141 : decode cX8_readReason 141 = .ok (.iconst 1, 1) := by decide +kernel
theorem dX8_readReason_142 : decode cX8_readReason 142 = .ok (.bipush 60, 2) := by decide +kernel
theorem dX8_readReason_144 : decode cX8_readReason 144 = .ok (.invokevirtual 120, 3) := by decide +kernel
theorem dX8_readReason_147 : decode cX8_readReason 147 = .ok (.iastore, 1) := by decide +kernel
theorem dX8_readReason_148 : decode cX8_readReason 148 = .ok (.aload_n 0, 1) := by decide +kernel
theorem dX8_readReason_149 : decode cX8_readReason 149 = .ok (.getfield 20, 3) := by decide +kernel
theorem dX8_readReason_152 : decode cX8_readReason 152 = .ok (.iload_n 2, 1) := by decide +kernel
theorem dX8_readReason_153 : decode cX8_readReason 153 = .ok (.iconst 4, 1) := by decide +kernel
theorem dX8_readReason_154 : decode cX8_readReason 154 = .ok (.iadd, 1) := by decide +kernel
theorem dX8_readReason_155 : decode cX8_readReason 155 = .ok (.aload_n 0, 1) := by decide +kernel
theorem dX8_readReason_156 : decode cX8_readReason 156 = .ok (.iconst 0, 1) := by decide +kernel
theorem dX8_readReason_157 : decode cX8_readReason 157 = .ok (.sipush 9999, 3) := by decide +kernel
theorem dX8_readReason_160 : decode cX8_readReason 160 = .ok (.invokevirtual 120, 3) := by decide +kernel
theorem dX8_readReason_163 : decode cX8_readReason 163 = .ok (.iastore, 1) := by decide +kernel
theorem dX8_readReason_164 : decode cX8_readReason 164 = .ok (.aload_n 0, 1) := by decide +kernel
theorem dX8_readReason_165 : decode cX8_readReason 165 = .ok (.getfield 20, 3) := by decide +kernel
theorem dX8_readReason_168 : decode cX8_readReason 168 = .ok (.iload_n 2, 1) := by decide +kernel
theorem dX8_readReason_169 : decode cX8_readReason 169 = .ok (.iconst 5, 1) := by decide +kernel
theorem dX8_readReason_170 : decode cX8_readReason 170 = .ok (.iadd, 1) := by decide +kernel
theorem dX8_readReason_171 : decode cX8_readReason 171 = .ok (.iconst 0, 1) := by decide +kernel
theorem dX8_readReason_172 : decode cX8_readReason 172 = .ok (.iastore, 1) := by decide +kernel
theorem dX8_readReason_173 : decode cX8_readReason 173 = .ok (.aload_n 0, 1) := by decide +kernel
theorem dX8_readReason_174 : decode cX8_readReason 174 = .ok (.ldc 138, 2) := by decide +kernel
theorem dX8_readReason_176 : decode cX8_readReason 176 = .ok (.invokevirtual 110, 3) := by decide +kernel
theorem dX8_readReason_179 : decode cX8_readReason 179 = .ok (.ifCond .eq 10, 3) := by decide +kernel
theorem dX8_readReason_182 : decode cX8_readReason 182 = .ok (.aload_n 0, 1) := by decide +kernel
theorem dX8_readReason_183 : decode cX8_readReason 183 = .ok (.iload_n 2, 1) := by decide +kernel
theorem dX8_readReason_184 : decode cX8_readReason 184 = .ok (.iconst 5, 1) := by decide +kernel
theorem dX8_readReason_185 : decode cX8_readReason 185 = .ok (.iadd, 1) := by decide +kernel
theorem dX8_readReason_186 : decode cX8_readReason 186 = .ok (.invokevirtual 140, 3) := by decide +kernel
theorem dX8_readReason_189 : decode cX8_readReason 189 = .ok (.aload_n 0, 1) := by decide +kernel
theorem dX8_readReason_190 : decode cX8_readReason 190 = .ok (.getfield 20, 3) := by decide +kernel
theorem dX8_readReason_193 : decode cX8_readReason 193 = .ok (.iconst 2, 1) := by decide +kernel
theorem dX8_readReason_194 : decode cX8_readReason 194 = .ok (.dup2, 1) := by decide +kernel
theorem dX8_readReason_195 : decode cX8_readReason 195 = .ok (.iaload, 1) := by decide +kernel
theorem dX8_readReason_196 : decode cX8_readReason 196 = .ok (.iconst 1, 1) := by decide +kernel
theorem dX8_readReason_197 : decode cX8_readReason 197 = .ok (.iadd, 1) := by decide +kernel
theorem dX8_readReason_198 : decode cX8_readReason 198 = .ok (.iastore, 1) := by decide +kernel
theorem dX8_readReason_199 : decode cX8_readReason 199 = .ok (.return_, 1) := by decide +kernel
theorem dX8_readNeeds_0 : decode cX8_readNeeds 0 = .ok (.aload_n 0, 1) := by decide +kernel
theorem dX8_readNeeds_1 : decode cX8_readNeeds 1 = .ok (.iconst 0, 1) := by decide +kernel
theorem dX8_readNeeds_2 : decode cX8_readNeeds 2 = .ok (.bipush 7, 2) := by decide +kernel
theorem dX8_readNeeds_4 : decode cX8_readNeeds 4 = .ok (.invokevirtual 120, 3) := by decide +kernel
theorem dX8_readNeeds_7 : decode cX8_readNeeds 7 = .ok (.istore_n 2, 1) := by decide +kernel
theorem dX8_readNeeds_8 : decode cX8_readNeeds 8 = .ok (.aload_n 0, 1) := by decide +kernel
theorem dX8_readNeeds_9 : decode cX8_readNeeds 9 = .ok (.invokevirtual 65, 3) := by decide +kernel
theorem dX8_readNeeds_12 : decode cX8_readNeeds 12 = .ok (.ifCond .eq 27, 3) := by decide +kernel
theorem dX8_readNeeds_15 : decode cX8_readNeeds 15 = .ok (.aload_n 0, 1) := by decide +kernel
theorem dX8_readNeeds_16 : decode cX8_readNeeds 16 = .ok (.getfield 20, 3) := by decide +kernel
theorem dX8_readNeeds_19 : decode cX8_readNeeds 19 = .ok (.iload_n 1, 1) := by decide +kernel
theorem dX8_readNeeds_20 : decode cX8_readNeeds 20 = .ok (.iaload, 1) := by decide +kernel
theorem dX8_readNeeds_21 : decode cX8_readNeeds 21 = .ok (.iload_n 2, 1) := by decide +kernel
theorem dX8_readNeeds_22 : decode cX8_readNeeds 22 = .ok (.ishr, 1) := by decide +kernel
theorem dX8_readNeeds_23 : decode cX8_readNeeds 23 = .ok (.iconst 1, 1) := by decide +kernel
theorem dX8_readNeeds_24 : decode cX8_readNeeds 24 = .ok (.iand, 1) := by decide +kernel
theorem dX8_readNeeds_25 : decode cX8_readNeeds 25 = .ok (.iconst 1, 1) := by decide +kernel
theorem dX8_readNeeds_26 : decode cX8_readNeeds 26 = .ok (.if_icmp .ne 13, 3) := by decide +kernel
theorem dX8_readNeeds_29 : decode cX8_readNeeds 29 = .ok (.aload_n 0, 1) := by decide +kernel
theorem dX8_readNeeds_30 : decode cX8_readNeeds 30 = .ok (.bipush (-3), 2) := by decide +kernel
theorem dX8_readNeeds_32 : decode cX8_readNeeds 32 = .ok (.aload_n 0, 1) := by decide +kernel
theorem dX8_readNeeds_33 : decode cX8_readNeeds 33 = .ok (.getfield 90, 3) := by decide +kernel
theorem dX8_readNeeds_36 : decode cX8_readNeeds 36 = .ok (.invokevirtual 82, 3) := by decide +kernel
theorem dX8_readNeeds_39 : decode cX8_readNeeds 39 = .ok (.aload_n 0, 1) := by decide +kernel
theorem dX8_readNeeds_40 : decode cX8_readNeeds 40 = .ok (.invokevirtual 65, 3) := by decide +kernel
theorem dX8_readNeeds_43 : decode cX8_readNeeds 43 = .ok (.ifCond .ne 4, 3) := by decide +kernel
theorem dX8_readNeeds_46 : decode cX8_readNeeds 46 = .ok (.return_, 1) := by decide +kernel
theorem dX8_readNeeds_47 : decode cX8_readNeeds 47 = .ok (.aload_n 0, 1) := by decide +kernel
theorem dX8_readNeeds_48 : decode cX8_readNeeds 48 = .ok (.getfield 20, 3) := by decide +kernel
theorem dX8_readNeeds_51 : decode cX8_readNeeds 51 = .ok (.iload_n 1, 1) := by decide +kernel
theorem dX8_readNeeds_52 : decode cX8_readNeeds 52 = .ok (.dup2, 1) := by decide +kernel
theorem dX8_readNeeds_53 : decode cX8_readNeeds 53 = .ok (.iaload, 1) := by decide +kernel
theorem dX8_readNeeds_54 : decode cX8_readNeeds 54 = .ok (.iconst 1, 1) := by decide +kernel
theorem dX8_readNeeds_55 : decode cX8_readNeeds 55 = .ok (.iload_n 2, 1) := by decide +kernel
theorem dX8_readNeeds_56 : decode cX8_readNeeds 56 = .ok (.ishl, 1) := by decide +kernel
theorem dX8_readNeeds_57 : decode cX8_readNeeds 57 = .ok (.ior, 1) := by decide +kernel
theorem dX8_readNeeds_58 : decode cX8_readNeeds 58 = .ok (.iastore, 1) := by decide +kernel
theorem dX8_readNeeds_59 : decode cX8_readNeeds 59 = .ok (.aload_n 0, 1) := by decide +kernel
theorem dX8_readNeeds_60 : decode cX8_readNeeds 60 = .ok (.invokevirtual 69, 3) := by decide +kernel
theorem dX8_readNeeds_63 : decode cX8_readNeeds 63 = .ok (.invokestatic 86, 3) := by decide +kernel
theorem dX8_readNeeds_66 : decode cX8_readNeeds 66 = .ok (.ifCond .ne (-66), 3) := by decide +kernel
theorem dX8_readNeeds_69 : decode cX8_readNeeds 69 = .ok (.return_, 1) := by decide +kernel
theorem dX8_statement_0 : decode cX8_statement 0 = .ok (.aload_n 0, 1) := by decide +kernel
theorem dX8_statement_1 : decode cX8_statement 1 = .ok (.invokevirtual 69, 3) := by decide +kernel
theorem dX8_statement_4 : decode cX8_statement 4 = .ok (.pop, 1) := by decide +kernel
theorem dX8_statement_5 : decode cX8_statement 5 = .ok (.aload_n 0, 1) := by decide +kernel
theorem dX8_statement_6 : decode cX8_statement 6 = .ok (.getfield 48, 3) := by decide +kernel
theorem dX8_statement_9 : decode cX8_statement 9 = .ok (.istore_n 1, 1) := by decide +kernel
theorem dX8_statement_10 : decode cX8_statement 10 = .ok (.aload_n 0, 1) := by decide +kernel
theorem dX8_statement_11 : decode cX8_statement 11 = .ok (.ldc 143, 2) := by decide +kernel
theorem dX8_statement_13 : decode cX8_statement 13 = .ok (.invokevirtual 110, 3) := by decide +kernel
theorem dX8_statement_16 : decode cX8_statement 16 = .ok (.ifCond .eq 36, 3) := by decide +kernel
theorem dX8_statement_19 : decode cX8_statement 19 = .ok (.aload_n 0, 1) := by decide +kernel
theorem dX8_statement_20 : decode cX8_statement 20 = .ok (.iconst 0, 1) := by decide +kernel
theorem dX8_statement_21 : decode cX8_statement 21 = .ok (.iload_n 1, 1) := by decide +kernel
theorem dX8_statement_22 : decode cX8_statement 22 = .ok (.invokevirtual 145, 3) := by decide +kernel
theorem dX8_statement_25 : decode cX8_statement 25 = .ok (.aload_n 0, 1) := by decide +kernel
theorem dX8_statement_26 : decode cX8_statement 26 = .ok (.getfield 20, 3) := by decide +kernel
theorem dX8_statement_29 : decode cX8_statement 29 = .ok (.iconst 0, 1) := by decide +kernel
theorem dX8_statement_30 : decode cX8_statement 30 = .ok (.aload_n 0, 1) := by decide +kernel
theorem dX8_statement_31 : decode cX8_statement 31 = .ok (.iconst 1, 1) := by decide +kernel
theorem dX8_statement_32 : decode cX8_statement 32 = .ok (.iconst 4, 1) := by decide +kernel
theorem dX8_statement_33 : decode cX8_statement 33 = .ok (.invokevirtual 120, 3) := by decide +kernel
theorem dX8_statement_36 : decode cX8_statement 36 = .ok (.iastore, 1) := by decide +kernel
theorem dX8_statement_37 : decode cX8_statement 37 = .ok (.aload_n 0, 1) := by decide +kernel
theorem dX8_statement_38 : decode cX8_statement 38 = .ok (.getfield 20, 3) := by decide +kernel
theorem dX8_statement_41 : decode cX8_statement 41 = .ok (.iconst 1, 1) := by decide +kernel
theorem dX8_statement_42 : decode cX8_statement 42 = .ok (.aload_n 0, 1) := by decide +kernel
theorem dX8_statement_43 : decode cX8_statement 43 = .ok (.iconst 1, 1) := by decide +kernel
theorem dX8_statement_44 : decode cX8_statement 44 = .ok (.iconst 4, 1) := by decide +kernel
theorem dX8_statement_45 : decode cX8_statement 45 = .ok (.invokevirtual 120, 3) := by decide +kernel
theorem dX8_statement_48 : decode cX8_statement 48 = .ok (.iastore, 1) := by decide +kernel
theorem dX8_statement_49 : decode cX8_statement 49 = .ok (.goto 138, 3) := by decide +kernel
theorem dX8_statement_52 : decode cX8_statement 52 = .ok (.aload_n 0, 1) := by decide +kernel
theorem dX8_statement_53 : decode cX8_statement 53 = .ok (.ldc 148, 2) := by decide +kernel
theorem dX8_statement_55 : decode cX8_statement 55 = .ok (.invokevirtual 110, 3) := by decide +kernel
theorem dX8_statement_58 : decode cX8_statement 58 = .ok (.ifCond .eq 11, 3) := by decide +kernel
theorem dX8_statement_61 : decode cX8_statement 61 = .ok (.aload_n 0, 1) := by decide +kernel
theorem dX8_statement_62 : decode cX8_statement 62 = .ok (.iload_n 1, 1) := by decide +kernel
theorem dX8_statement_63 : decode cX8_statement 63 = .ok (.invokevirtual 149, 3) := by decide +kernel
theorem dX8_statement_66 : decode cX8_statement 66 = .ok (.goto 121, 3) := by decide +kernel
theorem dX8_statement_69 : decode cX8_statement 69 = .ok (.aload_n 0, 1) := by decide +kernel
theorem dX8_statement_70 : decode cX8_statement 70 = .ok (.ldc 152, 2) := by decide +kernel
theorem dX8_statement_72 : decode cX8_statement 72 = .ok (.invokevirtual 110, 3) := by decide +kernel
theorem dX8_statement_75 : decode cX8_statement 75 = .ok (.ifCond .eq 42, 3) := by decide +kernel
theorem dX8_statement_78 : decode cX8_statement 78 = .ok (.aload_n 0, 1) := by decide +kernel
theorem dX8_statement_79 : decode cX8_statement 79 = .ok (.iconst 1, 1) := by decide +kernel
theorem dX8_statement_80 : decode cX8_statement 80 = .ok (.iload_n 1, 1) := by decide +kernel
theorem dX8_statement_81 : decode cX8_statement 81 = .ok (.invokevirtual 145, 3) := by decide +kernel
theorem dX8_statement_84 : decode cX8_statement 84 = .ok (.aload_n 0, 1) := by decide +kernel
theorem dX8_statement_85 : decode cX8_statement 85 = .ok (.getfield 20, 3) := by decide +kernel
theorem dX8_statement_88 : decode cX8_statement 88 = .ok (.bipush 6, 2) := by decide +kernel
theorem dX8_statement_90 : decode cX8_statement 90 = .ok (.aload_n 0, 1) := by decide +kernel
theorem dX8_statement_91 : decode cX8_statement 91 = .ok (.iconst 0, 1) := by decide +kernel
theorem dX8_statement_92 : decode cX8_statement 92 = .ok (.sipush 999, 3) := by decide +kernel
theorem dX8_statement_95 : decode cX8_statement 95 = .ok (.invokevirtual 120, 3) := by decide +kernel
theorem dX8_statement_98 : decode cX8_statement 98 = .ok (.iastore, 1) := by decide +kernel
theorem dX8_statement_99 : decode cX8_statement 99 = .ok (.aload_n 0, 1) := by decide +kernel
theorem dX8_statement_100 : decode cX8_statement 100 = .ok (.getfield 20, 3) := by decide +kernel
theorem dX8_statement_103 : decode cX8_statement 103 = .ok (.bipush 7, 2) := by decide +kernel
theorem dX8_statement_105 : decode cX8_statement 105 = .ok (.aload_n 0, 1) := by decide +kernel
theorem dX8_statement_106 : decode cX8_statement 106 = .ok (.iconst 0, 1) := by decide +kernel
theorem dX8_statement_107 : decode cX8_statement 107 = .ok (.sipush 999, 3) := by decide +kernel
theorem dX8_statement_110 : decode cX8_statement 110 = .ok (.invokevirtual 120, 3) := by decide +kernel
theorem dX8_statement_113 : decode cX8_statement 113 = .ok (.iastore, 1) := by decide +kernel
theorem dX8_statement_114 : decode cX8_statement 114 = .ok (.goto 73, 3) := by decide +kernel
theorem dX8_statement_117 : decode cX8_statement 117 = .ok (.aload_n 0, 1) := by decide +kernel
theorem dX8_statement_118 : decode cX8_statement 118 = .ok (.ldc 154, 2) := by decide +kernel
theorem dX8_statement_120 : decode cX8_statement 120 = .ok (.invokevirtual 110, 3) := by decide +kernel
theorem dX8_statement_123 : decode cX8_statement 123 = .ok (.ifCond .eq 24, 3) := by decide +kernel
theorem dX8_statement_126 : decode cX8_statement 126 = .ok (.aload_n 0, 1) := by decide +kernel
theorem dX8_statement_127 : decode cX8_statement 127 = .ok (.iconst 2, 1) := by decide +kernel
theorem dX8_statement_128 : decode cX8_statement 128 = .ok (.iload_n 1, 1) := by decide +kernel
theorem dX8_statement_129 : decode cX8_statement 129 = .ok (.invokevirtual 145, 3) := by decide +kernel
theorem dX8_statement_132 : decode cX8_statement 132 = .ok (.aload_n 0, 1) := by decide +kernel
theorem dX8_statement_133 : decode cX8_statement 133 = .ok (.getfield 20, 3) := by decide +kernel
theorem dX8_statement_136 : decode cX8_statement 136 = .ok (.bipush 9, 2) := by decide +kernel
theorem dX8_statement_138 : decode cX8_statement 138 = .ok (.iconst 1, 1) := by decide +kernel
theorem dX8_statement_139 : decode cX8_statement 139 = .ok (.iastore, 1) := by decide +kernel
theorem dX8_statement_140 : decode cX8_statement 140 = .ok (.aload_n 0, 1) := by decide +kernel
theorem dX8_statement_141 : decode cX8_statement 141 = .ok (.invokevirtual 101, 3) := by decide +kernel
theorem dX8_statement_144 : decode cX8_statement 144 = .ok (.goto 43, 3) := by decide +kernel
theorem dX8_statement_147 : decode cX8_statement 147 = .ok (.aload_n 0, 1) := by decide +kernel
theorem dX8_statement_148 : decode cX8_statement 148 = .ok (.ldc 156, 2) := by decide +kernel
theorem dX8_statement_150 : decode cX8_statement 150 = .ok (.invokevirtual 110, 3) := by decide +kernel
theorem dX8_statement_153 : decode cX8_statement 153 = .ok (.ifCond .eq 27, 3) := by decide +kernel
theorem dX8_statement_156 : decode cX8_statement 156 = .ok (.aload_n 0, 1) := by decide +kernel
theorem dX8_statement_157 : decode cX8_statement 157 = .ok (.iconst 3, 1) := by decide +kernel
theorem dX8_statement_158 : decode cX8_statement 158 = .ok (.iload_n 1, 1) := by decide +kernel
theorem dX8_statement_159 : decode cX8_statement 159 = .ok (.invokevirtual 145, 3) := by decide +kernel
theorem dX8_statement_162 : decode cX8_statement 162 = .ok (.aload_n 0, 1) := by decide +kernel
theorem dX8_statement_163 : decode cX8_statement 163 = .ok (.getfield 20, 3) := by decide +kernel
theorem dX8_statement_166 : decode cX8_statement 166 = .ok (.bipush 8, 2) := by decide +kernel
theorem dX8_statement_168 : decode cX8_statement 168 = .ok (.aload_n 0, 1) := by decide +kernel
theorem dX8_statement_169 : decode cX8_statement 169 = .ok (.iconst 0, 1) := by decide +kernel
theorem dX8_statement_170 : decode cX8_statement 170 = .ok (.sipush 9999, 3) := by decide +kernel
theorem dX8_statement_173 : decode cX8_statement 173 = .ok (.invokevirtual 120, 3) := by decide +kernel
theorem dX8_statement_176 : decode cX8_statement 176 = .ok (.iastore, 1) := by decide +kernel
theorem dX8_statement_177 : decode cX8_statement 177 = .ok (.goto 10, 3) := by decide +kernel
theorem dX8_statement_180 : decode cX8_statement 180 = .ok (.aload_n 0, 1) := by decide +kernel
theorem dX8_statement_181 : decode cX8_statement 181 = .ok (.bipush (-2), 2) := by decide +kernel
theorem dX8_statement_183 : decode cX8_statement 183 = .ok (.iload_n 1, 1) := by decide +kernel
theorem dX8_statement_184 : decode cX8_statement 184 = .ok (.invokevirtual 82, 3) := by decide +kernel
theorem dX8_statement_187 : decode cX8_statement 187 = .ok (.aload_n 0, 1) := by decide +kernel
theorem dX8_statement_188 : decode cX8_statement 188 = .ok (.bipush 59, 2) := by decide +kernel
theorem dX8_statement_190 : decode cX8_statement 190 = .ok (.invokevirtual 104, 3) := by decide +kernel
theorem dX8_statement_193 : decode cX8_statement 193 = .ok (.return_, 1) := by decide +kernel
theorem dX8_load_0 : decode cX8_load 0 = .ok (.aload_n 0, 1) := by decide +kernel
theorem dX8_load_1 : decode cX8_load 1 = .ok (.iconst 0, 1) := by decide +kernel
theorem dX8_load_2 : decode cX8_load 2 = .ok (.putfield 39, 3) := by decide +kernel
theorem dX8_load_5 : decode cX8_load 5 = .ok (.aload_n 0, 1) := by decide +kernel
theorem dX8_load_6 : decode cX8_load 6 = .ok (.iload_n 1, 1) := by decide +kernel
theorem dX8_load_7 : decode cX8_load 7 = .ok (.iconst 0, 1) := by decide +kernel
theorem dX8_load_8 : decode cX8_load 8 = .ok (.aload_n 0, 1) := by decide +kernel
theorem dX8_load_9 : decode cX8_load 9 = .ok (.getfield 42, 3) := by decide +kernel
theorem dX8_load_12 : decode cX8_load 12 = .ok (.invokestatic 61, 3) := by decide +kernel
theorem dX8_load_15 : decode cX8_load 15 = .ok (.ifCond .ne 7, 3) := by decide +kernel
theorem dX8_load_18 : decode cX8_load 18 = .ok (.iconst 1, 1) := by decide +kernel
theorem dX8_load_19 : decode cX8_load 19 = .ok (.goto 4, 3) := by decide +kernel
theorem dX8_load_22 : decode cX8_load 22 = .ok (.iconst 0, 1) := by decide +kernel
theorem dX8_load_23 : decode cX8_load 23 = .ok (.iconst 1, 1) := by decide +kernel
theorem dX8_load_24 : decode cX8_load 24 = .ok (.invokevirtual 158, 3) := by decide +kernel
theorem dX8_load_27 : decode cX8_load 27 = .ok (.ifCond .eq 5, 3) := by decide +kernel
theorem dX8_load_30 : decode cX8_load 30 = .ok (.iconst 0, 1) := by decide +kernel
theorem dX8_load_31 : decode cX8_load 31 = .ok (.ireturn, 1) := by decide +kernel
theorem dX8_load_32 : decode cX8_load 32 = .ok (.aload_n 0, 1) := by decide +kernel
theorem dX8_load_33 : decode cX8_load 33 = .ok (.iconst 0, 1) := by decide +kernel
theorem dX8_load_34 : decode cX8_load 34 = .ok (.putfield 42, 3) := by decide +kernel
theorem dX8_load_37 : decode cX8_load 37 = .ok (.aload_n 0, 1) := by decide +kernel
theorem dX8_load_38 : decode cX8_load 38 = .ok (.iload_n 1, 1) := by decide +kernel
theorem dX8_load_39 : decode cX8_load 39 = .ok (.putfield 45, 3) := by decide +kernel
theorem dX8_load_42 : decode cX8_load 42 = .ok (.aload_n 0, 1) := by decide +kernel
theorem dX8_load_43 : decode cX8_load 43 = .ok (.iconst 0, 1) := by decide +kernel
theorem dX8_load_44 : decode cX8_load 44 = .ok (.putfield 48, 3) := by decide +kernel
theorem dX8_load_47 : decode cX8_load 47 = .ok (.aload_n 0, 1) := by decide +kernel
theorem dX8_load_48 : decode cX8_load 48 = .ok (.iconst 0, 1) := by decide +kernel
theorem dX8_load_49 : decode cX8_load 49 = .ok (.putfield 55, 3) := by decide +kernel
theorem dX8_load_52 : decode cX8_load 52 = .ok (.aload_n 0, 1) := by decide +kernel
theorem dX8_load_53 : decode cX8_load 53 = .ok (.iconst (-1), 1) := by decide +kernel
theorem dX8_load_54 : decode cX8_load 54 = .ok (.putfield 58, 3) := by decide +kernel
theorem dX8_load_57 : decode cX8_load 57 = .ok (.aload_n 0, 1) := by decide +kernel
theorem dX8_load_58 : decode cX8_load 58 = .ok (.iconst 0, 1) := by decide +kernel
theorem dX8_load_59 : decode cX8_load 59 = .ok (.putfield 98, 3) := by decide +kernel
theorem dX8_load_62 : decode cX8_load 62 = .ok (.aload_n 0, 1) := by decide +kernel
theorem dX8_load_63 : decode cX8_load 63 = .ok (.iconst 0, 1) := by decide +kernel
theorem dX8_load_64 : decode cX8_load 64 = .ok (.putfield 132, 3) := by decide +kernel
theorem dX8_load_67 : decode cX8_load 67 = .ok (.aload_n 0, 1) := by decide +kernel
theorem dX8_load_68 : decode cX8_load 68 = .ok (.getfield 20, 3) := by decide +kernel
theorem dX8_load_71 : decode cX8_load 71 = .ok (.invokestatic 35, 3) := by decide +kernel
theorem dX8_load_74 : decode cX8_load 74 = .ok (.aload_n 0, 1) := by decide +kernel
theorem dX8_load_75 : decode cX8_load 75 = .ok (.invokevirtual 65, 3) := by decide +kernel
theorem dX8_load_78 : decode cX8_load 78 = .ok (.ifCond .eq 18, 3) := by decide +kernel
theorem dX8_load_81 : decode cX8_load 81 = .ok (.aload_n 0, 1) := by decide +kernel
theorem dX8_load_82 : decode cX8_load 82 = .ok (.invokevirtual 69, 3) := by decide +kernel
theorem dX8_load_85 : decode cX8_load 85 = .ok (.iconst (-1), 1) := by decide +kernel
theorem dX8_load_86 : decode cX8_load 86 = .ok (.if_icmp .eq 10, 3) := by decide +kernel
theorem dX8_load_89 : decode cX8_load 89 = .ok (.aload_n 0, 1) := by decide +kernel
theorem dX8_load_90 : decode cX8_load 90 = .ok (.invokevirtual 162, 3) := by decide +kernel
theorem dX8_load_93 : decode cX8_load 93 = .ok (.goto (-19), 3) := by decide +kernel
theorem dX8_load_96 : decode cX8_load 96 = .ok (.aload_n 0, 1) := by decide +kernel
theorem dX8_load_97 : decode cX8_load 97 = .ok (.aload_n 0, 1) := by decide +kernel
theorem dX8_load_98 : decode cX8_load 98 = .ok (.getfield 58, 3) := by decide +kernel
theorem dX8_load_101 : decode cX8_load 101 = .ok (.putfield 13, 3) := by decide +kernel
theorem dX8_load_104 : decode cX8_load 104 = .ok (.aload_n 0, 1) := by decide +kernel
theorem dX8_load_105 : decode cX8_load 105 = .ok (.invokevirtual 65, 3) := by decide +kernel
theorem dX8_load_108 : decode cX8_load 108 = .ok (.ifCond .ne 8, 3) := by decide +kernel
theorem dX8_load_111 : decode cX8_load 111 = .ok (.aload_n 0, 1) := by decide +kernel
theorem dX8_load_112 : decode cX8_load 112 = .ok (.getfield 55, 3) := by decide +kernel
theorem dX8_load_115 : decode cX8_load 115 = .ok (.ireturn, 1) := by decide +kernel
theorem dX8_load_116 : decode cX8_load 116 = .ok (.aload_n 0, 1) := by decide +kernel
theorem dX8_load_117 : decode cX8_load 117 = .ok (.invokevirtual 165, 3) := by decide +kernel
theorem dX8_load_120 : decode cX8_load 120 = .ok (.aload_n 0, 1) := by decide +kernel
theorem dX8_load_121 : decode cX8_load 121 = .ok (.getfield 20, 3) := by decide +kernel
theorem dX8_load_124 : decode cX8_load 124 = .ok (.aload_n 0, 1) := by decide +kernel
theorem dX8_load_125 : decode cX8_load 125 = .ok (.getfield 17, 3) := by decide +kernel
theorem dX8_load_128 : decode cX8_load 128 = .ok (.invokestatic 168, 3) := by decide +kernel
theorem dX8_load_131 : decode cX8_load 131 = .ok (.aload_n 0, 1) := by decide +kernel
theorem dX8_load_132 : decode cX8_load 132 = .ok (.getfield 17, 3) := by decide +kernel
theorem dX8_load_135 : decode cX8_load 135 = .ok (.iconst 2, 1) := by decide +kernel
theorem dX8_load_136 : decode cX8_load 136 = .ok (.iaload, 1) := by decide +kernel
theorem dX8_load_137 : decode cX8_load 137 = .ok (.ireturn, 1) := by decide +kernel
theorem dX8_errorOffset_0 : decode cX8_errorOffset 0 = .ok (.aload_n 0, 1) := by decide +kernel
theorem dX8_errorOffset_1 : decode cX8_errorOffset 1 = .ok (.iconst 0, 1) := by decide +kernel
theorem dX8_errorOffset_2 : decode cX8_errorOffset 2 = .ok (.putfield 39, 3) := by decide +kernel
theorem dX8_errorOffset_5 : decode cX8_errorOffset 5 = .ok (.aload_n 0, 1) := by decide +kernel
theorem dX8_errorOffset_6 : decode cX8_errorOffset 6 = .ok (.getfield 13, 3) := by decide +kernel
theorem dX8_errorOffset_9 : decode cX8_errorOffset 9 = .ok (.ireturn, 1) := by decide +kernel
theorem dX8_limited_0 : decode cX8_limited 0 = .ok (.lload_n 0, 1) := by decide +kernel
theorem dX8_limited_1 : decode cX8_limited 1 = .ok (.ldc2_w 172, 3) := by decide +kernel
theorem dX8_limited_4 : decode cX8_limited 4 = .ok (.lcmp, 1) := by decide +kernel
theorem dX8_limited_5 : decode cX8_limited 5 = .ok (.ifCond .le 9, 3) := by decide +kernel
theorem dX8_limited_8 : decode cX8_limited 8 = .ok (.ldc2_w 172, 3) := by decide +kernel
theorem dX8_limited_11 : decode cX8_limited 11 = .ok (.goto 18, 3) := by decide +kernel
theorem dX8_limited_14 : decode cX8_limited 14 = .ok (.lload_n 0, 1) := by decide +kernel
theorem dX8_limited_15 : decode cX8_limited 15 = .ok (.ldc2_w 174, 3) := by decide +kernel
theorem dX8_limited_18 : decode cX8_limited 18 = .ok (.lcmp, 1) := by decide +kernel
theorem dX8_limited_19 : decode cX8_limited 19 = .ok (.ifCond .ge 9, 3) := by decide +kernel
theorem dX8_limited_22 : decode cX8_limited 22 = .ok (.ldc2_w 174, 3) := by decide +kernel
theorem dX8_limited_25 : decode cX8_limited 25 = .ok (.goto 4, 3) := by decide +kernel
theorem dX8_limited_28 : decode cX8_limited 28 = .ok (.lload_n 0, 1) := by decide +kernel
theorem dX8_limited_29 : decode cX8_limited 29 = .ok (.lreturn, 1) := by decide +kernel
theorem dX8_operate_0 : decode cX8_operate 0 = .ok (.iload_n 0, 1) := by decide +kernel
theorem dX8_operate_1 : decode cX8_operate 1 = .ok (.iconst 5, 1) := by decide +kernel
theorem dX8_operate_2 : decode cX8_operate 2 = .ok (.if_icmp .ne 17, 3) := by decide +kernel
theorem dX8_operate_5 : decode cX8_operate 5 = .ok (.lload_n 3, 1) := by decide +kernel
theorem dX8_operate_6 : decode cX8_operate 6 = .ok (.lconst 0, 1) := by decide +kernel
theorem dX8_operate_7 : decode cX8_operate 7 = .ok (.lcmp, 1) := by decide +kernel
theorem dX8_operate_8 : decode cX8_operate 8 = .ok (.ifCond .ne 7, 3) := by decide +kernel
theorem dX8_operate_11 : decode cX8_operate 11 = .ok (.lconst 0, 1) := by decide +kernel
theorem dX8_operate_12 : decode cX8_operate 12 = .ok (.goto 6, 3) := by decide +kernel
theorem dX8_operate_15 : decode cX8_operate 15 = .ok (.lload_n 1, 1) := by decide +kernel
theorem dX8_operate_16 : decode cX8_operate 16 = .ok (.lload_n 3, 1) := by decide +kernel
theorem dX8_operate_17 : decode cX8_operate 17 = .ok (.ldiv, 1) := by decide +kernel
theorem dX8_operate_18 : decode cX8_operate 18 = .ok (.lreturn, 1) := by decide +kernel
theorem dX8_operate_19 : decode cX8_operate 19 = .ok (.iload_n 0, 1) := by decide +kernel
theorem dX8_operate_20 : decode cX8_operate 20 = .ok (.iconst 2, 1) := by decide +kernel
theorem dX8_operate_21 : decode cX8_operate 21 = .ok (.if_icmp .ne 9, 3) := by decide +kernel
theorem dX8_operate_24 : decode cX8_operate 24 = .ok (.lload_n 1, 1) := by decide +kernel
theorem dX8_operate_25 : decode cX8_operate 25 = .ok (.lload_n 3, 1) := by decide +kernel
theorem dX8_operate_26 : decode cX8_operate 26 = .ok (.ladd, 1) := by decide +kernel
theorem dX8_operate_27 : decode cX8_operate 27 = .ok (.goto 17, 3) := by decide +kernel
theorem dX8_operate_30 : decode cX8_operate 30 = .ok (.iload_n 0, 1) := by decide +kernel
theorem dX8_operate_31 : decode cX8_operate 31 = .ok (.iconst 3, 1) := by decide +kernel
theorem dX8_operate_32 : decode cX8_operate 32 = .ok (.if_icmp .ne 9, 3) := by decide +kernel
theorem dX8_operate_35 : decode cX8_operate 35 = .ok (.lload_n 1, 1) := by decide +kernel
theorem dX8_operate_36 : decode cX8_operate 36 = .ok (.lload_n 3, 1) := by decide +kernel
theorem dX8_operate_37 : decode cX8_operate 37 = .ok (.lsub, 1) := by decide +kernel
theorem dX8_operate_38 : decode cX8_operate 38 = .ok (.goto 6, 3) := by decide +kernel
theorem dX8_operate_41 : decode cX8_operate 41 = .ok (.lload_n 1, 1) := by decide +kernel
theorem dX8_operate_42 : decode cX8_operate 42 = .ok (.lload_n 3, 1) := by decide +kernel
theorem dX8_operate_43 : decode cX8_operate 43 = .ok (.lmul, 1) := by decide +kernel
theorem dX8_operate_44 : decode cX8_operate 44 = .ok (.invokestatic 176, 3) := by decide +kernel
theorem dX8_operate_47 : decode cX8_operate 47 = .ok (.lreturn, 1) := by decide +kernel
theorem dX8_members_0 : decode cX8_members 0 = .ok (.iconst 0, 1) := by decide +kernel
theorem dX8_members_1 : decode cX8_members 1 = .ok (.istore_n 1, 1) := by decide +kernel
theorem dX8_members_2 : decode cX8_members 2 = .ok (.iload_n 0, 1) := by decide +kernel
theorem dX8_members_3 : decode cX8_members 3 = .ok (.istore_n 2, 1) := by decide +kernel
theorem dX8_members_4 : decode cX8_members 4 = .ok (.iload_n 2, 1) := by decide +kernel
theorem dX8_members_5 : decode cX8_members 5 = .ok (.ifCond .le 16, 3) := by decide +kernel
theorem dX8_members_8 : decode cX8_members 8 = .ok (.iload_n 1, 1) := by decide +kernel
theorem dX8_members_9 : decode cX8_members 9 = .ok (.iload_n 2, 1) := by decide +kernel
theorem dX8_members_10 : decode cX8_members 10 = .ok (.iconst 2, 1) := by decide +kernel
theorem dX8_members_11 : decode cX8_members 11 = .ok (.irem, 1) := by decide +kernel
theorem dX8_members_12 : decode cX8_members 12 = .ok (.iadd, 1) := by decide +kernel
theorem dX8_members_13 : decode cX8_members 13 = .ok (.istore_n 1, 1) := by decide +kernel
theorem dX8_members_14 : decode cX8_members 14 = .ok (.iload_n 2, 1) := by decide +kernel
theorem dX8_members_15 : decode cX8_members 15 = .ok (.iconst 2, 1) := by decide +kernel
theorem dX8_members_16 : decode cX8_members 16 = .ok (.idiv, 1) := by decide +kernel
theorem dX8_members_17 : decode cX8_members 17 = .ok (.istore_n 2, 1) := by decide +kernel
theorem dX8_members_18 : decode cX8_members 18 = .ok (.goto (-14), 3) := by decide +kernel
theorem dX8_members_21 : decode cX8_members 21 = .ok (.iload_n 1, 1) := by decide +kernel
theorem dX8_members_22 : decode cX8_members 22 = .ok (.ireturn, 1) := by decide +kernel
theorem dX8_needsOf_0 : decode cX8_needsOf 0 = .ok (.aload_n 0, 1) := by decide +kernel
theorem dX8_needsOf_1 : decode cX8_needsOf 1 = .ok (.aload_n 0, 1) := by decide +kernel
theorem dX8_needsOf_2 : decode cX8_needsOf 2 = .ok (.iload_n 1, 1) := by decide +kernel
theorem dX8_needsOf_3 : decode cX8_needsOf 3 = .ok (.invokestatic 180, 3) := by decide +kernel
theorem dX8_needsOf_6 : decode cX8_needsOf 6 = .ok (.iconst 1, 1) := by decide +kernel
theorem dX8_needsOf_7 : decode cX8_needsOf 7 = .ok (.iadd, 1) := by decide +kernel
theorem dX8_needsOf_8 : decode cX8_needsOf 8 = .ok (.iaload, 1) := by decide +kernel
theorem dX8_needsOf_9 : decode cX8_needsOf 9 = .ok (.invokestatic 135, 3) := by decide +kernel
theorem dX8_needsOf_12 : decode cX8_needsOf 12 = .ok (.iconst 5, 1) := by decide +kernel
theorem dX8_needsOf_13 : decode cX8_needsOf 13 = .ok (.iadd, 1) := by decide +kernel
theorem dX8_needsOf_14 : decode cX8_needsOf 14 = .ok (.iaload, 1) := by decide +kernel
theorem dX8_needsOf_15 : decode cX8_needsOf 15 = .ok (.ireturn, 1) := by decide +kernel
theorem dX8_scoreOf_0 : decode cX8_scoreOf 0 = .ok (.aload_n 1, 1) := by decide +kernel
theorem dX8_scoreOf_1 : decode cX8_scoreOf 1 = .ok (.bipush 9, 2) := by decide +kernel
theorem dX8_scoreOf_3 : decode cX8_scoreOf 3 = .ok (.iaload, 1) := by decide +kernel
theorem dX8_scoreOf_4 : decode cX8_scoreOf 4 = .ok (.ifCond .ne 8, 3) := by decide +kernel
theorem dX8_scoreOf_7 : decode cX8_scoreOf 7 = .ok (.iload_n 3, 1) := by decide +kernel
theorem dX8_scoreOf_8 : decode cX8_scoreOf 8 = .ok (.invokestatic 183, 3) := by decide +kernel
theorem dX8_scoreOf_11 : decode cX8_scoreOf 11 = .ok (.ireturn, 1) := by decide +kernel
theorem dX8_scoreOf_12 : decode cX8_scoreOf 12 = .ok (.iload_n 2, 1) := by decide +kernel
theorem dX8_scoreOf_13 : decode cX8_scoreOf 13 = .ok (.invokestatic 180, 3) := by decide +kernel
theorem dX8_scoreOf_16 : decode cX8_scoreOf 16 = .ok (.istore 4, 2) := by decide +kernel
theorem dX8_scoreOf_18 : decode cX8_scoreOf 18 = .ok (.iconst 0, 1) := by decide +kernel
theorem dX8_scoreOf_19 : decode cX8_scoreOf 19 = .ok (.istore 5, 2) := by decide +kernel
theorem dX8_scoreOf_21 : decode cX8_scoreOf 21 = .ok (.iconst 0, 1) := by decide +kernel
theorem dX8_scoreOf_22 : decode cX8_scoreOf 22 = .ok (.istore 6, 2) := by decide +kernel
theorem dX8_scoreOf_24 : decode cX8_scoreOf 24 = .ok (.iload 6, 2) := by decide +kernel
theorem dX8_scoreOf_26 : decode cX8_scoreOf 26 = .ok (.aload_n 1, 1) := by decide +kernel
theorem dX8_scoreOf_27 : decode cX8_scoreOf 27 = .ok (.bipush 10, 2) := by decide +kernel
theorem dX8_scoreOf_29 : decode cX8_scoreOf 29 = .ok (.iaload, 1) := by decide +kernel
theorem dX8_scoreOf_30 : decode cX8_scoreOf 30 = .ok (.if_icmp .ge 163, 3) := by decide +kernel
theorem dX8_scoreOf_33 : decode cX8_scoreOf 33 = .ok (.aload_n 1, 1) := by decide +kernel
theorem dX8_scoreOf_34 : decode cX8_scoreOf 34 = .ok (.sipush 324, 3) := by decide +kernel
theorem dX8_scoreOf_37 : decode cX8_scoreOf 37 = .ok (.iload 6, 2) := by decide +kernel
theorem dX8_scoreOf_39 : decode cX8_scoreOf 39 = .ok (.iadd, 1) := by decide +kernel
theorem dX8_scoreOf_40 : decode cX8_scoreOf 40 = .ok (.iaload, 1) := by decide +kernel
theorem dX8_scoreOf_41 : decode cX8_scoreOf 41 = .ok (.istore 7, 2) := by decide +kernel
theorem dX8_scoreOf_43 : decode cX8_scoreOf 43 = .ok (.iload 7, 2) := by decide +kernel
theorem dX8_scoreOf_45 : decode cX8_scoreOf 45 = .ok (.iconst 1, 1) := by decide +kernel
theorem dX8_scoreOf_46 : decode cX8_scoreOf 46 = .ok (.if_icmp .gt 108, 3) := by decide +kernel
theorem dX8_scoreOf_49 : decode cX8_scoreOf 49 = .ok (.iinc 6 1, 3) := by decide +kernel
theorem dX8_scoreOf_52 : decode cX8_scoreOf 52 = .ok (.aload_n 1, 1) := by decide +kernel
theorem dX8_scoreOf_53 : decode cX8_scoreOf 53 = .ok (.sipush 324, 3) := by decide +kernel
theorem dX8_scoreOf_56 : decode cX8_scoreOf 56 = .ok (.iload 6, 2) := by decide +kernel
theorem dX8_scoreOf_58 : decode cX8_scoreOf 58 = .ok (.iadd, 1) := by decide +kernel
theorem dX8_scoreOf_59 : decode cX8_scoreOf 59 = .ok (.iaload, 1) := by decide +kernel
theorem dX8_scoreOf_60 : decode cX8_scoreOf 60 = .ok (.istore 8, 2) := by decide +kernel
theorem dX8_scoreOf_62 : decode cX8_scoreOf 62 = .ok (.aload_n 0, 1) := by decide +kernel
theorem dX8_scoreOf_63 : decode cX8_scoreOf 63 = .ok (.getfield 31, 3) := by decide +kernel
theorem dX8_scoreOf_66 : decode cX8_scoreOf 66 = .ok (.iload 5, 2) := by decide +kernel
theorem dX8_scoreOf_68 : decode cX8_scoreOf 68 = .ok (.iload 7, 2) := by decide +kernel
theorem dX8_scoreOf_70 : decode cX8_scoreOf 70 = .ok (.ifCond .ne 9, 3) := by decide +kernel
theorem dX8_scoreOf_73 : decode cX8_scoreOf 73 = .ok (.iload 8, 2) := by decide +kernel
theorem dX8_scoreOf_75 : decode cX8_scoreOf 75 = .ok (.i2l, 1) := by decide +kernel
theorem dX8_scoreOf_76 : decode cX8_scoreOf 76 = .ok (.goto 71, 3) := by decide +kernel
theorem dX8_scoreOf_79 : decode cX8_scoreOf 79 = .ok (.iload 8, 2) := by decide +kernel
theorem dX8_scoreOf_81 : decode cX8_scoreOf 81 = .ok (.ifCond .ne 11, 3) := by decide +kernel
theorem dX8_scoreOf_84 : decode cX8_scoreOf 84 = .ok (.iload_n 3, 1) := by decide +kernel
theorem dX8_scoreOf_85 : decode cX8_scoreOf 85 = .ok (.invokestatic 183, 3) := by decide +kernel
theorem dX8_scoreOf_88 : decode cX8_scoreOf 88 = .ok (.i2l, 1) := by decide +kernel
theorem dX8_scoreOf_89 : decode cX8_scoreOf 89 = .ok (.goto 58, 3) := by decide +kernel
theorem dX8_scoreOf_92 : decode cX8_scoreOf 92 = .ok (.iload 8, 2) := by decide +kernel
theorem dX8_scoreOf_94 : decode cX8_scoreOf 94 = .ok (.iconst 1, 1) := by decide +kernel
theorem dX8_scoreOf_95 : decode cX8_scoreOf 95 = .ok (.if_icmp .ne 17, 3) := by decide +kernel
theorem dX8_scoreOf_98 : decode cX8_scoreOf 98 = .ok (.iload_n 3, 1) := by decide +kernel
theorem dX8_scoreOf_99 : decode cX8_scoreOf 99 = .ok (.aload_n 1, 1) := by decide +kernel
theorem dX8_scoreOf_100 : decode cX8_scoreOf 100 = .ok (.iload_n 2, 1) := by decide +kernel
theorem dX8_scoreOf_101 : decode cX8_scoreOf 101 = .ok (.invokestatic 186, 3) := by decide +kernel
theorem dX8_scoreOf_104 : decode cX8_scoreOf 104 = .ok (.iand, 1) := by decide +kernel
theorem dX8_scoreOf_105 : decode cX8_scoreOf 105 = .ok (.invokestatic 183, 3) := by decide +kernel
theorem dX8_scoreOf_108 : decode cX8_scoreOf 108 = .ok (.i2l, 1) := by decide +kernel
theorem dX8_scoreOf_109 : decode cX8_scoreOf 109 = .ok (.goto 38, 3) := by decide +kernel
theorem dX8_scoreOf_112 : decode cX8_scoreOf 112 = .ok (.iload 8, 2) := by decide +kernel
theorem dX8_scoreOf_114 : decode cX8_scoreOf 114 = .ok (.iconst 2, 1) := by decide +kernel
theorem dX8_scoreOf_115 : decode cX8_scoreOf 115 = .ok (.if_icmp .ne 13, 3) := by decide +kernel
theorem dX8_scoreOf_118 : decode cX8_scoreOf 118 = .ok (.aload_n 1, 1) := by decide +kernel
theorem dX8_scoreOf_119 : decode cX8_scoreOf 119 = .ok (.iload 4, 2) := by decide +kernel
theorem dX8_scoreOf_121 : decode cX8_scoreOf 121 = .ok (.iconst 2, 1) := by decide +kernel
theorem dX8_scoreOf_122 : decode cX8_scoreOf 122 = .ok (.iadd, 1) := by decide +kernel
theorem dX8_scoreOf_123 : decode cX8_scoreOf 123 = .ok (.iaload, 1) := by decide +kernel
theorem dX8_scoreOf_124 : decode cX8_scoreOf 124 = .ok (.i2l, 1) := by decide +kernel
theorem dX8_scoreOf_125 : decode cX8_scoreOf 125 = .ok (.goto 22, 3) := by decide +kernel
theorem dX8_scoreOf_128 : decode cX8_scoreOf 128 = .ok (.aload_n 1, 1) := by decide +kernel
theorem dX8_scoreOf_129 : decode cX8_scoreOf 129 = .ok (.iload 4, 2) := by decide +kernel
theorem dX8_scoreOf_131 : decode cX8_scoreOf 131 = .ok (.iconst 3, 1) := by decide +kernel
theorem dX8_scoreOf_132 : decode cX8_scoreOf 132 = .ok (.iadd, 1) := by decide +kernel
theorem dX8_scoreOf_133 : decode cX8_scoreOf 133 = .ok (.iaload, 1) := by decide +kernel
theorem dX8_scoreOf_134 : decode cX8_scoreOf 134 = .ok (.aload_n 1, 1) := by decide +kernel
theorem dX8_scoreOf_135 : decode cX8_scoreOf 135 = .ok (.aload_n 1, 1) := by decide +kernel
theorem dX8_scoreOf_136 : decode cX8_scoreOf 136 = .ok (.iload 4, 2) := by decide +kernel
theorem dX8_scoreOf_138 : decode cX8_scoreOf 138 = .ok (.iaload, 1) := by decide +kernel
theorem dX8_scoreOf_139 : decode cX8_scoreOf 139 = .ok (.invokestatic 190, 3) := by decide +kernel
theorem dX8_scoreOf_142 : decode cX8_scoreOf 142 = .ok (.iconst 3, 1) := by decide +kernel
theorem dX8_scoreOf_143 : decode cX8_scoreOf 143 = .ok (.iadd, 1) := by decide +kernel
theorem dX8_scoreOf_144 : decode cX8_scoreOf 144 = .ok (.iaload, 1) := by decide +kernel
theorem dX8_scoreOf_145 : decode cX8_scoreOf 145 = .ok (.isub, 1) := by decide +kernel
theorem dX8_scoreOf_146 : decode cX8_scoreOf 146 = .ok (.i2l, 1) := by decide +kernel
theorem dX8_scoreOf_147 : decode cX8_scoreOf 147 = .ok (.lastore, 1) := by decide +kernel
theorem dX8_scoreOf_148 : decode cX8_scoreOf 148 = .ok (.iinc 5 1, 3) := by decide +kernel
theorem dX8_scoreOf_151 : decode cX8_scoreOf 151 = .ok (.goto 36, 3) := by decide +kernel
theorem dX8_scoreOf_154 : decode cX8_scoreOf 154 = .ok (.iinc 5 (-1), 3) := by decide +kernel
theorem dX8_scoreOf_157 : decode cX8_scoreOf 157 = .ok (.aload_n 0, 1) := by decide +kernel
theorem dX8_scoreOf_158 : decode cX8_scoreOf 158 = .ok (.getfield 31, 3) := by decide +kernel
theorem dX8_scoreOf_161 : decode cX8_scoreOf 161 = .ok (.iload 5, 2) := by decide +kernel
theorem dX8_scoreOf_163 : decode cX8_scoreOf 163 = .ok (.iconst 1, 1) := by decide +kernel
theorem dX8_scoreOf_164 : decode cX8_scoreOf 164 = .ok (.isub, 1) := by decide +kernel
theorem dX8_scoreOf_165 : decode cX8_scoreOf 165 = .ok (.iload 7, 2) := by decide +kernel
theorem dX8_scoreOf_167 : decode cX8_scoreOf 167 = .ok (.aload_n 0, 1) := by decide +kernel
theorem dX8_scoreOf_168 : decode cX8_scoreOf 168 = .ok (.getfield 31, 3) := by decide +kernel
theorem dX8_scoreOf_171 : decode cX8_scoreOf 171 = .ok (.iload 5, 2) := by decide +kernel
theorem dX8_scoreOf_173 : decode cX8_scoreOf 173 = .ok (.iconst 1, 1) := by decide +kernel
theorem dX8_scoreOf_174 : decode cX8_scoreOf 174 = .ok (.isub, 1) := by decide +kernel
theorem dX8_scoreOf_175 : decode cX8_scoreOf 175 = .ok (.laload, 1) := by decide +kernel
theorem dX8_scoreOf_176 : decode cX8_scoreOf 176 = .ok (.aload_n 0, 1) := by decide +kernel
theorem dX8_scoreOf_177 : decode cX8_scoreOf 177 = .ok (.getfield 31, 3) := by decide +kernel
theorem dX8_scoreOf_180 : decode cX8_scoreOf 180 = .ok (.iload 5, 2) := by decide +kernel
theorem dX8_scoreOf_182 : decode cX8_scoreOf 182 = .ok (.laload, 1) := by decide +kernel
theorem dX8_scoreOf_183 : decode cX8_scoreOf 183 = .ok (.invokestatic 193, 3) := by decide +kernel
theorem dX8_scoreOf_186 : decode cX8_scoreOf 186 = .ok (.lastore, 1) := by decide +kernel
theorem dX8_scoreOf_187 : decode cX8_scoreOf 187 = .ok (.iinc 6 1, 3) := by decide +kernel
theorem dX8_scoreOf_190 : decode cX8_scoreOf 190 = .ok (.goto (-166), 3) := by decide +kernel
theorem dX8_scoreOf_193 : decode cX8_scoreOf 193 = .ok (.aload_n 0, 1) := by decide +kernel
theorem dX8_scoreOf_194 : decode cX8_scoreOf 194 = .ok (.getfield 31, 3) := by decide +kernel
theorem dX8_scoreOf_197 : decode cX8_scoreOf 197 = .ok (.iconst 0, 1) := by decide +kernel
theorem dX8_scoreOf_198 : decode cX8_scoreOf 198 = .ok (.laload, 1) := by decide +kernel
theorem dX8_scoreOf_199 : decode cX8_scoreOf 199 = .ok (.l2i, 1) := by decide +kernel
theorem dX8_scoreOf_200 : decode cX8_scoreOf 200 = .ok (.ireturn, 1) := by decide +kernel
theorem dX8_wins_0 : decode cX8_wins 0 = .ok (.aload_n 0, 1) := by decide +kernel
theorem dX8_wins_1 : decode cX8_wins 1 = .ok (.aload_n 1, 1) := by decide +kernel
theorem dX8_wins_2 : decode cX8_wins 2 = .ok (.iload_n 2, 1) := by decide +kernel
theorem dX8_wins_3 : decode cX8_wins 3 = .ok (.iload_n 3, 1) := by decide +kernel
theorem dX8_wins_4 : decode cX8_wins 4 = .ok (.invokevirtual 197, 3) := by decide +kernel
theorem dX8_wins_7 : decode cX8_wins 7 = .ok (.aload_n 1, 1) := by decide +kernel
theorem dX8_wins_8 : decode cX8_wins 8 = .ok (.aload_n 1, 1) := by decide +kernel
theorem dX8_wins_9 : decode cX8_wins 9 = .ok (.iload_n 2, 1) := by decide +kernel
theorem dX8_wins_10 : decode cX8_wins 10 = .ok (.invokestatic 180, 3) := by decide +kernel
theorem dX8_wins_13 : decode cX8_wins 13 = .ok (.iconst 1, 1) := by decide +kernel
theorem dX8_wins_14 : decode cX8_wins 14 = .ok (.iadd, 1) := by decide +kernel
theorem dX8_wins_15 : decode cX8_wins 15 = .ok (.iaload, 1) := by decide +kernel
theorem dX8_wins_16 : decode cX8_wins 16 = .ok (.invokestatic 135, 3) := by decide +kernel
theorem dX8_wins_19 : decode cX8_wins 19 = .ok (.iconst 4, 1) := by decide +kernel
theorem dX8_wins_20 : decode cX8_wins 20 = .ok (.iadd, 1) := by decide +kernel
theorem dX8_wins_21 : decode cX8_wins 21 = .ok (.iaload, 1) := by decide +kernel
theorem dX8_wins_22 : decode cX8_wins 22 = .ok (.if_icmp .lt 19, 3) := by decide +kernel
theorem dX8_wins_25 : decode cX8_wins 25 = .ok (.aload_n 1, 1) := by decide +kernel
theorem dX8_wins_26 : decode cX8_wins 26 = .ok (.iload_n 2, 1) := by decide +kernel
theorem dX8_wins_27 : decode cX8_wins 27 = .ok (.invokestatic 186, 3) := by decide +kernel
theorem dX8_wins_30 : decode cX8_wins 30 = .ok (.iload_n 3, 1) := by decide +kernel
theorem dX8_wins_31 : decode cX8_wins 31 = .ok (.iconst (-1), 1) := by decide +kernel
theorem dX8_wins_32 : decode cX8_wins 32 = .ok (.ixor, 1) := by decide +kernel
theorem dX8_wins_33 : decode cX8_wins 33 = .ok (.iand, 1) := by decide +kernel
theorem dX8_wins_34 : decode cX8_wins 34 = .ok (.ifCond .ne 7, 3) := by decide +kernel
theorem dX8_wins_37 : decode cX8_wins 37 = .ok (.iconst 1, 1) := by decide +kernel
theorem dX8_wins_38 : decode cX8_wins 38 = .ok (.goto 4, 3) := by decide +kernel
theorem dX8_wins_41 : decode cX8_wins 41 = .ok (.iconst 0, 1) := by decide +kernel
theorem dX8_wins_42 : decode cX8_wins 42 = .ok (.ireturn, 1) := by decide +kernel
theorem dX8_pay_0 : decode cX8_pay 0 = .ok (.aload_n 0, 1) := by decide +kernel
theorem dX8_pay_1 : decode cX8_pay 1 = .ok (.iload_n 1, 1) := by decide +kernel
theorem dX8_pay_2 : decode cX8_pay 2 = .ok (.dup2, 1) := by decide +kernel
theorem dX8_pay_3 : decode cX8_pay 3 = .ok (.iaload, 1) := by decide +kernel
theorem dX8_pay_4 : decode cX8_pay 4 = .ok (.iload_n 3, 1) := by decide +kernel
theorem dX8_pay_5 : decode cX8_pay 5 = .ok (.isub, 1) := by decide +kernel
theorem dX8_pay_6 : decode cX8_pay 6 = .ok (.iastore, 1) := by decide +kernel
theorem dX8_pay_7 : decode cX8_pay 7 = .ok (.aload_n 0, 1) := by decide +kernel
theorem dX8_pay_8 : decode cX8_pay 8 = .ok (.iload_n 2, 1) := by decide +kernel
theorem dX8_pay_9 : decode cX8_pay 9 = .ok (.dup2, 1) := by decide +kernel
theorem dX8_pay_10 : decode cX8_pay 10 = .ok (.iaload, 1) := by decide +kernel
theorem dX8_pay_11 : decode cX8_pay 11 = .ok (.iload_n 3, 1) := by decide +kernel
theorem dX8_pay_12 : decode cX8_pay 12 = .ok (.iadd, 1) := by decide +kernel
theorem dX8_pay_13 : decode cX8_pay 13 = .ok (.iastore, 1) := by decide +kernel
theorem dX8_pay_14 : decode cX8_pay 14 = .ok (.return_, 1) := by decide +kernel
theorem dX8_issuerOf_0 : decode cX8_issuerOf 0 = .ok (.bipush 12, 2) := by decide +kernel
theorem dX8_issuerOf_2 : decode cX8_issuerOf 2 = .ok (.aload_n 0, 1) := by decide +kernel
theorem dX8_issuerOf_3 : decode cX8_issuerOf 3 = .ok (.aload_n 0, 1) := by decide +kernel
theorem dX8_issuerOf_4 : decode cX8_issuerOf 4 = .ok (.iload_n 1, 1) := by decide +kernel
theorem dX8_issuerOf_5 : decode cX8_issuerOf 5 = .ok (.invokestatic 180, 3) := by decide +kernel
theorem dX8_issuerOf_8 : decode cX8_issuerOf 8 = .ok (.iaload, 1) := by decide +kernel
theorem dX8_issuerOf_9 : decode cX8_issuerOf 9 = .ok (.invokestatic 190, 3) := by decide +kernel
theorem dX8_issuerOf_12 : decode cX8_issuerOf 12 = .ok (.iaload, 1) := by decide +kernel
theorem dX8_issuerOf_13 : decode cX8_issuerOf 13 = .ok (.iadd, 1) := by decide +kernel
theorem dX8_issuerOf_14 : decode cX8_issuerOf 14 = .ok (.ireturn, 1) := by decide +kernel
theorem dX8_merchantOf_0 : decode cX8_merchantOf 0 = .ok (.bipush 16, 2) := by decide +kernel
theorem dX8_merchantOf_2 : decode cX8_merchantOf 2 = .ok (.aload_n 0, 1) := by decide +kernel
theorem dX8_merchantOf_3 : decode cX8_merchantOf 3 = .ok (.aload_n 0, 1) := by decide +kernel
theorem dX8_merchantOf_4 : decode cX8_merchantOf 4 = .ok (.iload_n 1, 1) := by decide +kernel
theorem dX8_merchantOf_5 : decode cX8_merchantOf 5 = .ok (.invokestatic 180, 3) := by decide +kernel
theorem dX8_merchantOf_8 : decode cX8_merchantOf 8 = .ok (.iaload, 1) := by decide +kernel
theorem dX8_merchantOf_9 : decode cX8_merchantOf 9 = .ok (.invokestatic 190, 3) := by decide +kernel
theorem dX8_merchantOf_12 : decode cX8_merchantOf 12 = .ok (.iconst 1, 1) := by decide +kernel
theorem dX8_merchantOf_13 : decode cX8_merchantOf 13 = .ok (.iadd, 1) := by decide +kernel
theorem dX8_merchantOf_14 : decode cX8_merchantOf 14 = .ok (.iaload, 1) := by decide +kernel
theorem dX8_merchantOf_15 : decode cX8_merchantOf 15 = .ok (.iadd, 1) := by decide +kernel
theorem dX8_merchantOf_16 : decode cX8_merchantOf 16 = .ok (.ireturn, 1) := by decide +kernel
theorem dX8_give_0 : decode cX8_give 0 = .ok (.iload_n 1, 1) := by decide +kernel
theorem dX8_give_1 : decode cX8_give 1 = .ok (.invokestatic 180, 3) := by decide +kernel
theorem dX8_give_4 : decode cX8_give 4 = .ok (.istore_n 3, 1) := by decide +kernel
theorem dX8_give_5 : decode cX8_give 5 = .ok (.aload_n 0, 1) := by decide +kernel
theorem dX8_give_6 : decode cX8_give 6 = .ok (.iload_n 1, 1) := by decide +kernel
theorem dX8_give_7 : decode cX8_give 7 = .ok (.invokestatic 201, 3) := by decide +kernel
theorem dX8_give_10 : decode cX8_give 10 = .ok (.istore 4, 2) := by decide +kernel
theorem dX8_give_12 : decode cX8_give 12 = .ok (.aload_n 0, 1) := by decide +kernel
theorem dX8_give_13 : decode cX8_give 13 = .ok (.iload_n 1, 1) := by decide +kernel
theorem dX8_give_14 : decode cX8_give 14 = .ok (.invokestatic 204, 3) := by decide +kernel
theorem dX8_give_17 : decode cX8_give 17 = .ok (.istore 5, 2) := by decide +kernel
theorem dX8_give_19 : decode cX8_give 19 = .ok (.aload_n 0, 1) := by decide +kernel
theorem dX8_give_20 : decode cX8_give 20 = .ok (.iload_n 3, 1) := by decide +kernel
theorem dX8_give_21 : decode cX8_give 21 = .ok (.bipush 7, 2) := by decide +kernel
theorem dX8_give_23 : decode cX8_give 23 = .ok (.iadd, 1) := by decide +kernel
theorem dX8_give_24 : decode cX8_give 24 = .ok (.iaload, 1) := by decide +kernel
theorem dX8_give_25 : decode cX8_give 25 = .ok (.iconst 1, 1) := by decide +kernel
theorem dX8_give_26 : decode cX8_give 26 = .ok (.if_icmp .ne 7, 3) := by decide +kernel
theorem dX8_give_29 : decode cX8_give 29 = .ok (.iconst 1, 1) := by decide +kernel
theorem dX8_give_30 : decode cX8_give 30 = .ok (.goto 4, 3) := by decide +kernel
theorem dX8_give_33 : decode cX8_give 33 = .ok (.iconst 0, 1) := by decide +kernel
theorem dX8_give_34 : decode cX8_give 34 = .ok (.iload_n 2, 1) := by decide +kernel
theorem dX8_give_35 : decode cX8_give 35 = .ok (.if_icmp .ne 4, 3) := by decide +kernel
theorem dX8_give_38 : decode cX8_give 38 = .ok (.return_, 1) := by decide +kernel
theorem dX8_give_39 : decode cX8_give 39 = .ok (.aload_n 0, 1) := by decide +kernel
theorem dX8_give_40 : decode cX8_give 40 = .ok (.iload_n 2, 1) := by decide +kernel
theorem dX8_give_41 : decode cX8_give 41 = .ok (.ifCond .eq 8, 3) := by decide +kernel
theorem dX8_give_44 : decode cX8_give 44 = .ok (.iload 5, 2) := by decide +kernel
theorem dX8_give_46 : decode cX8_give 46 = .ok (.goto 5, 3) := by decide +kernel
theorem dX8_give_49 : decode cX8_give 49 = .ok (.iload 4, 2) := by decide +kernel
theorem dX8_give_51 : decode cX8_give 51 = .ok (.iload_n 2, 1) := by decide +kernel
theorem dX8_give_52 : decode cX8_give 52 = .ok (.ifCond .eq 8, 3) := by decide +kernel
theorem dX8_give_55 : decode cX8_give 55 = .ok (.iload 4, 2) := by decide +kernel
theorem dX8_give_57 : decode cX8_give 57 = .ok (.goto 5, 3) := by decide +kernel
theorem dX8_give_60 : decode cX8_give 60 = .ok (.iload 5, 2) := by decide +kernel
theorem dX8_give_62 : decode cX8_give 62 = .ok (.aload_n 0, 1) := by decide +kernel
theorem dX8_give_63 : decode cX8_give 63 = .ok (.iload_n 3, 1) := by decide +kernel
theorem dX8_give_64 : decode cX8_give 64 = .ok (.iconst 2, 1) := by decide +kernel
theorem dX8_give_65 : decode cX8_give 65 = .ok (.iadd, 1) := by decide +kernel
theorem dX8_give_66 : decode cX8_give 66 = .ok (.iaload, 1) := by decide +kernel
theorem dX8_give_67 : decode cX8_give 67 = .ok (.invokestatic 207, 3) := by decide +kernel
theorem dX8_give_70 : decode cX8_give 70 = .ok (.aload_n 0, 1) := by decide +kernel
theorem dX8_give_71 : decode cX8_give 71 = .ok (.iload_n 3, 1) := by decide +kernel
theorem dX8_give_72 : decode cX8_give 72 = .ok (.bipush 7, 2) := by decide +kernel
theorem dX8_give_74 : decode cX8_give 74 = .ok (.iadd, 1) := by decide +kernel
theorem dX8_give_75 : decode cX8_give 75 = .ok (.iload_n 2, 1) := by decide +kernel
theorem dX8_give_76 : decode cX8_give 76 = .ok (.ifCond .eq 7, 3) := by decide +kernel
theorem dX8_give_79 : decode cX8_give 79 = .ok (.iconst 1, 1) := by decide +kernel
theorem dX8_give_80 : decode cX8_give 80 = .ok (.goto 4, 3) := by decide +kernel
theorem dX8_give_83 : decode cX8_give 83 = .ok (.iconst 0, 1) := by decide +kernel
theorem dX8_give_84 : decode cX8_give 84 = .ok (.iastore, 1) := by decide +kernel
theorem dX8_give_85 : decode cX8_give 85 = .ok (.return_, 1) := by decide +kernel
theorem dX8_end_0 : decode cX8_end 0 = .ok (.iload_n 1, 1) := by decide +kernel
theorem dX8_end_1 : decode cX8_end 1 = .ok (.invokestatic 180, 3) := by decide +kernel
theorem dX8_end_4 : decode cX8_end 4 = .ok (.istore 4, 2) := by decide +kernel
theorem dX8_end_6 : decode cX8_end 6 = .ok (.aload_n 0, 1) := by decide +kernel
theorem dX8_end_7 : decode cX8_end 7 = .ok (.iload_n 1, 1) := by decide +kernel
theorem dX8_end_8 : decode cX8_end 8 = .ok (.iload_n 2, 1) := by decide +kernel
theorem dX8_end_9 : decode cX8_end 9 = .ok (.invokestatic 211, 3) := by decide +kernel
theorem dX8_end_12 : decode cX8_end 12 = .ok (.iload_n 2, 1) := by decide +kernel
theorem dX8_end_13 : decode cX8_end 13 = .ok (.ifCond .eq 21, 3) := by decide +kernel
theorem dX8_end_16 : decode cX8_end 16 = .ok (.aload_n 0, 1) := by decide +kernel
theorem dX8_end_17 : decode cX8_end 17 = .ok (.aload_n 0, 1) := by decide +kernel
theorem dX8_end_18 : decode cX8_end 18 = .ok (.iload_n 1, 1) := by decide +kernel
theorem dX8_end_19 : decode cX8_end 19 = .ok (.invokestatic 204, 3) := by decide +kernel
theorem dX8_end_22 : decode cX8_end 22 = .ok (.aload_n 0, 1) := by decide +kernel
theorem dX8_end_23 : decode cX8_end 23 = .ok (.iload_n 1, 1) := by decide +kernel
theorem dX8_end_24 : decode cX8_end 24 = .ok (.invokestatic 201, 3) := by decide +kernel
theorem dX8_end_27 : decode cX8_end 27 = .ok (.aload_n 0, 1) := by decide +kernel
theorem dX8_end_28 : decode cX8_end 28 = .ok (.bipush 6, 2) := by decide +kernel
theorem dX8_end_30 : decode cX8_end 30 = .ok (.iaload, 1) := by decide +kernel
theorem dX8_end_31 : decode cX8_end 31 = .ok (.invokestatic 207, 3) := by decide +kernel
theorem dX8_end_34 : decode cX8_end 34 = .ok (.iload_n 3, 1) := by decide +kernel
theorem dX8_end_35 : decode cX8_end 35 = .ok (.ifCond .eq 30, 3) := by decide +kernel
theorem dX8_end_38 : decode cX8_end 38 = .ok (.aload_n 0, 1) := by decide +kernel
theorem dX8_end_39 : decode cX8_end 39 = .ok (.iload_n 2, 1) := by decide +kernel
theorem dX8_end_40 : decode cX8_end 40 = .ok (.ifCond .eq 11, 3) := by decide +kernel
theorem dX8_end_43 : decode cX8_end 43 = .ok (.aload_n 0, 1) := by decide +kernel
theorem dX8_end_44 : decode cX8_end 44 = .ok (.iload_n 1, 1) := by decide +kernel
theorem dX8_end_45 : decode cX8_end 45 = .ok (.invokestatic 204, 3) := by decide +kernel
theorem dX8_end_48 : decode cX8_end 48 = .ok (.goto 8, 3) := by decide +kernel
theorem dX8_end_51 : decode cX8_end 51 = .ok (.aload_n 0, 1) := by decide +kernel
theorem dX8_end_52 : decode cX8_end 52 = .ok (.iload_n 1, 1) := by decide +kernel
theorem dX8_end_53 : decode cX8_end 53 = .ok (.invokestatic 201, 3) := by decide +kernel
theorem dX8_end_56 : decode cX8_end 56 = .ok (.bipush 11, 2) := by decide +kernel
theorem dX8_end_58 : decode cX8_end 58 = .ok (.aload_n 0, 1) := by decide +kernel
theorem dX8_end_59 : decode cX8_end 59 = .ok (.bipush 7, 2) := by decide +kernel
theorem dX8_end_61 : decode cX8_end 61 = .ok (.iaload, 1) := by decide +kernel
theorem dX8_end_62 : decode cX8_end 62 = .ok (.invokestatic 207, 3) := by decide +kernel
theorem dX8_end_65 : decode cX8_end 65 = .ok (.aload_n 0, 1) := by decide +kernel
theorem dX8_end_66 : decode cX8_end 66 = .ok (.iload 4, 2) := by decide +kernel
theorem dX8_end_68 : decode cX8_end 68 = .ok (.iconst 5, 1) := by decide +kernel
theorem dX8_end_69 : decode cX8_end 69 = .ok (.iadd, 1) := by decide +kernel
theorem dX8_end_70 : decode cX8_end 70 = .ok (.iload_n 2, 1) := by decide +kernel
theorem dX8_end_71 : decode cX8_end 71 = .ok (.ifCond .eq 7, 3) := by decide +kernel
theorem dX8_end_74 : decode cX8_end 74 = .ok (.iconst 5, 1) := by decide +kernel
theorem dX8_end_75 : decode cX8_end 75 = .ok (.goto 4, 3) := by decide +kernel
theorem dX8_end_78 : decode cX8_end 78 = .ok (.iconst 4, 1) := by decide +kernel
theorem dX8_end_79 : decode cX8_end 79 = .ok (.iastore, 1) := by decide +kernel
theorem dX8_end_80 : decode cX8_end 80 = .ok (.aload_n 0, 1) := by decide +kernel
theorem dX8_end_81 : decode cX8_end 81 = .ok (.iload 4, 2) := by decide +kernel
theorem dX8_end_83 : decode cX8_end 83 = .ok (.bipush 6, 2) := by decide +kernel
theorem dX8_end_85 : decode cX8_end 85 = .ok (.iadd, 1) := by decide +kernel
theorem dX8_end_86 : decode cX8_end 86 = .ok (.iconst (-1), 1) := by decide +kernel
theorem dX8_end_87 : decode cX8_end 87 = .ok (.iastore, 1) := by decide +kernel
theorem dX8_end_88 : decode cX8_end 88 = .ok (.return_, 1) := by decide +kernel
theorem dX8_isFinal_0 : decode cX8_isFinal 0 = .ok (.aload_n 0, 1) := by decide +kernel
theorem dX8_isFinal_1 : decode cX8_isFinal 1 = .ok (.iload_n 1, 1) := by decide +kernel
theorem dX8_isFinal_2 : decode cX8_isFinal 2 = .ok (.invokestatic 180, 3) := by decide +kernel
theorem dX8_isFinal_5 : decode cX8_isFinal 5 = .ok (.iconst 5, 1) := by decide +kernel
theorem dX8_isFinal_6 : decode cX8_isFinal 6 = .ok (.iadd, 1) := by decide +kernel
theorem dX8_isFinal_7 : decode cX8_isFinal 7 = .ok (.iaload, 1) := by decide +kernel
theorem dX8_isFinal_8 : decode cX8_isFinal 8 = .ok (.iconst 4, 1) := by decide +kernel
theorem dX8_isFinal_9 : decode cX8_isFinal 9 = .ok (.if_icmp .lt 7, 3) := by decide +kernel
theorem dX8_isFinal_12 : decode cX8_isFinal 12 = .ok (.iconst 1, 1) := by decide +kernel
theorem dX8_isFinal_13 : decode cX8_isFinal 13 = .ok (.goto 4, 3) := by decide +kernel
theorem dX8_isFinal_16 : decode cX8_isFinal 16 = .ok (.iconst 0, 1) := by decide +kernel
theorem dX8_isFinal_17 : decode cX8_isFinal 17 = .ok (.ireturn, 1) := by decide +kernel
theorem dX8_passDay_0 : decode cX8_passDay 0 = .ok (.iconst 0, 1) := by decide +kernel
theorem dX8_passDay_1 : decode cX8_passDay 1 = .ok (.istore_n 2, 1) := by decide +kernel
theorem dX8_passDay_2 : decode cX8_passDay 2 = .ok (.aload_n 1, 1) := by decide +kernel
theorem dX8_passDay_3 : decode cX8_passDay 3 = .ok (.iconst 5, 1) := by decide +kernel
theorem dX8_passDay_4 : decode cX8_passDay 4 = .ok (.dup2, 1) := by decide +kernel
theorem dX8_passDay_5 : decode cX8_passDay 5 = .ok (.iaload, 1) := by decide +kernel
theorem dX8_passDay_6 : decode cX8_passDay 6 = .ok (.iconst 1, 1) := by decide +kernel
theorem dX8_passDay_7 : decode cX8_passDay 7 = .ok (.iadd, 1) := by decide +kernel
theorem dX8_passDay_8 : decode cX8_passDay 8 = .ok (.iastore, 1) := by decide +kernel
theorem dX8_passDay_9 : decode cX8_passDay 9 = .ok (.iconst 0, 1) := by decide +kernel
theorem dX8_passDay_10 : decode cX8_passDay 10 = .ok (.istore_n 3, 1) := by decide +kernel
theorem dX8_passDay_11 : decode cX8_passDay 11 = .ok (.iload_n 3, 1) := by decide +kernel
theorem dX8_passDay_12 : decode cX8_passDay 12 = .ok (.aload_n 1, 1) := by decide +kernel
theorem dX8_passDay_13 : decode cX8_passDay 13 = .ok (.iconst 4, 1) := by decide +kernel
theorem dX8_passDay_14 : decode cX8_passDay 14 = .ok (.iaload, 1) := by decide +kernel
theorem dX8_passDay_15 : decode cX8_passDay 15 = .ok (.if_icmp .ge 98, 3) := by decide +kernel
theorem dX8_passDay_18 : decode cX8_passDay 18 = .ok (.iload_n 3, 1) := by decide +kernel
theorem dX8_passDay_19 : decode cX8_passDay 19 = .ok (.invokestatic 180, 3) := by decide +kernel
theorem dX8_passDay_22 : decode cX8_passDay 22 = .ok (.istore 4, 2) := by decide +kernel
theorem dX8_passDay_24 : decode cX8_passDay 24 = .ok (.aload_n 1, 1) := by decide +kernel
theorem dX8_passDay_25 : decode cX8_passDay 25 = .ok (.iload 4, 2) := by decide +kernel
theorem dX8_passDay_27 : decode cX8_passDay 27 = .ok (.iconst 5, 1) := by decide +kernel
theorem dX8_passDay_28 : decode cX8_passDay 28 = .ok (.iadd, 1) := by decide +kernel
theorem dX8_passDay_29 : decode cX8_passDay 29 = .ok (.iaload, 1) := by decide +kernel
theorem dX8_passDay_30 : decode cX8_passDay 30 = .ok (.istore 5, 2) := by decide +kernel
theorem dX8_passDay_32 : decode cX8_passDay 32 = .ok (.aload_n 1, 1) := by decide +kernel
theorem dX8_passDay_33 : decode cX8_passDay 33 = .ok (.iload_n 3, 1) := by decide +kernel
theorem dX8_passDay_34 : decode cX8_passDay 34 = .ok (.invokestatic 215, 3) := by decide +kernel
theorem dX8_passDay_37 : decode cX8_passDay 37 = .ok (.ifCond .ne 70, 3) := by decide +kernel
theorem dX8_passDay_40 : decode cX8_passDay 40 = .ok (.aload_n 1, 1) := by decide +kernel
theorem dX8_passDay_41 : decode cX8_passDay 41 = .ok (.iload 4, 2) := by decide +kernel
theorem dX8_passDay_43 : decode cX8_passDay 43 = .ok (.bipush 6, 2) := by decide +kernel
theorem dX8_passDay_45 : decode cX8_passDay 45 = .ok (.iadd, 1) := by decide +kernel
theorem dX8_passDay_46 : decode cX8_passDay 46 = .ok (.iaload, 1) := by decide +kernel
theorem dX8_passDay_47 : decode cX8_passDay 47 = .ok (.aload_n 1, 1) := by decide +kernel
theorem dX8_passDay_48 : decode cX8_passDay 48 = .ok (.iconst 5, 1) := by decide +kernel
theorem dX8_passDay_49 : decode cX8_passDay 49 = .ok (.iaload, 1) := by decide +kernel
theorem dX8_passDay_50 : decode cX8_passDay 50 = .ok (.if_icmp .lt 6, 3) := by decide +kernel
theorem dX8_passDay_53 : decode cX8_passDay 53 = .ok (.goto 54, 3) := by decide +kernel
theorem dX8_passDay_56 : decode cX8_passDay 56 = .ok (.aload_n 1, 1) := by decide +kernel
theorem dX8_passDay_57 : decode cX8_passDay 57 = .ok (.iload_n 3, 1) := by decide +kernel
theorem dX8_passDay_58 : decode cX8_passDay 58 = .ok (.iload 5, 2) := by decide +kernel
theorem dX8_passDay_60 : decode cX8_passDay 60 = .ok (.iconst 1, 1) := by decide +kernel
theorem dX8_passDay_61 : decode cX8_passDay 61 = .ok (.if_icmp .eq 24, 3) := by decide +kernel
theorem dX8_passDay_64 : decode cX8_passDay 64 = .ok (.iload 5, 2) := by decide +kernel
theorem dX8_passDay_66 : decode cX8_passDay 66 = .ok (.iconst 3, 1) := by decide +kernel
theorem dX8_passDay_67 : decode cX8_passDay 67 = .ok (.if_icmp .ne 22, 3) := by decide +kernel
theorem dX8_passDay_70 : decode cX8_passDay 70 = .ok (.aload_n 0, 1) := by decide +kernel
theorem dX8_passDay_71 : decode cX8_passDay 71 = .ok (.aload_n 1, 1) := by decide +kernel
theorem dX8_passDay_72 : decode cX8_passDay 72 = .ok (.iload_n 3, 1) := by decide +kernel
theorem dX8_passDay_73 : decode cX8_passDay 73 = .ok (.aload_n 1, 1) := by decide +kernel
theorem dX8_passDay_74 : decode cX8_passDay 74 = .ok (.iload 4, 2) := by decide +kernel
theorem dX8_passDay_76 : decode cX8_passDay 76 = .ok (.iconst 4, 1) := by decide +kernel
theorem dX8_passDay_77 : decode cX8_passDay 77 = .ok (.iadd, 1) := by decide +kernel
theorem dX8_passDay_78 : decode cX8_passDay 78 = .ok (.iaload, 1) := by decide +kernel
theorem dX8_passDay_79 : decode cX8_passDay 79 = .ok (.invokevirtual 219, 3) := by decide +kernel
theorem dX8_passDay_82 : decode cX8_passDay 82 = .ok (.ifCond .eq 7, 3) := by decide +kernel
theorem dX8_passDay_85 : decode cX8_passDay 85 = .ok (.iconst 1, 1) := by decide +kernel
theorem dX8_passDay_86 : decode cX8_passDay 86 = .ok (.goto 4, 3) := by decide +kernel
theorem dX8_passDay_89 : decode cX8_passDay 89 = .ok (.iconst 0, 1) := by decide +kernel
theorem dX8_passDay_90 : decode cX8_passDay 90 = .ok (.iload 5, 2) := by decide +kernel
theorem dX8_passDay_92 : decode cX8_passDay 92 = .ok (.iconst 3, 1) := by decide +kernel
theorem dX8_passDay_93 : decode cX8_passDay 93 = .ok (.if_icmp .ne 7, 3) := by decide +kernel
theorem dX8_passDay_96 : decode cX8_passDay 96 = .ok (.iconst 1, 1) := by decide +kernel
theorem dX8_passDay_97 : decode cX8_passDay 97 = .ok (.goto 4, 3) := by decide +kernel
theorem dX8_passDay_100 : decode cX8_passDay 100 = .ok (.iconst 0, 1) := by decide +kernel
theorem dX8_passDay_101 : decode cX8_passDay 101 = .ok (.invokestatic 223, 3) := by decide +kernel
theorem dX8_passDay_104 : decode cX8_passDay 104 = .ok (.iinc 2 1, 3) := by decide +kernel
theorem dX8_passDay_107 : decode cX8_passDay 107 = .ok (.iinc 3 1, 3) := by decide +kernel
theorem dX8_passDay_110 : decode cX8_passDay 110 = .ok (.goto (-99), 3) := by decide +kernel
theorem dX8_passDay_113 : decode cX8_passDay 113 = .ok (.iload_n 2, 1) := by decide +kernel
theorem dX8_passDay_114 : decode cX8_passDay 114 = .ok (.ireturn, 1) := by decide +kernel
theorem dX8_noIssuer_0 : decode cX8_noIssuer 0 = .ok (.aload_n 0, 1) := by decide +kernel
theorem dX8_noIssuer_1 : decode cX8_noIssuer 1 = .ok (.iload_n 1, 1) := by decide +kernel
theorem dX8_noIssuer_2 : decode cX8_noIssuer 2 = .ok (.iconst 0, 1) := by decide +kernel
theorem dX8_noIssuer_3 : decode cX8_noIssuer 3 = .ok (.aload_n 0, 1) := by decide +kernel
theorem dX8_noIssuer_4 : decode cX8_noIssuer 4 = .ok (.getfield 17, 3) := by decide +kernel
theorem dX8_noIssuer_7 : decode cX8_noIssuer 7 = .ok (.iconst 0, 1) := by decide +kernel
theorem dX8_noIssuer_8 : decode cX8_noIssuer 8 = .ok (.iaload, 1) := by decide +kernel
theorem dX8_noIssuer_9 : decode cX8_noIssuer 9 = .ok (.iconst 1, 1) := by decide +kernel
theorem dX8_noIssuer_10 : decode cX8_noIssuer 10 = .ok (.isub, 1) := by decide +kernel
theorem dX8_noIssuer_11 : decode cX8_noIssuer 11 = .ok (.invokestatic 61, 3) := by decide +kernel
theorem dX8_noIssuer_14 : decode cX8_noIssuer 14 = .ok (.ifCond .ne 7, 3) := by decide +kernel
theorem dX8_noIssuer_17 : decode cX8_noIssuer 17 = .ok (.iconst 1, 1) := by decide +kernel
theorem dX8_noIssuer_18 : decode cX8_noIssuer 18 = .ok (.goto 4, 3) := by decide +kernel
theorem dX8_noIssuer_21 : decode cX8_noIssuer 21 = .ok (.iconst 0, 1) := by decide +kernel
theorem dX8_noIssuer_22 : decode cX8_noIssuer 22 = .ok (.iconst 1, 1) := by decide +kernel
theorem dX8_noIssuer_23 : decode cX8_noIssuer 23 = .ok (.invokevirtual 158, 3) := by decide +kernel
theorem dX8_noIssuer_26 : decode cX8_noIssuer 26 = .ok (.ireturn, 1) := by decide +kernel
theorem dX8_noMerchant_0 : decode cX8_noMerchant 0 = .ok (.aload_n 0, 1) := by decide +kernel
theorem dX8_noMerchant_1 : decode cX8_noMerchant 1 = .ok (.iload_n 1, 1) := by decide +kernel
theorem dX8_noMerchant_2 : decode cX8_noMerchant 2 = .ok (.iconst 0, 1) := by decide +kernel
theorem dX8_noMerchant_3 : decode cX8_noMerchant 3 = .ok (.aload_n 0, 1) := by decide +kernel
theorem dX8_noMerchant_4 : decode cX8_noMerchant 4 = .ok (.getfield 17, 3) := by decide +kernel
theorem dX8_noMerchant_7 : decode cX8_noMerchant 7 = .ok (.iconst 1, 1) := by decide +kernel
theorem dX8_noMerchant_8 : decode cX8_noMerchant 8 = .ok (.iaload, 1) := by decide +kernel
theorem dX8_noMerchant_9 : decode cX8_noMerchant 9 = .ok (.iconst 1, 1) := by decide +kernel
theorem dX8_noMerchant_10 : decode cX8_noMerchant 10 = .ok (.isub, 1) := by decide +kernel
theorem dX8_noMerchant_11 : decode cX8_noMerchant 11 = .ok (.invokestatic 61, 3) := by decide +kernel
theorem dX8_noMerchant_14 : decode cX8_noMerchant 14 = .ok (.ifCond .ne 7, 3) := by decide +kernel
theorem dX8_noMerchant_17 : decode cX8_noMerchant 17 = .ok (.iconst 1, 1) := by decide +kernel
theorem dX8_noMerchant_18 : decode cX8_noMerchant 18 = .ok (.goto 4, 3) := by decide +kernel
theorem dX8_noMerchant_21 : decode cX8_noMerchant 21 = .ok (.iconst 0, 1) := by decide +kernel
theorem dX8_noMerchant_22 : decode cX8_noMerchant 22 = .ok (.iconst 1, 1) := by decide +kernel
theorem dX8_noMerchant_23 : decode cX8_noMerchant 23 = .ok (.invokevirtual 158, 3) := by decide +kernel
theorem dX8_noMerchant_26 : decode cX8_noMerchant 26 = .ok (.ireturn, 1) := by decide +kernel
theorem dX8_noPurchase_0 : decode cX8_noPurchase 0 = .ok (.aload_n 0, 1) := by decide +kernel
theorem dX8_noPurchase_1 : decode cX8_noPurchase 1 = .ok (.iload_n 1, 1) := by decide +kernel
theorem dX8_noPurchase_2 : decode cX8_noPurchase 2 = .ok (.iconst 0, 1) := by decide +kernel
theorem dX8_noPurchase_3 : decode cX8_noPurchase 3 = .ok (.aload_n 0, 1) := by decide +kernel
theorem dX8_noPurchase_4 : decode cX8_noPurchase 4 = .ok (.getfield 17, 3) := by decide +kernel
theorem dX8_noPurchase_7 : decode cX8_noPurchase 7 = .ok (.iconst 3, 1) := by decide +kernel
theorem dX8_noPurchase_8 : decode cX8_noPurchase 8 = .ok (.iaload, 1) := by decide +kernel
theorem dX8_noPurchase_9 : decode cX8_noPurchase 9 = .ok (.iconst 1, 1) := by decide +kernel
theorem dX8_noPurchase_10 : decode cX8_noPurchase 10 = .ok (.isub, 1) := by decide +kernel
theorem dX8_noPurchase_11 : decode cX8_noPurchase 11 = .ok (.invokestatic 61, 3) := by decide +kernel
theorem dX8_noPurchase_14 : decode cX8_noPurchase 14 = .ok (.ifCond .ne 7, 3) := by decide +kernel
theorem dX8_noPurchase_17 : decode cX8_noPurchase 17 = .ok (.iconst 1, 1) := by decide +kernel
theorem dX8_noPurchase_18 : decode cX8_noPurchase 18 = .ok (.goto 4, 3) := by decide +kernel
theorem dX8_noPurchase_21 : decode cX8_noPurchase 21 = .ok (.iconst 0, 1) := by decide +kernel
theorem dX8_noPurchase_22 : decode cX8_noPurchase 22 = .ok (.iconst 1, 1) := by decide +kernel
theorem dX8_noPurchase_23 : decode cX8_noPurchase 23 = .ok (.invokevirtual 158, 3) := by decide +kernel
theorem dX8_noPurchase_26 : decode cX8_noPurchase 26 = .ok (.ireturn, 1) := by decide +kernel
theorem dX8_noDispute_0 : decode cX8_noDispute 0 = .ok (.aload_n 0, 1) := by decide +kernel
theorem dX8_noDispute_1 : decode cX8_noDispute 1 = .ok (.iload_n 1, 1) := by decide +kernel
theorem dX8_noDispute_2 : decode cX8_noDispute 2 = .ok (.iconst 0, 1) := by decide +kernel
theorem dX8_noDispute_3 : decode cX8_noDispute 3 = .ok (.aload_n 0, 1) := by decide +kernel
theorem dX8_noDispute_4 : decode cX8_noDispute 4 = .ok (.getfield 17, 3) := by decide +kernel
theorem dX8_noDispute_7 : decode cX8_noDispute 7 = .ok (.iconst 4, 1) := by decide +kernel
theorem dX8_noDispute_8 : decode cX8_noDispute 8 = .ok (.iaload, 1) := by decide +kernel
theorem dX8_noDispute_9 : decode cX8_noDispute 9 = .ok (.iconst 1, 1) := by decide +kernel
theorem dX8_noDispute_10 : decode cX8_noDispute 10 = .ok (.isub, 1) := by decide +kernel
theorem dX8_noDispute_11 : decode cX8_noDispute 11 = .ok (.invokestatic 61, 3) := by decide +kernel
theorem dX8_noDispute_14 : decode cX8_noDispute 14 = .ok (.ifCond .ne 7, 3) := by decide +kernel
theorem dX8_noDispute_17 : decode cX8_noDispute 17 = .ok (.iconst 1, 1) := by decide +kernel
theorem dX8_noDispute_18 : decode cX8_noDispute 18 = .ok (.goto 4, 3) := by decide +kernel
theorem dX8_noDispute_21 : decode cX8_noDispute 21 = .ok (.iconst 0, 1) := by decide +kernel
theorem dX8_noDispute_22 : decode cX8_noDispute 22 = .ok (.iconst 1, 1) := by decide +kernel
theorem dX8_noDispute_23 : decode cX8_noDispute 23 = .ok (.invokevirtual 158, 3) := by decide +kernel
theorem dX8_noDispute_26 : decode cX8_noDispute 26 = .ok (.ireturn, 1) := by decide +kernel
theorem dX8_issuerCount_0 : decode cX8_issuerCount 0 = .ok (.aload_n 0, 1) := by decide +kernel
theorem dX8_issuerCount_1 : decode cX8_issuerCount 1 = .ok (.iconst 0, 1) := by decide +kernel
theorem dX8_issuerCount_2 : decode cX8_issuerCount 2 = .ok (.putfield 39, 3) := by decide +kernel
theorem dX8_issuerCount_5 : decode cX8_issuerCount 5 = .ok (.aload_n 0, 1) := by decide +kernel
theorem dX8_issuerCount_6 : decode cX8_issuerCount 6 = .ok (.getfield 17, 3) := by decide +kernel
theorem dX8_issuerCount_9 : decode cX8_issuerCount 9 = .ok (.iconst 0, 1) := by decide +kernel
theorem dX8_issuerCount_10 : decode cX8_issuerCount 10 = .ok (.iaload, 1) := by decide +kernel
theorem dX8_issuerCount_11 : decode cX8_issuerCount 11 = .ok (.ireturn, 1) := by decide +kernel
theorem dX8_merchantCount_0 : decode cX8_merchantCount 0 = .ok (.aload_n 0, 1) := by decide +kernel
theorem dX8_merchantCount_1 : decode cX8_merchantCount 1 = .ok (.iconst 0, 1) := by decide +kernel
theorem dX8_merchantCount_2 : decode cX8_merchantCount 2 = .ok (.putfield 39, 3) := by decide +kernel
theorem dX8_merchantCount_5 : decode cX8_merchantCount 5 = .ok (.aload_n 0, 1) := by decide +kernel
theorem dX8_merchantCount_6 : decode cX8_merchantCount 6 = .ok (.getfield 17, 3) := by decide +kernel
theorem dX8_merchantCount_9 : decode cX8_merchantCount 9 = .ok (.iconst 1, 1) := by decide +kernel
theorem dX8_merchantCount_10 : decode cX8_merchantCount 10 = .ok (.iaload, 1) := by decide +kernel
theorem dX8_merchantCount_11 : decode cX8_merchantCount 11 = .ok (.ireturn, 1) := by decide +kernel
theorem dX8_reasonCount_0 : decode cX8_reasonCount 0 = .ok (.aload_n 0, 1) := by decide +kernel
theorem dX8_reasonCount_1 : decode cX8_reasonCount 1 = .ok (.iconst 0, 1) := by decide +kernel
theorem dX8_reasonCount_2 : decode cX8_reasonCount 2 = .ok (.putfield 39, 3) := by decide +kernel
theorem dX8_reasonCount_5 : decode cX8_reasonCount 5 = .ok (.aload_n 0, 1) := by decide +kernel
theorem dX8_reasonCount_6 : decode cX8_reasonCount 6 = .ok (.getfield 17, 3) := by decide +kernel
theorem dX8_reasonCount_9 : decode cX8_reasonCount 9 = .ok (.iconst 2, 1) := by decide +kernel
theorem dX8_reasonCount_10 : decode cX8_reasonCount 10 = .ok (.iaload, 1) := by decide +kernel
theorem dX8_reasonCount_11 : decode cX8_reasonCount 11 = .ok (.ireturn, 1) := by decide +kernel
theorem dX8_purchaseCount_0 : decode cX8_purchaseCount 0 = .ok (.aload_n 0, 1) := by decide +kernel
theorem dX8_purchaseCount_1 : decode cX8_purchaseCount 1 = .ok (.iconst 0, 1) := by decide +kernel
theorem dX8_purchaseCount_2 : decode cX8_purchaseCount 2 = .ok (.putfield 39, 3) := by decide +kernel
theorem dX8_purchaseCount_5 : decode cX8_purchaseCount 5 = .ok (.aload_n 0, 1) := by decide +kernel
theorem dX8_purchaseCount_6 : decode cX8_purchaseCount 6 = .ok (.getfield 17, 3) := by decide +kernel
theorem dX8_purchaseCount_9 : decode cX8_purchaseCount 9 = .ok (.iconst 3, 1) := by decide +kernel
theorem dX8_purchaseCount_10 : decode cX8_purchaseCount 10 = .ok (.iaload, 1) := by decide +kernel
theorem dX8_purchaseCount_11 : decode cX8_purchaseCount 11 = .ok (.ireturn, 1) := by decide +kernel
theorem dX8_disputeCount_0 : decode cX8_disputeCount 0 = .ok (.aload_n 0, 1) := by decide +kernel
theorem dX8_disputeCount_1 : decode cX8_disputeCount 1 = .ok (.iconst 0, 1) := by decide +kernel
theorem dX8_disputeCount_2 : decode cX8_disputeCount 2 = .ok (.putfield 39, 3) := by decide +kernel
theorem dX8_disputeCount_5 : decode cX8_disputeCount 5 = .ok (.aload_n 0, 1) := by decide +kernel
theorem dX8_disputeCount_6 : decode cX8_disputeCount 6 = .ok (.getfield 17, 3) := by decide +kernel
theorem dX8_disputeCount_9 : decode cX8_disputeCount 9 = .ok (.iconst 4, 1) := by decide +kernel
theorem dX8_disputeCount_10 : decode cX8_disputeCount 10 = .ok (.iaload, 1) := by decide +kernel
theorem dX8_disputeCount_11 : decode cX8_disputeCount 11 = .ok (.ireturn, 1) := by decide +kernel
theorem dX8_today_0 : decode cX8_today 0 = .ok (.aload_n 0, 1) := by decide +kernel
theorem dX8_today_1 : decode cX8_today 1 = .ok (.iconst 0, 1) := by decide +kernel
theorem dX8_today_2 : decode cX8_today 2 = .ok (.putfield 39, 3) := by decide +kernel
theorem dX8_today_5 : decode cX8_today 5 = .ok (.aload_n 0, 1) := by decide +kernel
theorem dX8_today_6 : decode cX8_today 6 = .ok (.getfield 17, 3) := by decide +kernel
theorem dX8_today_9 : decode cX8_today 9 = .ok (.iconst 5, 1) := by decide +kernel
theorem dX8_today_10 : decode cX8_today 10 = .ok (.iaload, 1) := by decide +kernel
theorem dX8_today_11 : decode cX8_today 11 = .ok (.ireturn, 1) := by decide +kernel
theorem dX8_reasonOf_0 : decode cX8_reasonOf 0 = .ok (.aload_n 0, 1) := by decide +kernel
theorem dX8_reasonOf_1 : decode cX8_reasonOf 1 = .ok (.iconst 0, 1) := by decide +kernel
theorem dX8_reasonOf_2 : decode cX8_reasonOf 2 = .ok (.putfield 39, 3) := by decide +kernel
theorem dX8_reasonOf_5 : decode cX8_reasonOf 5 = .ok (.iconst 0, 1) := by decide +kernel
theorem dX8_reasonOf_6 : decode cX8_reasonOf 6 = .ok (.istore_n 2, 1) := by decide +kernel
theorem dX8_reasonOf_7 : decode cX8_reasonOf 7 = .ok (.iload_n 2, 1) := by decide +kernel
theorem dX8_reasonOf_8 : decode cX8_reasonOf 8 = .ok (.aload_n 0, 1) := by decide +kernel
theorem dX8_reasonOf_9 : decode cX8_reasonOf 9 = .ok (.getfield 17, 3) := by decide +kernel
theorem dX8_reasonOf_12 : decode cX8_reasonOf 12 = .ok (.iconst 2, 1) := by decide +kernel
theorem dX8_reasonOf_13 : decode cX8_reasonOf 13 = .ok (.iaload, 1) := by decide +kernel
theorem dX8_reasonOf_14 : decode cX8_reasonOf 14 = .ok (.if_icmp .ge 24, 3) := by decide +kernel
theorem dX8_reasonOf_17 : decode cX8_reasonOf 17 = .ok (.aload_n 0, 1) := by decide +kernel
theorem dX8_reasonOf_18 : decode cX8_reasonOf 18 = .ok (.getfield 17, 3) := by decide +kernel
theorem dX8_reasonOf_21 : decode cX8_reasonOf 21 = .ok (.iload_n 2, 1) := by decide +kernel
theorem dX8_reasonOf_22 : decode cX8_reasonOf 22 = .ok (.invokestatic 135, 3) := by decide +kernel
theorem dX8_reasonOf_25 : decode cX8_reasonOf 25 = .ok (.iaload, 1) := by decide +kernel
theorem dX8_reasonOf_26 : decode cX8_reasonOf 26 = .ok (.iload_n 1, 1) := by decide +kernel
theorem dX8_reasonOf_27 : decode cX8_reasonOf 27 = .ok (.if_icmp .ne 5, 3) := by decide +kernel
theorem dX8_reasonOf_30 : decode cX8_reasonOf 30 = .ok (.iload_n 2, 1) := by decide +kernel
theorem dX8_reasonOf_31 : decode cX8_reasonOf 31 = .ok (.ireturn, 1) := by decide +kernel
theorem dX8_reasonOf_32 : decode cX8_reasonOf 32 = .ok (.iinc 2 1, 3) := by decide +kernel
theorem dX8_reasonOf_35 : decode cX8_reasonOf 35 = .ok (.goto (-28), 3) := by decide +kernel
theorem dX8_reasonOf_38 : decode cX8_reasonOf 38 = .ok (.iconst (-1), 1) := by decide +kernel
theorem dX8_reasonOf_39 : decode cX8_reasonOf 39 = .ok (.ireturn, 1) := by decide +kernel
theorem dX8_issuerAccount_0 : decode cX8_issuerAccount 0 = .ok (.aload_n 0, 1) := by decide +kernel
theorem dX8_issuerAccount_1 : decode cX8_issuerAccount 1 = .ok (.iconst 0, 1) := by decide +kernel
theorem dX8_issuerAccount_2 : decode cX8_issuerAccount 2 = .ok (.putfield 39, 3) := by decide +kernel
theorem dX8_issuerAccount_5 : decode cX8_issuerAccount 5 = .ok (.aload_n 0, 1) := by decide +kernel
theorem dX8_issuerAccount_6 : decode cX8_issuerAccount 6 = .ok (.iload_n 1, 1) := by decide +kernel
theorem dX8_issuerAccount_7 : decode cX8_issuerAccount 7 = .ok (.invokevirtual 227, 3) := by decide +kernel
theorem dX8_issuerAccount_10 : decode cX8_issuerAccount 10 = .ok (.ifCond .eq 7, 3) := by decide +kernel
theorem dX8_issuerAccount_13 : decode cX8_issuerAccount 13 = .ok (.iconst 0, 1) := by decide +kernel
theorem dX8_issuerAccount_14 : decode cX8_issuerAccount 14 = .ok (.goto 12, 3) := by decide +kernel
theorem dX8_issuerAccount_17 : decode cX8_issuerAccount 17 = .ok (.aload_n 0, 1) := by decide +kernel
theorem dX8_issuerAccount_18 : decode cX8_issuerAccount 18 = .ok (.getfield 17, 3) := by decide +kernel
theorem dX8_issuerAccount_21 : decode cX8_issuerAccount 21 = .ok (.bipush 12, 2) := by decide +kernel
theorem dX8_issuerAccount_23 : decode cX8_issuerAccount 23 = .ok (.iload_n 1, 1) := by decide +kernel
theorem dX8_issuerAccount_24 : decode cX8_issuerAccount 24 = .ok (.iadd, 1) := by decide +kernel
theorem dX8_issuerAccount_25 : decode cX8_issuerAccount 25 = .ok (.iaload, 1) := by decide +kernel
theorem dX8_issuerAccount_26 : decode cX8_issuerAccount 26 = .ok (.ireturn, 1) := by decide +kernel
theorem dX8_merchantAccount_0 : decode cX8_merchantAccount 0 = .ok (.aload_n 0, 1) := by decide +kernel
theorem dX8_merchantAccount_1 : decode cX8_merchantAccount 1 = .ok (.iconst 0, 1) := by decide +kernel
theorem dX8_merchantAccount_2 : decode cX8_merchantAccount 2 = .ok (.putfield 39, 3) := by decide +kernel
theorem dX8_merchantAccount_5 : decode cX8_merchantAccount 5 = .ok (.aload_n 0, 1) := by decide +kernel
theorem dX8_merchantAccount_6 : decode cX8_merchantAccount 6 = .ok (.iload_n 1, 1) := by decide +kernel
theorem dX8_merchantAccount_7 : decode cX8_merchantAccount 7 = .ok (.invokevirtual 230, 3) := by decide +kernel
theorem dX8_merchantAccount_10 : decode cX8_merchantAccount 10 = .ok (.ifCond .eq 7, 3) := by decide +kernel
theorem dX8_merchantAccount_13 : decode cX8_merchantAccount 13 = .ok (.iconst 0, 1) := by decide +kernel
theorem dX8_merchantAccount_14 : decode cX8_merchantAccount 14 = .ok (.goto 12, 3) := by decide +kernel
theorem dX8_merchantAccount_17 : decode cX8_merchantAccount 17 = .ok (.aload_n 0, 1) := by decide +kernel
theorem dX8_merchantAccount_18 : decode cX8_merchantAccount 18 = .ok (.getfield 17, 3) := by decide +kernel
theorem dX8_merchantAccount_21 : decode cX8_merchantAccount 21 = .ok (.bipush 16, 2) := by decide +kernel
theorem dX8_merchantAccount_23 : decode cX8_merchantAccount 23 = .ok (.iload_n 1, 1) := by decide +kernel
theorem dX8_merchantAccount_24 : decode cX8_merchantAccount 24 = .ok (.iadd, 1) := by decide +kernel
theorem dX8_merchantAccount_25 : decode cX8_merchantAccount 25 = .ok (.iaload, 1) := by decide +kernel
theorem dX8_merchantAccount_26 : decode cX8_merchantAccount 26 = .ok (.ireturn, 1) := by decide +kernel
theorem dX8_networkAccount_0 : decode cX8_networkAccount 0 = .ok (.aload_n 0, 1) := by decide +kernel
theorem dX8_networkAccount_1 : decode cX8_networkAccount 1 = .ok (.iconst 0, 1) := by decide +kernel
theorem dX8_networkAccount_2 : decode cX8_networkAccount 2 = .ok (.putfield 39, 3) := by decide +kernel
theorem dX8_networkAccount_5 : decode cX8_networkAccount 5 = .ok (.aload_n 0, 1) := by decide +kernel
theorem dX8_networkAccount_6 : decode cX8_networkAccount 6 = .ok (.getfield 17, 3) := by decide +kernel
theorem dX8_networkAccount_9 : decode cX8_networkAccount 9 = .ok (.bipush 11, 2) := by decide +kernel
theorem dX8_networkAccount_11 : decode cX8_networkAccount 11 = .ok (.iaload, 1) := by decide +kernel
theorem dX8_networkAccount_12 : decode cX8_networkAccount 12 = .ok (.ireturn, 1) := by decide +kernel
theorem dX8_disputedOf_0 : decode cX8_disputedOf 0 = .ok (.iconst 0, 1) := by decide +kernel
theorem dX8_disputedOf_1 : decode cX8_disputedOf 1 = .ok (.istore_n 2, 1) := by decide +kernel
theorem dX8_disputedOf_2 : decode cX8_disputedOf 2 = .ok (.iconst 0, 1) := by decide +kernel
theorem dX8_disputedOf_3 : decode cX8_disputedOf 3 = .ok (.istore_n 3, 1) := by decide +kernel
theorem dX8_disputedOf_4 : decode cX8_disputedOf 4 = .ok (.iload_n 3, 1) := by decide +kernel
theorem dX8_disputedOf_5 : decode cX8_disputedOf 5 = .ok (.aload_n 0, 1) := by decide +kernel
theorem dX8_disputedOf_6 : decode cX8_disputedOf 6 = .ok (.getfield 17, 3) := by decide +kernel
theorem dX8_disputedOf_9 : decode cX8_disputedOf 9 = .ok (.iconst 4, 1) := by decide +kernel
theorem dX8_disputedOf_10 : decode cX8_disputedOf 10 = .ok (.iaload, 1) := by decide +kernel
theorem dX8_disputedOf_11 : decode cX8_disputedOf 11 = .ok (.if_icmp .ge 55, 3) := by decide +kernel
theorem dX8_disputedOf_14 : decode cX8_disputedOf 14 = .ok (.iload_n 2, 1) := by decide +kernel
theorem dX8_disputedOf_15 : decode cX8_disputedOf 15 = .ok (.aload_n 0, 1) := by decide +kernel
theorem dX8_disputedOf_16 : decode cX8_disputedOf 16 = .ok (.getfield 17, 3) := by decide +kernel
theorem dX8_disputedOf_19 : decode cX8_disputedOf 19 = .ok (.iload_n 3, 1) := by decide +kernel
theorem dX8_disputedOf_20 : decode cX8_disputedOf 20 = .ok (.invokestatic 180, 3) := by decide +kernel
theorem dX8_disputedOf_23 : decode cX8_disputedOf 23 = .ok (.iaload, 1) := by decide +kernel
theorem dX8_disputedOf_24 : decode cX8_disputedOf 24 = .ok (.iload_n 1, 1) := by decide +kernel
theorem dX8_disputedOf_25 : decode cX8_disputedOf 25 = .ok (.if_icmp .ne 32, 3) := by decide +kernel
theorem dX8_disputedOf_28 : decode cX8_disputedOf 28 = .ok (.aload_n 0, 1) := by decide +kernel
theorem dX8_disputedOf_29 : decode cX8_disputedOf 29 = .ok (.getfield 17, 3) := by decide +kernel
theorem dX8_disputedOf_32 : decode cX8_disputedOf 32 = .ok (.iload_n 3, 1) := by decide +kernel
theorem dX8_disputedOf_33 : decode cX8_disputedOf 33 = .ok (.invokestatic 180, 3) := by decide +kernel
theorem dX8_disputedOf_36 : decode cX8_disputedOf 36 = .ok (.iconst 5, 1) := by decide +kernel
theorem dX8_disputedOf_37 : decode cX8_disputedOf 37 = .ok (.iadd, 1) := by decide +kernel
theorem dX8_disputedOf_38 : decode cX8_disputedOf 38 = .ok (.iaload, 1) := by decide +kernel
theorem dX8_disputedOf_39 : decode cX8_disputedOf 39 = .ok (.iconst 5, 1) := by decide +kernel
theorem dX8_disputedOf_40 : decode cX8_disputedOf 40 = .ok (.if_icmp .eq 17, 3) := by decide +kernel
theorem dX8_disputedOf_43 : decode cX8_disputedOf 43 = .ok (.aload_n 0, 1) := by decide +kernel
theorem dX8_disputedOf_44 : decode cX8_disputedOf 44 = .ok (.getfield 17, 3) := by decide +kernel
theorem dX8_disputedOf_47 : decode cX8_disputedOf 47 = .ok (.iload_n 3, 1) := by decide +kernel
theorem dX8_disputedOf_48 : decode cX8_disputedOf 48 = .ok (.invokestatic 180, 3) := by decide +kernel
theorem dX8_disputedOf_51 : decode cX8_disputedOf 51 = .ok (.iconst 2, 1) := by decide +kernel
theorem dX8_disputedOf_52 : decode cX8_disputedOf 52 = .ok (.iadd, 1) := by decide +kernel
theorem dX8_disputedOf_53 : decode cX8_disputedOf 53 = .ok (.iaload, 1) := by decide +kernel
theorem dX8_disputedOf_54 : decode cX8_disputedOf 54 = .ok (.goto 4, 3) := by decide +kernel
theorem dX8_disputedOf_57 : decode cX8_disputedOf 57 = .ok (.iconst 0, 1) := by decide +kernel
theorem dX8_disputedOf_58 : decode cX8_disputedOf 58 = .ok (.iadd, 1) := by decide +kernel
theorem dX8_disputedOf_59 : decode cX8_disputedOf 59 = .ok (.istore_n 2, 1) := by decide +kernel
theorem dX8_disputedOf_60 : decode cX8_disputedOf 60 = .ok (.iinc 3 1, 3) := by decide +kernel
theorem dX8_disputedOf_63 : decode cX8_disputedOf 63 = .ok (.goto (-59), 3) := by decide +kernel
theorem dX8_disputedOf_66 : decode cX8_disputedOf 66 = .ok (.iload_n 2, 1) := by decide +kernel
theorem dX8_disputedOf_67 : decode cX8_disputedOf 67 = .ok (.ireturn, 1) := by decide +kernel
theorem dX8_disputed_0 : decode cX8_disputed 0 = .ok (.aload_n 0, 1) := by decide +kernel
theorem dX8_disputed_1 : decode cX8_disputed 1 = .ok (.iconst 0, 1) := by decide +kernel
theorem dX8_disputed_2 : decode cX8_disputed 2 = .ok (.putfield 39, 3) := by decide +kernel
theorem dX8_disputed_5 : decode cX8_disputed 5 = .ok (.aload_n 0, 1) := by decide +kernel
theorem dX8_disputed_6 : decode cX8_disputed 6 = .ok (.iload_n 1, 1) := by decide +kernel
theorem dX8_disputed_7 : decode cX8_disputed 7 = .ok (.invokevirtual 233, 3) := by decide +kernel
theorem dX8_disputed_10 : decode cX8_disputed 10 = .ok (.ifCond .eq 7, 3) := by decide +kernel
theorem dX8_disputed_13 : decode cX8_disputed 13 = .ok (.iconst 0, 1) := by decide +kernel
theorem dX8_disputed_14 : decode cX8_disputed 14 = .ok (.goto 8, 3) := by decide +kernel
theorem dX8_disputed_17 : decode cX8_disputed 17 = .ok (.aload_n 0, 1) := by decide +kernel
theorem dX8_disputed_18 : decode cX8_disputed 18 = .ok (.iload_n 1, 1) := by decide +kernel
theorem dX8_disputed_19 : decode cX8_disputed 19 = .ok (.invokevirtual 236, 3) := by decide +kernel
theorem dX8_disputed_22 : decode cX8_disputed 22 = .ok (.ireturn, 1) := by decide +kernel
theorem dX8_state_0 : decode cX8_state 0 = .ok (.aload_n 0, 1) := by decide +kernel
theorem dX8_state_1 : decode cX8_state 1 = .ok (.iconst 0, 1) := by decide +kernel
theorem dX8_state_2 : decode cX8_state 2 = .ok (.putfield 39, 3) := by decide +kernel
theorem dX8_state_5 : decode cX8_state 5 = .ok (.aload_n 0, 1) := by decide +kernel
theorem dX8_state_6 : decode cX8_state 6 = .ok (.iload_n 1, 1) := by decide +kernel
theorem dX8_state_7 : decode cX8_state 7 = .ok (.invokevirtual 239, 3) := by decide +kernel
theorem dX8_state_10 : decode cX8_state 10 = .ok (.ifCond .eq 7, 3) := by decide +kernel
theorem dX8_state_13 : decode cX8_state 13 = .ok (.iconst 0, 1) := by decide +kernel
theorem dX8_state_14 : decode cX8_state 14 = .ok (.goto 14, 3) := by decide +kernel
theorem dX8_state_17 : decode cX8_state 17 = .ok (.aload_n 0, 1) := by decide +kernel
theorem dX8_state_18 : decode cX8_state 18 = .ok (.getfield 17, 3) := by decide +kernel
theorem dX8_state_21 : decode cX8_state 21 = .ok (.iload_n 1, 1) := by decide +kernel
theorem dX8_state_22 : decode cX8_state 22 = .ok (.invokestatic 180, 3) := by decide +kernel
theorem dX8_state_25 : decode cX8_state 25 = .ok (.iconst 5, 1) := by decide +kernel
theorem dX8_state_26 : decode cX8_state 26 = .ok (.iadd, 1) := by decide +kernel
theorem dX8_state_27 : decode cX8_state 27 = .ok (.iaload, 1) := by decide +kernel
theorem dX8_state_28 : decode cX8_state 28 = .ok (.ireturn, 1) := by decide +kernel
theorem dX8_deadline_0 : decode cX8_deadline 0 = .ok (.aload_n 0, 1) := by decide +kernel
theorem dX8_deadline_1 : decode cX8_deadline 1 = .ok (.iconst 0, 1) := by decide +kernel
theorem dX8_deadline_2 : decode cX8_deadline 2 = .ok (.putfield 39, 3) := by decide +kernel
theorem dX8_deadline_5 : decode cX8_deadline 5 = .ok (.aload_n 0, 1) := by decide +kernel
theorem dX8_deadline_6 : decode cX8_deadline 6 = .ok (.iload_n 1, 1) := by decide +kernel
theorem dX8_deadline_7 : decode cX8_deadline 7 = .ok (.invokevirtual 239, 3) := by decide +kernel
theorem dX8_deadline_10 : decode cX8_deadline 10 = .ok (.ifCond .eq 7, 3) := by decide +kernel
theorem dX8_deadline_13 : decode cX8_deadline 13 = .ok (.iconst 0, 1) := by decide +kernel
theorem dX8_deadline_14 : decode cX8_deadline 14 = .ok (.goto 15, 3) := by decide +kernel
theorem dX8_deadline_17 : decode cX8_deadline 17 = .ok (.aload_n 0, 1) := by decide +kernel
theorem dX8_deadline_18 : decode cX8_deadline 18 = .ok (.getfield 17, 3) := by decide +kernel
theorem dX8_deadline_21 : decode cX8_deadline 21 = .ok (.iload_n 1, 1) := by decide +kernel
theorem dX8_deadline_22 : decode cX8_deadline 22 = .ok (.invokestatic 180, 3) := by decide +kernel
theorem dX8_deadline_25 : decode cX8_deadline 25 = .ok (.bipush 6, 2) := by decide +kernel
theorem dX8_deadline_27 : decode cX8_deadline 27 = .ok (.iadd, 1) := by decide +kernel
theorem dX8_deadline_28 : decode cX8_deadline 28 = .ok (.iaload, 1) := by decide +kernel
theorem dX8_deadline_29 : decode cX8_deadline 29 = .ok (.ireturn, 1) := by decide +kernel
theorem dX8_evidence_0 : decode cX8_evidence 0 = .ok (.aload_n 0, 1) := by decide +kernel
theorem dX8_evidence_1 : decode cX8_evidence 1 = .ok (.iconst 0, 1) := by decide +kernel
theorem dX8_evidence_2 : decode cX8_evidence 2 = .ok (.putfield 39, 3) := by decide +kernel
theorem dX8_evidence_5 : decode cX8_evidence 5 = .ok (.aload_n 0, 1) := by decide +kernel
theorem dX8_evidence_6 : decode cX8_evidence 6 = .ok (.iload_n 1, 1) := by decide +kernel
theorem dX8_evidence_7 : decode cX8_evidence 7 = .ok (.invokevirtual 239, 3) := by decide +kernel
theorem dX8_evidence_10 : decode cX8_evidence 10 = .ok (.ifCond .eq 7, 3) := by decide +kernel
theorem dX8_evidence_13 : decode cX8_evidence 13 = .ok (.iconst 0, 1) := by decide +kernel
theorem dX8_evidence_14 : decode cX8_evidence 14 = .ok (.goto 14, 3) := by decide +kernel
theorem dX8_evidence_17 : decode cX8_evidence 17 = .ok (.aload_n 0, 1) := by decide +kernel
theorem dX8_evidence_18 : decode cX8_evidence 18 = .ok (.getfield 17, 3) := by decide +kernel
theorem dX8_evidence_21 : decode cX8_evidence 21 = .ok (.iload_n 1, 1) := by decide +kernel
theorem dX8_evidence_22 : decode cX8_evidence 22 = .ok (.invokestatic 180, 3) := by decide +kernel
theorem dX8_evidence_25 : decode cX8_evidence 25 = .ok (.iconst 4, 1) := by decide +kernel
theorem dX8_evidence_26 : decode cX8_evidence 26 = .ok (.iadd, 1) := by decide +kernel
theorem dX8_evidence_27 : decode cX8_evidence 27 = .ok (.iaload, 1) := by decide +kernel
theorem dX8_evidence_28 : decode cX8_evidence 28 = .ok (.ireturn, 1) := by decide +kernel
theorem dX8_isWithMerchant_0 : decode cX8_isWithMerchant 0 = .ok (.aload_n 0, 1) := by decide +kernel
theorem dX8_isWithMerchant_1 : decode cX8_isWithMerchant 1 = .ok (.iconst 0, 1) := by decide +kernel
theorem dX8_isWithMerchant_2 : decode cX8_isWithMerchant 2 = .ok (.putfield 39, 3) := by decide +kernel
theorem dX8_isWithMerchant_5 : decode cX8_isWithMerchant 5 = .ok (.aload_n 0, 1) := by decide +kernel
theorem dX8_isWithMerchant_6 : decode cX8_isWithMerchant 6 = .ok (.iload_n 1, 1) := by decide +kernel
theorem dX8_isWithMerchant_7 : decode cX8_isWithMerchant 7 = .ok (.invokevirtual 239, 3) := by decide +kernel
theorem dX8_isWithMerchant_10 : decode cX8_isWithMerchant 10 = .ok (.ifCond .ne 23, 3) := by decide +kernel
theorem dX8_isWithMerchant_13 : decode cX8_isWithMerchant 13 = .ok (.aload_n 0, 1) := by decide +kernel
theorem dX8_isWithMerchant_14 : decode cX8_isWithMerchant 14 = .ok (.getfield 17, 3) := by decide +kernel
theorem dX8_isWithMerchant_17 : decode cX8_isWithMerchant 17 = .ok (.iload_n 1, 1) := by decide +kernel
theorem dX8_isWithMerchant_18 : decode cX8_isWithMerchant 18 = .ok (.invokestatic 180, 3) := by decide +kernel
theorem dX8_isWithMerchant_21 : decode cX8_isWithMerchant 21 = .ok (.bipush 7, 2) := by decide +kernel
theorem dX8_isWithMerchant_23 : decode cX8_isWithMerchant 23 = .ok (.iadd, 1) := by decide +kernel
theorem dX8_isWithMerchant_24 : decode cX8_isWithMerchant 24 = .ok (.iaload, 1) := by decide +kernel
theorem dX8_isWithMerchant_25 : decode cX8_isWithMerchant 25 = .ok (.iconst 1, 1) := by decide +kernel
theorem dX8_isWithMerchant_26 : decode cX8_isWithMerchant 26 = .ok (.if_icmp .ne 7, 3) := by decide +kernel
theorem dX8_isWithMerchant_29 : decode cX8_isWithMerchant 29 = .ok (.iconst 1, 1) := by decide +kernel
theorem dX8_isWithMerchant_30 : decode cX8_isWithMerchant 30 = .ok (.goto 4, 3) := by decide +kernel
theorem dX8_isWithMerchant_33 : decode cX8_isWithMerchant 33 = .ok (.iconst 0, 1) := by decide +kernel
theorem dX8_isWithMerchant_34 : decode cX8_isWithMerchant 34 = .ok (.ireturn, 1) := by decide +kernel
theorem dX8_score_0 : decode cX8_score 0 = .ok (.aload_n 0, 1) := by decide +kernel
theorem dX8_score_1 : decode cX8_score 1 = .ok (.iconst 0, 1) := by decide +kernel
theorem dX8_score_2 : decode cX8_score 2 = .ok (.putfield 39, 3) := by decide +kernel
theorem dX8_score_5 : decode cX8_score 5 = .ok (.aload_n 0, 1) := by decide +kernel
theorem dX8_score_6 : decode cX8_score 6 = .ok (.iload_n 1, 1) := by decide +kernel
theorem dX8_score_7 : decode cX8_score 7 = .ok (.invokevirtual 239, 3) := by decide +kernel
theorem dX8_score_10 : decode cX8_score 10 = .ok (.ifCond .eq 7, 3) := by decide +kernel
theorem dX8_score_13 : decode cX8_score 13 = .ok (.iconst 0, 1) := by decide +kernel
theorem dX8_score_14 : decode cX8_score 14 = .ok (.goto 23, 3) := by decide +kernel
theorem dX8_score_17 : decode cX8_score 17 = .ok (.aload_n 0, 1) := by decide +kernel
theorem dX8_score_18 : decode cX8_score 18 = .ok (.aload_n 0, 1) := by decide +kernel
theorem dX8_score_19 : decode cX8_score 19 = .ok (.getfield 17, 3) := by decide +kernel
theorem dX8_score_22 : decode cX8_score 22 = .ok (.iload_n 1, 1) := by decide +kernel
theorem dX8_score_23 : decode cX8_score 23 = .ok (.aload_n 0, 1) := by decide +kernel
theorem dX8_score_24 : decode cX8_score 24 = .ok (.getfield 17, 3) := by decide +kernel
theorem dX8_score_27 : decode cX8_score 27 = .ok (.iload_n 1, 1) := by decide +kernel
theorem dX8_score_28 : decode cX8_score 28 = .ok (.invokestatic 180, 3) := by decide +kernel
theorem dX8_score_31 : decode cX8_score 31 = .ok (.iconst 4, 1) := by decide +kernel
theorem dX8_score_32 : decode cX8_score 32 = .ok (.iadd, 1) := by decide +kernel
theorem dX8_score_33 : decode cX8_score 33 = .ok (.iaload, 1) := by decide +kernel
theorem dX8_score_34 : decode cX8_score 34 = .ok (.invokevirtual 197, 3) := by decide +kernel
theorem dX8_score_37 : decode cX8_score 37 = .ok (.ireturn, 1) := by decide +kernel
theorem dX8_wouldWin_0 : decode cX8_wouldWin 0 = .ok (.aload_n 0, 1) := by decide +kernel
theorem dX8_wouldWin_1 : decode cX8_wouldWin 1 = .ok (.iconst 0, 1) := by decide +kernel
theorem dX8_wouldWin_2 : decode cX8_wouldWin 2 = .ok (.putfield 39, 3) := by decide +kernel
theorem dX8_wouldWin_5 : decode cX8_wouldWin 5 = .ok (.aload_n 0, 1) := by decide +kernel
theorem dX8_wouldWin_6 : decode cX8_wouldWin 6 = .ok (.iload_n 1, 1) := by decide +kernel
theorem dX8_wouldWin_7 : decode cX8_wouldWin 7 = .ok (.invokevirtual 239, 3) := by decide +kernel
theorem dX8_wouldWin_10 : decode cX8_wouldWin 10 = .ok (.ifCond .ne 44, 3) := by decide +kernel
theorem dX8_wouldWin_13 : decode cX8_wouldWin 13 = .ok (.aload_n 0, 1) := by decide +kernel
theorem dX8_wouldWin_14 : decode cX8_wouldWin 14 = .ok (.iload_n 2, 1) := by decide +kernel
theorem dX8_wouldWin_15 : decode cX8_wouldWin 15 = .ok (.iconst 0, 1) := by decide +kernel
theorem dX8_wouldWin_16 : decode cX8_wouldWin 16 = .ok (.sipush 255, 3) := by decide +kernel
theorem dX8_wouldWin_19 : decode cX8_wouldWin 19 = .ok (.invokestatic 61, 3) := by decide +kernel
theorem dX8_wouldWin_22 : decode cX8_wouldWin 22 = .ok (.ifCond .ne 7, 3) := by decide +kernel
theorem dX8_wouldWin_25 : decode cX8_wouldWin 25 = .ok (.iconst 1, 1) := by decide +kernel
theorem dX8_wouldWin_26 : decode cX8_wouldWin 26 = .ok (.goto 4, 3) := by decide +kernel
theorem dX8_wouldWin_29 : decode cX8_wouldWin 29 = .ok (.iconst 0, 1) := by decide +kernel
theorem dX8_wouldWin_30 : decode cX8_wouldWin 30 = .ok (.iconst 2, 1) := by decide +kernel
theorem dX8_wouldWin_31 : decode cX8_wouldWin 31 = .ok (.invokevirtual 158, 3) := by decide +kernel
theorem dX8_wouldWin_34 : decode cX8_wouldWin 34 = .ok (.ifCond .ne 20, 3) := by decide +kernel
theorem dX8_wouldWin_37 : decode cX8_wouldWin 37 = .ok (.aload_n 0, 1) := by decide +kernel
theorem dX8_wouldWin_38 : decode cX8_wouldWin 38 = .ok (.aload_n 0, 1) := by decide +kernel
theorem dX8_wouldWin_39 : decode cX8_wouldWin 39 = .ok (.getfield 17, 3) := by decide +kernel
theorem dX8_wouldWin_42 : decode cX8_wouldWin 42 = .ok (.iload_n 1, 1) := by decide +kernel
theorem dX8_wouldWin_43 : decode cX8_wouldWin 43 = .ok (.iload_n 2, 1) := by decide +kernel
theorem dX8_wouldWin_44 : decode cX8_wouldWin 44 = .ok (.invokevirtual 219, 3) := by decide +kernel
theorem dX8_wouldWin_47 : decode cX8_wouldWin 47 = .ok (.ifCond .eq 7, 3) := by decide +kernel
theorem dX8_wouldWin_50 : decode cX8_wouldWin 50 = .ok (.iconst 1, 1) := by decide +kernel
theorem dX8_wouldWin_51 : decode cX8_wouldWin 51 = .ok (.goto 4, 3) := by decide +kernel
theorem dX8_wouldWin_54 : decode cX8_wouldWin 54 = .ok (.iconst 0, 1) := by decide +kernel
theorem dX8_wouldWin_55 : decode cX8_wouldWin 55 = .ok (.ireturn, 1) := by decide +kernel
theorem dX8_bestEvidence_0 : decode cX8_bestEvidence 0 = .ok (.aload_n 0, 1) := by decide +kernel
theorem dX8_bestEvidence_1 : decode cX8_bestEvidence 1 = .ok (.iconst 0, 1) := by decide +kernel
theorem dX8_bestEvidence_2 : decode cX8_bestEvidence 2 = .ok (.putfield 39, 3) := by decide +kernel
theorem dX8_bestEvidence_5 : decode cX8_bestEvidence 5 = .ok (.aload_n 0, 1) := by decide +kernel
theorem dX8_bestEvidence_6 : decode cX8_bestEvidence 6 = .ok (.iload_n 1, 1) := by decide +kernel
theorem dX8_bestEvidence_7 : decode cX8_bestEvidence 7 = .ok (.invokevirtual 239, 3) := by decide +kernel
theorem dX8_bestEvidence_10 : decode cX8_bestEvidence 10 = .ok (.ifCond .eq 5, 3) := by decide +kernel
theorem dX8_bestEvidence_13 : decode cX8_bestEvidence 13 = .ok (.iconst 0, 1) := by decide +kernel
theorem dX8_bestEvidence_14 : decode cX8_bestEvidence 14 = .ok (.ireturn, 1) := by decide +kernel
theorem dX8_bestEvidence_15 : decode cX8_bestEvidence 15 = .ok (.aload_n 0, 1) := by decide +kernel
theorem dX8_bestEvidence_16 : decode cX8_bestEvidence 16 = .ok (.getfield 17, 3) := by decide +kernel
theorem dX8_bestEvidence_19 : decode cX8_bestEvidence 19 = .ok (.iload_n 1, 1) := by decide +kernel
theorem dX8_bestEvidence_20 : decode cX8_bestEvidence 20 = .ok (.invokestatic 180, 3) := by decide +kernel
theorem dX8_bestEvidence_23 : decode cX8_bestEvidence 23 = .ok (.iconst 4, 1) := by decide +kernel
theorem dX8_bestEvidence_24 : decode cX8_bestEvidence 24 = .ok (.iadd, 1) := by decide +kernel
theorem dX8_bestEvidence_25 : decode cX8_bestEvidence 25 = .ok (.iaload, 1) := by decide +kernel
theorem dX8_bestEvidence_26 : decode cX8_bestEvidence 26 = .ok (.istore_n 2, 1) := by decide +kernel
theorem dX8_bestEvidence_27 : decode cX8_bestEvidence 27 = .ok (.iconst (-1), 1) := by decide +kernel
theorem dX8_bestEvidence_28 : decode cX8_bestEvidence 28 = .ok (.istore_n 3, 1) := by decide +kernel
theorem dX8_bestEvidence_29 : decode cX8_bestEvidence 29 = .ok (.iconst 0, 1) := by decide +kernel
theorem dX8_bestEvidence_30 : decode cX8_bestEvidence 30 = .ok (.istore 4, 2) := by decide +kernel
theorem dX8_bestEvidence_32 : decode cX8_bestEvidence 32 = .ok (.iload 4, 2) := by decide +kernel
theorem dX8_bestEvidence_34 : decode cX8_bestEvidence 34 = .ok (.sipush 256, 3) := by decide +kernel
theorem dX8_bestEvidence_37 : decode cX8_bestEvidence 37 = .ok (.if_icmp .ge 52, 3) := by decide +kernel
theorem dX8_bestEvidence_40 : decode cX8_bestEvidence 40 = .ok (.iload_n 2, 1) := by decide +kernel
theorem dX8_bestEvidence_41 : decode cX8_bestEvidence 41 = .ok (.iload 4, 2) := by decide +kernel
theorem dX8_bestEvidence_43 : decode cX8_bestEvidence 43 = .ok (.iconst (-1), 1) := by decide +kernel
theorem dX8_bestEvidence_44 : decode cX8_bestEvidence 44 = .ok (.ixor, 1) := by decide +kernel
theorem dX8_bestEvidence_45 : decode cX8_bestEvidence 45 = .ok (.iand, 1) := by decide +kernel
theorem dX8_bestEvidence_46 : decode cX8_bestEvidence 46 = .ok (.ifCond .ne 37, 3) := by decide +kernel
theorem dX8_bestEvidence_49 : decode cX8_bestEvidence 49 = .ok (.iload_n 3, 1) := by decide +kernel
theorem dX8_bestEvidence_50 : decode cX8_bestEvidence 50 = .ok (.iconst (-1), 1) := by decide +kernel
theorem dX8_bestEvidence_51 : decode cX8_bestEvidence 51 = .ok (.if_icmp .eq 15, 3) := by decide +kernel
theorem dX8_bestEvidence_54 : decode cX8_bestEvidence 54 = .ok (.iload 4, 2) := by decide +kernel
theorem dX8_bestEvidence_56 : decode cX8_bestEvidence 56 = .ok (.invokestatic 183, 3) := by decide +kernel
theorem dX8_bestEvidence_59 : decode cX8_bestEvidence 59 = .ok (.iload_n 3, 1) := by decide +kernel
theorem dX8_bestEvidence_60 : decode cX8_bestEvidence 60 = .ok (.invokestatic 183, 3) := by decide +kernel
theorem dX8_bestEvidence_63 : decode cX8_bestEvidence 63 = .ok (.if_icmp .ge 20, 3) := by decide +kernel
theorem dX8_bestEvidence_66 : decode cX8_bestEvidence 66 = .ok (.aload_n 0, 1) := by decide +kernel
theorem dX8_bestEvidence_67 : decode cX8_bestEvidence 67 = .ok (.aload_n 0, 1) := by decide +kernel
theorem dX8_bestEvidence_68 : decode cX8_bestEvidence 68 = .ok (.getfield 17, 3) := by decide +kernel
theorem dX8_bestEvidence_71 : decode cX8_bestEvidence 71 = .ok (.iload_n 1, 1) := by decide +kernel
theorem dX8_bestEvidence_72 : decode cX8_bestEvidence 72 = .ok (.iload 4, 2) := by decide +kernel
theorem dX8_bestEvidence_74 : decode cX8_bestEvidence 74 = .ok (.invokevirtual 219, 3) := by decide +kernel
theorem dX8_bestEvidence_77 : decode cX8_bestEvidence 77 = .ok (.ifCond .eq 6, 3) := by decide +kernel
theorem dX8_bestEvidence_80 : decode cX8_bestEvidence 80 = .ok (.iload 4, 2) := by decide +kernel
theorem dX8_bestEvidence_82 : decode cX8_bestEvidence 82 = .ok (.istore_n 3, 1) := by decide +kernel
theorem dX8_bestEvidence_83 : decode cX8_bestEvidence 83 = .ok (.iinc 4 1, 3) := by decide +kernel
theorem dX8_bestEvidence_86 : decode cX8_bestEvidence 86 = .ok (.goto (-54), 3) := by decide +kernel
theorem dX8_bestEvidence_89 : decode cX8_bestEvidence 89 = .ok (.iload_n 3, 1) := by decide +kernel
theorem dX8_bestEvidence_90 : decode cX8_bestEvidence 90 = .ok (.ireturn, 1) := by decide +kernel
theorem dX8_nextDeadline_0 : decode cX8_nextDeadline 0 = .ok (.aload_n 0, 1) := by decide +kernel
theorem dX8_nextDeadline_1 : decode cX8_nextDeadline 1 = .ok (.iconst 0, 1) := by decide +kernel
theorem dX8_nextDeadline_2 : decode cX8_nextDeadline 2 = .ok (.putfield 39, 3) := by decide +kernel
theorem dX8_nextDeadline_5 : decode cX8_nextDeadline 5 = .ok (.iconst (-1), 1) := by decide +kernel
theorem dX8_nextDeadline_6 : decode cX8_nextDeadline 6 = .ok (.istore_n 1, 1) := by decide +kernel
theorem dX8_nextDeadline_7 : decode cX8_nextDeadline 7 = .ok (.iconst 0, 1) := by decide +kernel
theorem dX8_nextDeadline_8 : decode cX8_nextDeadline 8 = .ok (.istore_n 2, 1) := by decide +kernel
theorem dX8_nextDeadline_9 : decode cX8_nextDeadline 9 = .ok (.iload_n 2, 1) := by decide +kernel
theorem dX8_nextDeadline_10 : decode cX8_nextDeadline 10 = .ok (.aload_n 0, 1) := by decide +kernel
theorem dX8_nextDeadline_11 : decode cX8_nextDeadline 11 = .ok (.getfield 17, 3) := by decide +kernel
theorem dX8_nextDeadline_14 : decode cX8_nextDeadline 14 = .ok (.iconst 4, 1) := by decide +kernel
theorem dX8_nextDeadline_15 : decode cX8_nextDeadline 15 = .ok (.iaload, 1) := by decide +kernel
theorem dX8_nextDeadline_16 : decode cX8_nextDeadline 16 = .ok (.if_icmp .ge 54, 3) := by decide +kernel
theorem dX8_nextDeadline_19 : decode cX8_nextDeadline 19 = .ok (.aload_n 0, 1) := by decide +kernel
theorem dX8_nextDeadline_20 : decode cX8_nextDeadline 20 = .ok (.getfield 17, 3) := by decide +kernel
theorem dX8_nextDeadline_23 : decode cX8_nextDeadline 23 = .ok (.iload_n 2, 1) := by decide +kernel
theorem dX8_nextDeadline_24 : decode cX8_nextDeadline 24 = .ok (.invokestatic 215, 3) := by decide +kernel
theorem dX8_nextDeadline_27 : decode cX8_nextDeadline 27 = .ok (.ifCond .ne 37, 3) := by decide +kernel
theorem dX8_nextDeadline_30 : decode cX8_nextDeadline 30 = .ok (.iload_n 1, 1) := by decide +kernel
theorem dX8_nextDeadline_31 : decode cX8_nextDeadline 31 = .ok (.iconst (-1), 1) := by decide +kernel
theorem dX8_nextDeadline_32 : decode cX8_nextDeadline 32 = .ok (.if_icmp .eq 19, 3) := by decide +kernel
theorem dX8_nextDeadline_35 : decode cX8_nextDeadline 35 = .ok (.aload_n 0, 1) := by decide +kernel
theorem dX8_nextDeadline_36 : decode cX8_nextDeadline 36 = .ok (.getfield 17, 3) := by decide +kernel
theorem dX8_nextDeadline_39 : decode cX8_nextDeadline 39 = .ok (.iload_n 2, 1) := by decide +kernel
theorem dX8_nextDeadline_40 : decode cX8_nextDeadline 40 = .ok (.invokestatic 180, 3) := by decide +kernel
theorem dX8_nextDeadline_43 : decode cX8_nextDeadline 43 = .ok (.bipush 6, 2) := by decide +kernel
theorem dX8_nextDeadline_45 : decode cX8_nextDeadline 45 = .ok (.iadd, 1) := by decide +kernel
theorem dX8_nextDeadline_46 : decode cX8_nextDeadline 46 = .ok (.iaload, 1) := by decide +kernel
theorem dX8_nextDeadline_47 : decode cX8_nextDeadline 47 = .ok (.iload_n 1, 1) := by decide +kernel
theorem dX8_nextDeadline_48 : decode cX8_nextDeadline 48 = .ok (.if_icmp .ge 16, 3) := by decide +kernel
theorem dX8_nextDeadline_51 : decode cX8_nextDeadline 51 = .ok (.aload_n 0, 1) := by decide +kernel
theorem dX8_nextDeadline_52 : decode cX8_nextDeadline 52 = .ok (.getfield 17, 3) := by decide +kernel
theorem dX8_nextDeadline_55 : decode cX8_nextDeadline 55 = .ok (.iload_n 2, 1) := by decide +kernel
theorem dX8_nextDeadline_56 : decode cX8_nextDeadline 56 = .ok (.invokestatic 180, 3) := by decide +kernel
theorem dX8_nextDeadline_59 : decode cX8_nextDeadline 59 = .ok (.bipush 6, 2) := by decide +kernel
theorem dX8_nextDeadline_61 : decode cX8_nextDeadline 61 = .ok (.iadd, 1) := by decide +kernel
theorem dX8_nextDeadline_62 : decode cX8_nextDeadline 62 = .ok (.iaload, 1) := by decide +kernel
theorem dX8_nextDeadline_63 : decode cX8_nextDeadline 63 = .ok (.istore_n 1, 1) := by decide +kernel
theorem dX8_nextDeadline_64 : decode cX8_nextDeadline 64 = .ok (.iinc 2 1, 3) := by decide +kernel
theorem dX8_nextDeadline_67 : decode cX8_nextDeadline 67 = .ok (.goto (-58), 3) := by decide +kernel
theorem dX8_nextDeadline_70 : decode cX8_nextDeadline 70 = .ok (.iload_n 1, 1) := by decide +kernel
theorem dX8_nextDeadline_71 : decode cX8_nextDeadline 71 = .ok (.ireturn, 1) := by decide +kernel
theorem dX8_isLate_0 : decode cX8_isLate 0 = .ok (.iload_n 1, 1) := by decide +kernel
theorem dX8_isLate_1 : decode cX8_isLate 1 = .ok (.aload_n 0, 1) := by decide +kernel
theorem dX8_isLate_2 : decode cX8_isLate 2 = .ok (.getfield 17, 3) := by decide +kernel
theorem dX8_isLate_5 : decode cX8_isLate 5 = .ok (.iconst 5, 1) := by decide +kernel
theorem dX8_isLate_6 : decode cX8_isLate 6 = .ok (.iaload, 1) := by decide +kernel
theorem dX8_isLate_7 : decode cX8_isLate 7 = .ok (.bipush 30, 2) := by decide +kernel
theorem dX8_isLate_9 : decode cX8_isLate 9 = .ok (.isub, 1) := by decide +kernel
theorem dX8_isLate_10 : decode cX8_isLate 10 = .ok (.if_icmp .le 7, 3) := by decide +kernel
theorem dX8_isLate_13 : decode cX8_isLate 13 = .ok (.iconst 1, 1) := by decide +kernel
theorem dX8_isLate_14 : decode cX8_isLate 14 = .ok (.goto 4, 3) := by decide +kernel
theorem dX8_isLate_17 : decode cX8_isLate 17 = .ok (.iconst 0, 1) := by decide +kernel
theorem dX8_isLate_18 : decode cX8_isLate 18 = .ok (.ireturn, 1) := by decide +kernel
theorem dX8_rateOf_0 : decode cX8_rateOf 0 = .ok (.iconst 0, 1) := by decide +kernel
theorem dX8_rateOf_1 : decode cX8_rateOf 1 = .ok (.istore_n 2, 1) := by decide +kernel
theorem dX8_rateOf_2 : decode cX8_rateOf 2 = .ok (.iconst 0, 1) := by decide +kernel
theorem dX8_rateOf_3 : decode cX8_rateOf 3 = .ok (.istore_n 3, 1) := by decide +kernel
theorem dX8_rateOf_4 : decode cX8_rateOf 4 = .ok (.iconst 0, 1) := by decide +kernel
theorem dX8_rateOf_5 : decode cX8_rateOf 5 = .ok (.istore 4, 2) := by decide +kernel
theorem dX8_rateOf_7 : decode cX8_rateOf 7 = .ok (.iload 4, 2) := by decide +kernel
theorem dX8_rateOf_9 : decode cX8_rateOf 9 = .ok (.aload_n 0, 1) := by decide +kernel
theorem dX8_rateOf_10 : decode cX8_rateOf 10 = .ok (.getfield 17, 3) := by decide +kernel
theorem dX8_rateOf_13 : decode cX8_rateOf 13 = .ok (.iconst 3, 1) := by decide +kernel
theorem dX8_rateOf_14 : decode cX8_rateOf 14 = .ok (.iaload, 1) := by decide +kernel
theorem dX8_rateOf_15 : decode cX8_rateOf 15 = .ok (.if_icmp .ge 52, 3) := by decide +kernel
theorem dX8_rateOf_18 : decode cX8_rateOf 18 = .ok (.iload_n 2, 1) := by decide +kernel
theorem dX8_rateOf_19 : decode cX8_rateOf 19 = .ok (.aload_n 0, 1) := by decide +kernel
theorem dX8_rateOf_20 : decode cX8_rateOf 20 = .ok (.getfield 17, 3) := by decide +kernel
theorem dX8_rateOf_23 : decode cX8_rateOf 23 = .ok (.iload 4, 2) := by decide +kernel
theorem dX8_rateOf_25 : decode cX8_rateOf 25 = .ok (.invokestatic 190, 3) := by decide +kernel
theorem dX8_rateOf_28 : decode cX8_rateOf 28 = .ok (.iconst 1, 1) := by decide +kernel
theorem dX8_rateOf_29 : decode cX8_rateOf 29 = .ok (.iadd, 1) := by decide +kernel
theorem dX8_rateOf_30 : decode cX8_rateOf 30 = .ok (.iaload, 1) := by decide +kernel
theorem dX8_rateOf_31 : decode cX8_rateOf 31 = .ok (.iload_n 1, 1) := by decide +kernel
theorem dX8_rateOf_32 : decode cX8_rateOf 32 = .ok (.if_icmp .ne 26, 3) := by decide +kernel
theorem dX8_rateOf_35 : decode cX8_rateOf 35 = .ok (.aload_n 0, 1) := by decide +kernel
theorem dX8_rateOf_36 : decode cX8_rateOf 36 = .ok (.aload_n 0, 1) := by decide +kernel
theorem dX8_rateOf_37 : decode cX8_rateOf 37 = .ok (.getfield 17, 3) := by decide +kernel
theorem dX8_rateOf_40 : decode cX8_rateOf 40 = .ok (.iload 4, 2) := by decide +kernel
theorem dX8_rateOf_42 : decode cX8_rateOf 42 = .ok (.invokestatic 190, 3) := by decide +kernel
theorem dX8_rateOf_45 : decode cX8_rateOf 45 = .ok (.iconst 3, 1) := by decide +kernel
theorem dX8_rateOf_46 : decode cX8_rateOf 46 = .ok (.iadd, 1) := by decide +kernel
theorem dX8_rateOf_47 : decode cX8_rateOf 47 = .ok (.iaload, 1) := by decide +kernel
theorem dX8_rateOf_48 : decode cX8_rateOf 48 = .ok (.invokevirtual 242, 3) := by decide +kernel
theorem dX8_rateOf_51 : decode cX8_rateOf 51 = .ok (.ifCond .eq 7, 3) := by decide +kernel
theorem dX8_rateOf_54 : decode cX8_rateOf 54 = .ok (.iconst 1, 1) := by decide +kernel
theorem dX8_rateOf_55 : decode cX8_rateOf 55 = .ok (.goto 4, 3) := by decide +kernel
theorem dX8_rateOf_58 : decode cX8_rateOf 58 = .ok (.iconst 0, 1) := by decide +kernel
theorem dX8_rateOf_59 : decode cX8_rateOf 59 = .ok (.iadd, 1) := by decide +kernel
theorem dX8_rateOf_60 : decode cX8_rateOf 60 = .ok (.istore_n 2, 1) := by decide +kernel
theorem dX8_rateOf_61 : decode cX8_rateOf 61 = .ok (.iinc 4 1, 3) := by decide +kernel
theorem dX8_rateOf_64 : decode cX8_rateOf 64 = .ok (.goto (-57), 3) := by decide +kernel
theorem dX8_rateOf_67 : decode cX8_rateOf 67 = .ok (.iconst 0, 1) := by decide +kernel
theorem dX8_rateOf_68 : decode cX8_rateOf 68 = .ok (.istore 4, 2) := by decide +kernel
theorem dX8_rateOf_70 : decode cX8_rateOf 70 = .ok (.iload 4, 2) := by decide +kernel
theorem dX8_rateOf_72 : decode cX8_rateOf 72 = .ok (.aload_n 0, 1) := by decide +kernel
theorem dX8_rateOf_73 : decode cX8_rateOf 73 = .ok (.getfield 17, 3) := by decide +kernel
theorem dX8_rateOf_76 : decode cX8_rateOf 76 = .ok (.iconst 4, 1) := by decide +kernel
theorem dX8_rateOf_77 : decode cX8_rateOf 77 = .ok (.iaload, 1) := by decide +kernel
theorem dX8_rateOf_78 : decode cX8_rateOf 78 = .ok (.if_icmp .ge 52, 3) := by decide +kernel
theorem dX8_rateOf_81 : decode cX8_rateOf 81 = .ok (.iload_n 3, 1) := by decide +kernel
theorem dX8_rateOf_82 : decode cX8_rateOf 82 = .ok (.aload_n 0, 1) := by decide +kernel
theorem dX8_rateOf_83 : decode cX8_rateOf 83 = .ok (.getfield 17, 3) := by decide +kernel
theorem dX8_rateOf_86 : decode cX8_rateOf 86 = .ok (.iload 4, 2) := by decide +kernel
theorem dX8_rateOf_88 : decode cX8_rateOf 88 = .ok (.invokestatic 201, 3) := by decide +kernel
theorem dX8_rateOf_91 : decode cX8_rateOf 91 = .ok (.bipush 16, 2) := by decide +kernel
theorem dX8_rateOf_93 : decode cX8_rateOf 93 = .ok (.iload_n 1, 1) := by decide +kernel
theorem dX8_rateOf_94 : decode cX8_rateOf 94 = .ok (.iadd, 1) := by decide +kernel
theorem dX8_rateOf_95 : decode cX8_rateOf 95 = .ok (.if_icmp .ne 26, 3) := by decide +kernel
theorem dX8_rateOf_98 : decode cX8_rateOf 98 = .ok (.aload_n 0, 1) := by decide +kernel
theorem dX8_rateOf_99 : decode cX8_rateOf 99 = .ok (.aload_n 0, 1) := by decide +kernel
theorem dX8_rateOf_100 : decode cX8_rateOf 100 = .ok (.getfield 17, 3) := by decide +kernel
theorem dX8_rateOf_103 : decode cX8_rateOf 103 = .ok (.iload 4, 2) := by decide +kernel
theorem dX8_rateOf_105 : decode cX8_rateOf 105 = .ok (.invokestatic 180, 3) := by decide +kernel
theorem dX8_rateOf_108 : decode cX8_rateOf 108 = .ok (.iconst 3, 1) := by decide +kernel
theorem dX8_rateOf_109 : decode cX8_rateOf 109 = .ok (.iadd, 1) := by decide +kernel
theorem dX8_rateOf_110 : decode cX8_rateOf 110 = .ok (.iaload, 1) := by decide +kernel
theorem dX8_rateOf_111 : decode cX8_rateOf 111 = .ok (.invokevirtual 242, 3) := by decide +kernel
theorem dX8_rateOf_114 : decode cX8_rateOf 114 = .ok (.ifCond .eq 7, 3) := by decide +kernel
theorem dX8_rateOf_117 : decode cX8_rateOf 117 = .ok (.iconst 1, 1) := by decide +kernel
theorem dX8_rateOf_118 : decode cX8_rateOf 118 = .ok (.goto 4, 3) := by decide +kernel
theorem dX8_rateOf_121 : decode cX8_rateOf 121 = .ok (.iconst 0, 1) := by decide +kernel
theorem dX8_rateOf_122 : decode cX8_rateOf 122 = .ok (.iadd, 1) := by decide +kernel
theorem dX8_rateOf_123 : decode cX8_rateOf 123 = .ok (.istore_n 3, 1) := by decide +kernel
theorem dX8_rateOf_124 : decode cX8_rateOf 124 = .ok (.iinc 4 1, 3) := by decide +kernel
theorem dX8_rateOf_127 : decode cX8_rateOf 127 = .ok (.goto (-57), 3) := by decide +kernel
theorem dX8_rateOf_130 : decode cX8_rateOf 130 = .ok (.iload_n 2, 1) := by decide +kernel
theorem dX8_rateOf_131 : decode cX8_rateOf 131 = .ok (.ifCond .ne 7, 3) := by decide +kernel
theorem dX8_rateOf_134 : decode cX8_rateOf 134 = .ok (.iconst 0, 1) := by decide +kernel
theorem dX8_rateOf_135 : decode cX8_rateOf 135 = .ok (.goto 10, 3) := by decide +kernel
theorem dX8_rateOf_138 : decode cX8_rateOf 138 = .ok (.iload_n 3, 1) := by decide +kernel
theorem dX8_rateOf_139 : decode cX8_rateOf 139 = .ok (.sipush 1000, 3) := by decide +kernel
theorem dX8_rateOf_142 : decode cX8_rateOf 142 = .ok (.imul, 1) := by decide +kernel
theorem dX8_rateOf_143 : decode cX8_rateOf 143 = .ok (.iload_n 2, 1) := by decide +kernel
theorem dX8_rateOf_144 : decode cX8_rateOf 144 = .ok (.idiv, 1) := by decide +kernel
theorem dX8_rateOf_145 : decode cX8_rateOf 145 = .ok (.ireturn, 1) := by decide +kernel
theorem dX8_rate_0 : decode cX8_rate 0 = .ok (.aload_n 0, 1) := by decide +kernel
theorem dX8_rate_1 : decode cX8_rate 1 = .ok (.iconst 0, 1) := by decide +kernel
theorem dX8_rate_2 : decode cX8_rate 2 = .ok (.putfield 39, 3) := by decide +kernel
theorem dX8_rate_5 : decode cX8_rate 5 = .ok (.aload_n 0, 1) := by decide +kernel
theorem dX8_rate_6 : decode cX8_rate 6 = .ok (.iload_n 1, 1) := by decide +kernel
theorem dX8_rate_7 : decode cX8_rate 7 = .ok (.invokevirtual 230, 3) := by decide +kernel
theorem dX8_rate_10 : decode cX8_rate 10 = .ok (.ifCond .eq 7, 3) := by decide +kernel
theorem dX8_rate_13 : decode cX8_rate 13 = .ok (.iconst 0, 1) := by decide +kernel
theorem dX8_rate_14 : decode cX8_rate 14 = .ok (.goto 8, 3) := by decide +kernel
theorem dX8_rate_17 : decode cX8_rate 17 = .ok (.aload_n 0, 1) := by decide +kernel
theorem dX8_rate_18 : decode cX8_rate 18 = .ok (.iload_n 1, 1) := by decide +kernel
theorem dX8_rate_19 : decode cX8_rate 19 = .ok (.invokevirtual 245, 3) := by decide +kernel
theorem dX8_rate_22 : decode cX8_rate 22 = .ok (.ireturn, 1) := by decide +kernel
theorem dX8_isWatched_0 : decode cX8_isWatched 0 = .ok (.aload_n 0, 1) := by decide +kernel
theorem dX8_isWatched_1 : decode cX8_isWatched 1 = .ok (.iconst 0, 1) := by decide +kernel
theorem dX8_isWatched_2 : decode cX8_isWatched 2 = .ok (.putfield 39, 3) := by decide +kernel
theorem dX8_isWatched_5 : decode cX8_isWatched 5 = .ok (.aload_n 0, 1) := by decide +kernel
theorem dX8_isWatched_6 : decode cX8_isWatched 6 = .ok (.iload_n 1, 1) := by decide +kernel
theorem dX8_isWatched_7 : decode cX8_isWatched 7 = .ok (.invokevirtual 230, 3) := by decide +kernel
theorem dX8_isWatched_10 : decode cX8_isWatched 10 = .ok (.ifCond .ne 22, 3) := by decide +kernel
theorem dX8_isWatched_13 : decode cX8_isWatched 13 = .ok (.aload_n 0, 1) := by decide +kernel
theorem dX8_isWatched_14 : decode cX8_isWatched 14 = .ok (.iload_n 1, 1) := by decide +kernel
theorem dX8_isWatched_15 : decode cX8_isWatched 15 = .ok (.invokevirtual 245, 3) := by decide +kernel
theorem dX8_isWatched_18 : decode cX8_isWatched 18 = .ok (.aload_n 0, 1) := by decide +kernel
theorem dX8_isWatched_19 : decode cX8_isWatched 19 = .ok (.getfield 17, 3) := by decide +kernel
theorem dX8_isWatched_22 : decode cX8_isWatched 22 = .ok (.bipush 8, 2) := by decide +kernel
theorem dX8_isWatched_24 : decode cX8_isWatched 24 = .ok (.iaload, 1) := by decide +kernel
theorem dX8_isWatched_25 : decode cX8_isWatched 25 = .ok (.if_icmp .le 7, 3) := by decide +kernel
theorem dX8_isWatched_28 : decode cX8_isWatched 28 = .ok (.iconst 1, 1) := by decide +kernel
theorem dX8_isWatched_29 : decode cX8_isWatched 29 = .ok (.goto 4, 3) := by decide +kernel
theorem dX8_isWatched_32 : decode cX8_isWatched 32 = .ok (.iconst 0, 1) := by decide +kernel
theorem dX8_isWatched_33 : decode cX8_isWatched 33 = .ok (.ireturn, 1) := by decide +kernel
theorem dX8_exposure_0 : decode cX8_exposure 0 = .ok (.aload_n 0, 1) := by decide +kernel
theorem dX8_exposure_1 : decode cX8_exposure 1 = .ok (.iconst 0, 1) := by decide +kernel
theorem dX8_exposure_2 : decode cX8_exposure 2 = .ok (.putfield 39, 3) := by decide +kernel
theorem dX8_exposure_5 : decode cX8_exposure 5 = .ok (.aload_n 0, 1) := by decide +kernel
theorem dX8_exposure_6 : decode cX8_exposure 6 = .ok (.iload_n 1, 1) := by decide +kernel
theorem dX8_exposure_7 : decode cX8_exposure 7 = .ok (.invokevirtual 230, 3) := by decide +kernel
theorem dX8_exposure_10 : decode cX8_exposure 10 = .ok (.ifCond .eq 5, 3) := by decide +kernel
theorem dX8_exposure_13 : decode cX8_exposure 13 = .ok (.iconst 0, 1) := by decide +kernel
theorem dX8_exposure_14 : decode cX8_exposure 14 = .ok (.ireturn, 1) := by decide +kernel
theorem dX8_exposure_15 : decode cX8_exposure 15 = .ok (.iconst 0, 1) := by decide +kernel
theorem dX8_exposure_16 : decode cX8_exposure 16 = .ok (.istore_n 2, 1) := by decide +kernel
theorem dX8_exposure_17 : decode cX8_exposure 17 = .ok (.iconst 0, 1) := by decide +kernel
theorem dX8_exposure_18 : decode cX8_exposure 18 = .ok (.istore_n 3, 1) := by decide +kernel
theorem dX8_exposure_19 : decode cX8_exposure 19 = .ok (.iload_n 3, 1) := by decide +kernel
theorem dX8_exposure_20 : decode cX8_exposure 20 = .ok (.aload_n 0, 1) := by decide +kernel
theorem dX8_exposure_21 : decode cX8_exposure 21 = .ok (.getfield 17, 3) := by decide +kernel
theorem dX8_exposure_24 : decode cX8_exposure 24 = .ok (.iconst 4, 1) := by decide +kernel
theorem dX8_exposure_25 : decode cX8_exposure 25 = .ok (.iaload, 1) := by decide +kernel
theorem dX8_exposure_26 : decode cX8_exposure 26 = .ok (.if_icmp .ge 53, 3) := by decide +kernel
theorem dX8_exposure_29 : decode cX8_exposure 29 = .ok (.iload_n 2, 1) := by decide +kernel
theorem dX8_exposure_30 : decode cX8_exposure 30 = .ok (.aload_n 0, 1) := by decide +kernel
theorem dX8_exposure_31 : decode cX8_exposure 31 = .ok (.getfield 17, 3) := by decide +kernel
theorem dX8_exposure_34 : decode cX8_exposure 34 = .ok (.iload_n 3, 1) := by decide +kernel
theorem dX8_exposure_35 : decode cX8_exposure 35 = .ok (.invokestatic 215, 3) := by decide +kernel
theorem dX8_exposure_38 : decode cX8_exposure 38 = .ok (.ifCond .ne 32, 3) := by decide +kernel
theorem dX8_exposure_41 : decode cX8_exposure 41 = .ok (.aload_n 0, 1) := by decide +kernel
theorem dX8_exposure_42 : decode cX8_exposure 42 = .ok (.getfield 17, 3) := by decide +kernel
theorem dX8_exposure_45 : decode cX8_exposure 45 = .ok (.iload_n 3, 1) := by decide +kernel
theorem dX8_exposure_46 : decode cX8_exposure 46 = .ok (.invokestatic 201, 3) := by decide +kernel
theorem dX8_exposure_49 : decode cX8_exposure 49 = .ok (.bipush 16, 2) := by decide +kernel
theorem dX8_exposure_51 : decode cX8_exposure 51 = .ok (.iload_n 1, 1) := by decide +kernel
theorem dX8_exposure_52 : decode cX8_exposure 52 = .ok (.iadd, 1) := by decide +kernel
theorem dX8_exposure_53 : decode cX8_exposure 53 = .ok (.if_icmp .ne 17, 3) := by decide +kernel
theorem dX8_exposure_56 : decode cX8_exposure 56 = .ok (.aload_n 0, 1) := by decide +kernel
theorem dX8_exposure_57 : decode cX8_exposure 57 = .ok (.getfield 17, 3) := by decide +kernel
theorem dX8_exposure_60 : decode cX8_exposure 60 = .ok (.iload_n 3, 1) := by decide +kernel
theorem dX8_exposure_61 : decode cX8_exposure 61 = .ok (.invokestatic 180, 3) := by decide +kernel
theorem dX8_exposure_64 : decode cX8_exposure 64 = .ok (.iconst 2, 1) := by decide +kernel
theorem dX8_exposure_65 : decode cX8_exposure 65 = .ok (.iadd, 1) := by decide +kernel
theorem dX8_exposure_66 : decode cX8_exposure 66 = .ok (.iaload, 1) := by decide +kernel
theorem dX8_exposure_67 : decode cX8_exposure 67 = .ok (.goto 4, 3) := by decide +kernel
theorem dX8_exposure_70 : decode cX8_exposure 70 = .ok (.iconst 0, 1) := by decide +kernel
theorem dX8_exposure_71 : decode cX8_exposure 71 = .ok (.iadd, 1) := by decide +kernel
theorem dX8_exposure_72 : decode cX8_exposure 72 = .ok (.istore_n 2, 1) := by decide +kernel
theorem dX8_exposure_73 : decode cX8_exposure 73 = .ok (.iinc 3 1, 3) := by decide +kernel
theorem dX8_exposure_76 : decode cX8_exposure 76 = .ok (.goto (-57), 3) := by decide +kernel
theorem dX8_exposure_79 : decode cX8_exposure 79 = .ok (.iload_n 2, 1) := by decide +kernel
theorem dX8_exposure_80 : decode cX8_exposure 80 = .ok (.ireturn, 1) := by decide +kernel
theorem dX8_isAnyOpen_0 : decode cX8_isAnyOpen 0 = .ok (.iconst 0, 1) := by decide +kernel
theorem dX8_isAnyOpen_1 : decode cX8_isAnyOpen 1 = .ok (.istore_n 2, 1) := by decide +kernel
theorem dX8_isAnyOpen_2 : decode cX8_isAnyOpen 2 = .ok (.iload_n 2, 1) := by decide +kernel
theorem dX8_isAnyOpen_3 : decode cX8_isAnyOpen 3 = .ok (.aload_n 1, 1) := by decide +kernel
theorem dX8_isAnyOpen_4 : decode cX8_isAnyOpen 4 = .ok (.iconst 4, 1) := by decide +kernel
theorem dX8_isAnyOpen_5 : decode cX8_isAnyOpen 5 = .ok (.iaload, 1) := by decide +kernel
theorem dX8_isAnyOpen_6 : decode cX8_isAnyOpen 6 = .ok (.if_icmp .ge 19, 3) := by decide +kernel
theorem dX8_isAnyOpen_9 : decode cX8_isAnyOpen 9 = .ok (.aload_n 1, 1) := by decide +kernel
theorem dX8_isAnyOpen_10 : decode cX8_isAnyOpen 10 = .ok (.iload_n 2, 1) := by decide +kernel
theorem dX8_isAnyOpen_11 : decode cX8_isAnyOpen 11 = .ok (.invokestatic 215, 3) := by decide +kernel
theorem dX8_isAnyOpen_14 : decode cX8_isAnyOpen 14 = .ok (.ifCond .ne 5, 3) := by decide +kernel
theorem dX8_isAnyOpen_17 : decode cX8_isAnyOpen 17 = .ok (.iconst 1, 1) := by decide +kernel
theorem dX8_isAnyOpen_18 : decode cX8_isAnyOpen 18 = .ok (.ireturn, 1) := by decide +kernel
theorem dX8_isAnyOpen_19 : decode cX8_isAnyOpen 19 = .ok (.iinc 2 1, 3) := by decide +kernel
theorem dX8_isAnyOpen_22 : decode cX8_isAnyOpen 22 = .ok (.goto (-20), 3) := by decide +kernel
theorem dX8_isAnyOpen_25 : decode cX8_isAnyOpen 25 = .ok (.iconst 0, 1) := by decide +kernel
theorem dX8_isAnyOpen_26 : decode cX8_isAnyOpen 26 = .ok (.ireturn, 1) := by decide +kernel
theorem dX8_settled_0 : decode cX8_settled 0 = .ok (.aload_n 0, 1) := by decide +kernel
theorem dX8_settled_1 : decode cX8_settled 1 = .ok (.iconst 0, 1) := by decide +kernel
theorem dX8_settled_2 : decode cX8_settled 2 = .ok (.putfield 39, 3) := by decide +kernel
theorem dX8_settled_5 : decode cX8_settled 5 = .ok (.aload_n 0, 1) := by decide +kernel
theorem dX8_settled_6 : decode cX8_settled 6 = .ok (.iload_n 1, 1) := by decide +kernel
theorem dX8_settled_7 : decode cX8_settled 7 = .ok (.invokevirtual 230, 3) := by decide +kernel
theorem dX8_settled_10 : decode cX8_settled 10 = .ok (.ifCond .eq 5, 3) := by decide +kernel
theorem dX8_settled_13 : decode cX8_settled 13 = .ok (.iconst 0, 1) := by decide +kernel
theorem dX8_settled_14 : decode cX8_settled 14 = .ok (.ireturn, 1) := by decide +kernel
theorem dX8_settled_15 : decode cX8_settled 15 = .ok (.aload_n 0, 1) := by decide +kernel
theorem dX8_settled_16 : decode cX8_settled 16 = .ok (.getfield 17, 3) := by decide +kernel
theorem dX8_settled_19 : decode cX8_settled 19 = .ok (.aload_n 0, 1) := by decide +kernel
theorem dX8_settled_20 : decode cX8_settled 20 = .ok (.getfield 23, 3) := by decide +kernel
theorem dX8_settled_23 : decode cX8_settled 23 = .ok (.invokestatic 168, 3) := by decide +kernel
theorem dX8_settled_26 : decode cX8_settled 26 = .ok (.aload_n 0, 1) := by decide +kernel
theorem dX8_settled_27 : decode cX8_settled 27 = .ok (.aload_n 0, 1) := by decide +kernel
theorem dX8_settled_28 : decode cX8_settled 28 = .ok (.getfield 23, 3) := by decide +kernel
theorem dX8_settled_31 : decode cX8_settled 31 = .ok (.invokevirtual 248, 3) := by decide +kernel
theorem dX8_settled_34 : decode cX8_settled 34 = .ok (.ifCond .eq 15, 3) := by decide +kernel
theorem dX8_settled_37 : decode cX8_settled 37 = .ok (.aload_n 0, 1) := by decide +kernel
theorem dX8_settled_38 : decode cX8_settled 38 = .ok (.aload_n 0, 1) := by decide +kernel
theorem dX8_settled_39 : decode cX8_settled 39 = .ok (.getfield 23, 3) := by decide +kernel
theorem dX8_settled_42 : decode cX8_settled 42 = .ok (.invokevirtual 252, 3) := by decide +kernel
theorem dX8_settled_45 : decode cX8_settled 45 = .ok (.pop, 1) := by decide +kernel
theorem dX8_settled_46 : decode cX8_settled 46 = .ok (.goto (-20), 3) := by decide +kernel
theorem dX8_settled_49 : decode cX8_settled 49 = .ok (.aload_n 0, 1) := by decide +kernel
theorem dX8_settled_50 : decode cX8_settled 50 = .ok (.getfield 23, 3) := by decide +kernel
theorem dX8_settled_53 : decode cX8_settled 53 = .ok (.bipush 16, 2) := by decide +kernel
theorem dX8_settled_55 : decode cX8_settled 55 = .ok (.iload_n 1, 1) := by decide +kernel
theorem dX8_settled_56 : decode cX8_settled 56 = .ok (.iadd, 1) := by decide +kernel
theorem dX8_settled_57 : decode cX8_settled 57 = .ok (.iaload, 1) := by decide +kernel
theorem dX8_settled_58 : decode cX8_settled 58 = .ok (.ireturn, 1) := by decide +kernel
theorem dX8_remember_0 : decode cX8_remember 0 = .ok (.aload_n 0, 1) := by decide +kernel
theorem dX8_remember_1 : decode cX8_remember 1 = .ok (.getfield 256, 3) := by decide +kernel
theorem dX8_remember_4 : decode cX8_remember 4 = .ok (.bipush 8, 2) := by decide +kernel
theorem dX8_remember_6 : decode cX8_remember 6 = .ok (.if_icmp .ne 44, 3) := by decide +kernel
theorem dX8_remember_9 : decode cX8_remember 9 = .ok (.iconst 1, 1) := by decide +kernel
theorem dX8_remember_10 : decode cX8_remember 10 = .ok (.istore_n 1, 1) := by decide +kernel
theorem dX8_remember_11 : decode cX8_remember 11 = .ok (.iload_n 1, 1) := by decide +kernel
theorem dX8_remember_12 : decode cX8_remember 12 = .ok (.bipush 8, 2) := by decide +kernel
theorem dX8_remember_14 : decode cX8_remember 14 = .ok (.if_icmp .ge 26, 3) := by decide +kernel
theorem dX8_remember_17 : decode cX8_remember 17 = .ok (.aload_n 0, 1) := by decide +kernel
theorem dX8_remember_18 : decode cX8_remember 18 = .ok (.getfield 28, 3) := by decide +kernel
theorem dX8_remember_21 : decode cX8_remember 21 = .ok (.iload_n 1, 1) := by decide +kernel
theorem dX8_remember_22 : decode cX8_remember 22 = .ok (.aaload, 1) := by decide +kernel
theorem dX8_remember_23 : decode cX8_remember 23 = .ok (.aload_n 0, 1) := by decide +kernel
theorem dX8_remember_24 : decode cX8_remember 24 = .ok (.getfield 28, 3) := by decide +kernel
theorem dX8_remember_27 : decode cX8_remember 27 = .ok (.iload_n 1, 1) := by decide +kernel
theorem dX8_remember_28 : decode cX8_remember 28 = .ok (.iconst 1, 1) := by decide +kernel
theorem dX8_remember_29 : decode cX8_remember 29 = .ok (.isub, 1) := by decide +kernel
theorem dX8_remember_30 : decode cX8_remember 30 = .ok (.aaload, 1) := by decide +kernel
theorem dX8_remember_31 : decode cX8_remember 31 = .ok (.invokestatic 168, 3) := by decide +kernel
theorem dX8_remember_34 : decode cX8_remember 34 = .ok (.iinc 1 1, 3) := by decide +kernel
theorem dX8_remember_37 : decode cX8_remember 37 = .ok (.goto (-26), 3) := by decide +kernel
theorem dX8_remember_40 : decode cX8_remember 40 = .ok (.aload_n 0, 1) := by decide +kernel
theorem dX8_remember_41 : decode cX8_remember 41 = .ok (.dup, 1) := by decide +kernel
theorem dX8_remember_42 : decode cX8_remember 42 = .ok (.getfield 256, 3) := by decide +kernel
theorem dX8_remember_45 : decode cX8_remember 45 = .ok (.iconst 1, 1) := by decide +kernel
theorem dX8_remember_46 : decode cX8_remember 46 = .ok (.isub, 1) := by decide +kernel
theorem dX8_remember_47 : decode cX8_remember 47 = .ok (.putfield 256, 3) := by decide +kernel
theorem dX8_remember_50 : decode cX8_remember 50 = .ok (.aload_n 0, 1) := by decide +kernel
theorem dX8_remember_51 : decode cX8_remember 51 = .ok (.getfield 17, 3) := by decide +kernel
theorem dX8_remember_54 : decode cX8_remember 54 = .ok (.aload_n 0, 1) := by decide +kernel
theorem dX8_remember_55 : decode cX8_remember 55 = .ok (.getfield 28, 3) := by decide +kernel
theorem dX8_remember_58 : decode cX8_remember 58 = .ok (.aload_n 0, 1) := by decide +kernel
theorem dX8_remember_59 : decode cX8_remember 59 = .ok (.getfield 256, 3) := by decide +kernel
theorem dX8_remember_62 : decode cX8_remember 62 = .ok (.aaload, 1) := by decide +kernel
theorem dX8_remember_63 : decode cX8_remember 63 = .ok (.invokestatic 168, 3) := by decide +kernel
theorem dX8_remember_66 : decode cX8_remember 66 = .ok (.aload_n 0, 1) := by decide +kernel
theorem dX8_remember_67 : decode cX8_remember 67 = .ok (.dup, 1) := by decide +kernel
theorem dX8_remember_68 : decode cX8_remember 68 = .ok (.getfield 256, 3) := by decide +kernel
theorem dX8_remember_71 : decode cX8_remember 71 = .ok (.iconst 1, 1) := by decide +kernel
theorem dX8_remember_72 : decode cX8_remember 72 = .ok (.iadd, 1) := by decide +kernel
theorem dX8_remember_73 : decode cX8_remember 73 = .ok (.putfield 256, 3) := by decide +kernel
theorem dX8_remember_76 : decode cX8_remember 76 = .ok (.return_, 1) := by decide +kernel
theorem dX8_purchase__0 : decode cX8_purchase_ 0 = .ok (.aload_n 0, 1) := by decide +kernel
theorem dX8_purchase__1 : decode cX8_purchase_ 1 = .ok (.iconst 0, 1) := by decide +kernel
theorem dX8_purchase__2 : decode cX8_purchase_ 2 = .ok (.putfield 39, 3) := by decide +kernel
theorem dX8_purchase__5 : decode cX8_purchase_ 5 = .ok (.aload_n 0, 1) := by decide +kernel
theorem dX8_purchase__6 : decode cX8_purchase_ 6 = .ok (.iload_n 1, 1) := by decide +kernel
theorem dX8_purchase__7 : decode cX8_purchase_ 7 = .ok (.invokevirtual 227, 3) := by decide +kernel
theorem dX8_purchase__10 : decode cX8_purchase_ 10 = .ok (.ifCond .ne 59, 3) := by decide +kernel
theorem dX8_purchase__13 : decode cX8_purchase_ 13 = .ok (.aload_n 0, 1) := by decide +kernel
theorem dX8_purchase__14 : decode cX8_purchase_ 14 = .ok (.iload_n 2, 1) := by decide +kernel
theorem dX8_purchase__15 : decode cX8_purchase_ 15 = .ok (.invokevirtual 230, 3) := by decide +kernel
theorem dX8_purchase__18 : decode cX8_purchase_ 18 = .ok (.ifCond .ne 51, 3) := by decide +kernel
theorem dX8_purchase__21 : decode cX8_purchase_ 21 = .ok (.aload_n 0, 1) := by decide +kernel
theorem dX8_purchase__22 : decode cX8_purchase_ 22 = .ok (.iload_n 3, 1) := by decide +kernel
theorem dX8_purchase__23 : decode cX8_purchase_ 23 = .ok (.iconst 1, 1) := by decide +kernel
theorem dX8_purchase__24 : decode cX8_purchase_ 24 = .ok (.ldc_w 259, 3) := by decide +kernel
theorem dX8_purchase__27 : decode cX8_purchase_ 27 = .ok (.invokestatic 61, 3) := by decide +kernel
theorem dX8_purchase__30 : decode cX8_purchase_ 30 = .ok (.ifCond .ne 7, 3) := by decide +kernel
theorem dX8_purchase__33 : decode cX8_purchase_ 33 = .ok (.iconst 1, 1) := by decide +kernel
theorem dX8_purchase__34 : decode cX8_purchase_ 34 = .ok (.goto 4, 3) := by decide +kernel
theorem dX8_purchase__37 : decode cX8_purchase_ 37 = .ok (.iconst 0, 1) := by decide +kernel
theorem dX8_purchase__38 : decode cX8_purchase_ 38 = .ok (.iconst 2, 1) := by decide +kernel
theorem dX8_purchase__39 : decode cX8_purchase_ 39 = .ok (.invokevirtual 158, 3) := by decide +kernel
theorem dX8_purchase__42 : decode cX8_purchase_ 42 = .ok (.ifCond .ne 27, 3) := by decide +kernel
theorem dX8_purchase__45 : decode cX8_purchase_ 45 = .ok (.aload_n 0, 1) := by decide +kernel
theorem dX8_purchase__46 : decode cX8_purchase_ 46 = .ok (.aload_n 0, 1) := by decide +kernel
theorem dX8_purchase__47 : decode cX8_purchase_ 47 = .ok (.getfield 17, 3) := by decide +kernel
theorem dX8_purchase__50 : decode cX8_purchase_ 50 = .ok (.iconst 3, 1) := by decide +kernel
theorem dX8_purchase__51 : decode cX8_purchase_ 51 = .ok (.iaload, 1) := by decide +kernel
theorem dX8_purchase__52 : decode cX8_purchase_ 52 = .ok (.bipush 24, 2) := by decide +kernel
theorem dX8_purchase__54 : decode cX8_purchase_ 54 = .ok (.if_icmp .ne 7, 3) := by decide +kernel
theorem dX8_purchase__57 : decode cX8_purchase_ 57 = .ok (.iconst 1, 1) := by decide +kernel
theorem dX8_purchase__58 : decode cX8_purchase_ 58 = .ok (.goto 4, 3) := by decide +kernel
theorem dX8_purchase__61 : decode cX8_purchase_ 61 = .ok (.iconst 0, 1) := by decide +kernel
theorem dX8_purchase__62 : decode cX8_purchase_ 62 = .ok (.iconst 3, 1) := by decide +kernel
theorem dX8_purchase__63 : decode cX8_purchase_ 63 = .ok (.invokevirtual 158, 3) := by decide +kernel
theorem dX8_purchase__66 : decode cX8_purchase_ 66 = .ok (.ifCond .eq 5, 3) := by decide +kernel
theorem dX8_purchase__69 : decode cX8_purchase_ 69 = .ok (.iconst 0, 1) := by decide +kernel
theorem dX8_purchase__70 : decode cX8_purchase_ 70 = .ok (.ireturn, 1) := by decide +kernel
theorem dX8_purchase__71 : decode cX8_purchase_ 71 = .ok (.aload_n 0, 1) := by decide +kernel
theorem dX8_purchase__72 : decode cX8_purchase_ 72 = .ok (.invokevirtual 165, 3) := by decide +kernel
theorem dX8_purchase__75 : decode cX8_purchase_ 75 = .ok (.aload_n 0, 1) := by decide +kernel
theorem dX8_purchase__76 : decode cX8_purchase_ 76 = .ok (.getfield 17, 3) := by decide +kernel
theorem dX8_purchase__79 : decode cX8_purchase_ 79 = .ok (.iconst 3, 1) := by decide +kernel
theorem dX8_purchase__80 : decode cX8_purchase_ 80 = .ok (.iaload, 1) := by decide +kernel
theorem dX8_purchase__81 : decode cX8_purchase_ 81 = .ok (.istore 4, 2) := by decide +kernel
theorem dX8_purchase__83 : decode cX8_purchase_ 83 = .ok (.iload 4, 2) := by decide +kernel
theorem dX8_purchase__85 : decode cX8_purchase_ 85 = .ok (.invokestatic 190, 3) := by decide +kernel
theorem dX8_purchase__88 : decode cX8_purchase_ 88 = .ok (.istore 5, 2) := by decide +kernel
theorem dX8_purchase__90 : decode cX8_purchase_ 90 = .ok (.aload_n 0, 1) := by decide +kernel
theorem dX8_purchase__91 : decode cX8_purchase_ 91 = .ok (.getfield 17, 3) := by decide +kernel
theorem dX8_purchase__94 : decode cX8_purchase_ 94 = .ok (.iconst 3, 1) := by decide +kernel
theorem dX8_purchase__95 : decode cX8_purchase_ 95 = .ok (.dup2, 1) := by decide +kernel
theorem dX8_purchase__96 : decode cX8_purchase_ 96 = .ok (.iaload, 1) := by decide +kernel
theorem dX8_purchase__97 : decode cX8_purchase_ 97 = .ok (.iconst 1, 1) := by decide +kernel
theorem dX8_purchase__98 : decode cX8_purchase_ 98 = .ok (.iadd, 1) := by decide +kernel
theorem dX8_purchase__99 : decode cX8_purchase_ 99 = .ok (.iastore, 1) := by decide +kernel
theorem dX8_purchase__100 : decode cX8_purchase_ 100 = .ok (.aload_n 0, 1) := by decide +kernel
theorem dX8_purchase__101 : decode cX8_purchase_ 101 = .ok (.getfield 17, 3) := by decide +kernel
theorem dX8_purchase__104 : decode cX8_purchase_ 104 = .ok (.iload 5, 2) := by decide +kernel
theorem dX8_purchase__106 : decode cX8_purchase_ 106 = .ok (.iload_n 1, 1) := by decide +kernel
theorem dX8_purchase__107 : decode cX8_purchase_ 107 = .ok (.iastore, 1) := by decide +kernel
theorem dX8_purchase__108 : decode cX8_purchase_ 108 = .ok (.aload_n 0, 1) := by decide +kernel
theorem dX8_purchase__109 : decode cX8_purchase_ 109 = .ok (.getfield 17, 3) := by decide +kernel
theorem dX8_purchase__112 : decode cX8_purchase_ 112 = .ok (.iload 5, 2) := by decide +kernel
theorem dX8_purchase__114 : decode cX8_purchase_ 114 = .ok (.iconst 1, 1) := by decide +kernel
theorem dX8_purchase__115 : decode cX8_purchase_ 115 = .ok (.iadd, 1) := by decide +kernel
theorem dX8_purchase__116 : decode cX8_purchase_ 116 = .ok (.iload_n 2, 1) := by decide +kernel
theorem dX8_purchase__117 : decode cX8_purchase_ 117 = .ok (.iastore, 1) := by decide +kernel
theorem dX8_purchase__118 : decode cX8_purchase_ 118 = .ok (.aload_n 0, 1) := by decide +kernel
theorem dX8_purchase__119 : decode cX8_purchase_ 119 = .ok (.getfield 17, 3) := by decide +kernel
theorem dX8_purchase__122 : decode cX8_purchase_ 122 = .ok (.iload 5, 2) := by decide +kernel
theorem dX8_purchase__124 : decode cX8_purchase_ 124 = .ok (.iconst 2, 1) := by decide +kernel
theorem dX8_purchase__125 : decode cX8_purchase_ 125 = .ok (.iadd, 1) := by decide +kernel
theorem dX8_purchase__126 : decode cX8_purchase_ 126 = .ok (.iload_n 3, 1) := by decide +kernel
theorem dX8_purchase__127 : decode cX8_purchase_ 127 = .ok (.iastore, 1) := by decide +kernel
theorem dX8_purchase__128 : decode cX8_purchase_ 128 = .ok (.aload_n 0, 1) := by decide +kernel
theorem dX8_purchase__129 : decode cX8_purchase_ 129 = .ok (.getfield 17, 3) := by decide +kernel
theorem dX8_purchase__132 : decode cX8_purchase_ 132 = .ok (.iload 5, 2) := by decide +kernel
theorem dX8_purchase__134 : decode cX8_purchase_ 134 = .ok (.iconst 3, 1) := by decide +kernel
theorem dX8_purchase__135 : decode cX8_purchase_ 135 = .ok (.iadd, 1) := by decide +kernel
theorem dX8_purchase__136 : decode cX8_purchase_ 136 = .ok (.aload_n 0, 1) := by decide +kernel
theorem dX8_purchase__137 : decode cX8_purchase_ 137 = .ok (.getfield 17, 3) := by decide +kernel
theorem dX8_purchase__140 : decode cX8_purchase_ 140 = .ok (.iconst 5, 1) := by decide +kernel
theorem dX8_purchase__141 : decode cX8_purchase_ 141 = .ok (.iaload, 1) := by decide +kernel
theorem dX8_purchase__142 : decode cX8_purchase_ 142 = .ok (.iastore, 1) := by decide +kernel
theorem dX8_purchase__143 : decode cX8_purchase_ 143 = .ok (.aload_n 0, 1) := by decide +kernel
theorem dX8_purchase__144 : decode cX8_purchase_ 144 = .ok (.getfield 17, 3) := by decide +kernel
theorem dX8_purchase__147 : decode cX8_purchase_ 147 = .ok (.bipush 12, 2) := by decide +kernel
theorem dX8_purchase__149 : decode cX8_purchase_ 149 = .ok (.iload_n 1, 1) := by decide +kernel
theorem dX8_purchase__150 : decode cX8_purchase_ 150 = .ok (.iadd, 1) := by decide +kernel
theorem dX8_purchase__151 : decode cX8_purchase_ 151 = .ok (.bipush 16, 2) := by decide +kernel
theorem dX8_purchase__153 : decode cX8_purchase_ 153 = .ok (.iload_n 2, 1) := by decide +kernel
theorem dX8_purchase__154 : decode cX8_purchase_ 154 = .ok (.iadd, 1) := by decide +kernel
theorem dX8_purchase__155 : decode cX8_purchase_ 155 = .ok (.iload_n 3, 1) := by decide +kernel
theorem dX8_purchase__156 : decode cX8_purchase_ 156 = .ok (.invokestatic 207, 3) := by decide +kernel
theorem dX8_purchase__159 : decode cX8_purchase_ 159 = .ok (.iload 4, 2) := by decide +kernel
theorem dX8_purchase__161 : decode cX8_purchase_ 161 = .ok (.ireturn, 1) := by decide +kernel
theorem dX8_file_0 : decode cX8_file 0 = .ok (.aload_n 0, 1) := by decide +kernel
theorem dX8_file_1 : decode cX8_file 1 = .ok (.iconst 0, 1) := by decide +kernel
theorem dX8_file_2 : decode cX8_file 2 = .ok (.putfield 39, 3) := by decide +kernel
theorem dX8_file_5 : decode cX8_file 5 = .ok (.aload_n 0, 1) := by decide +kernel
theorem dX8_file_6 : decode cX8_file 6 = .ok (.iload_n 1, 1) := by decide +kernel
theorem dX8_file_7 : decode cX8_file 7 = .ok (.invokevirtual 233, 3) := by decide +kernel
theorem dX8_file_10 : decode cX8_file 10 = .ok (.ifCond .ne 32, 3) := by decide +kernel
theorem dX8_file_13 : decode cX8_file 13 = .ok (.aload_n 0, 1) := by decide +kernel
theorem dX8_file_14 : decode cX8_file 14 = .ok (.iload_n 2, 1) := by decide +kernel
theorem dX8_file_15 : decode cX8_file 15 = .ok (.iconst 0, 1) := by decide +kernel
theorem dX8_file_16 : decode cX8_file 16 = .ok (.aload_n 0, 1) := by decide +kernel
theorem dX8_file_17 : decode cX8_file 17 = .ok (.getfield 17, 3) := by decide +kernel
theorem dX8_file_20 : decode cX8_file 20 = .ok (.iconst 2, 1) := by decide +kernel
theorem dX8_file_21 : decode cX8_file 21 = .ok (.iaload, 1) := by decide +kernel
theorem dX8_file_22 : decode cX8_file 22 = .ok (.iconst 1, 1) := by decide +kernel
theorem dX8_file_23 : decode cX8_file 23 = .ok (.isub, 1) := by decide +kernel
theorem dX8_file_24 : decode cX8_file 24 = .ok (.invokestatic 61, 3) := by decide +kernel
theorem dX8_file_27 : decode cX8_file 27 = .ok (.ifCond .ne 7, 3) := by decide +kernel
theorem dX8_file_30 : decode cX8_file 30 = .ok (.iconst 1, 1) := by decide +kernel
theorem dX8_file_31 : decode cX8_file 31 = .ok (.goto 4, 3) := by decide +kernel
theorem dX8_file_34 : decode cX8_file 34 = .ok (.iconst 0, 1) := by decide +kernel
theorem dX8_file_35 : decode cX8_file 35 = .ok (.iconst 1, 1) := by decide +kernel
theorem dX8_file_36 : decode cX8_file 36 = .ok (.invokevirtual 158, 3) := by decide +kernel
theorem dX8_file_39 : decode cX8_file 39 = .ok (.ifCond .eq 5, 3) := by decide +kernel
theorem dX8_file_42 : decode cX8_file 42 = .ok (.iconst 0, 1) := by decide +kernel
theorem dX8_file_43 : decode cX8_file 43 = .ok (.ireturn, 1) := by decide +kernel
theorem dX8_file_44 : decode cX8_file 44 = .ok (.iload_n 1, 1) := by decide +kernel
theorem dX8_file_45 : decode cX8_file 45 = .ok (.invokestatic 190, 3) := by decide +kernel
theorem dX8_file_48 : decode cX8_file 48 = .ok (.istore 4, 2) := by decide +kernel
theorem dX8_file_50 : decode cX8_file 50 = .ok (.iload_n 2, 1) := by decide +kernel
theorem dX8_file_51 : decode cX8_file 51 = .ok (.invokestatic 135, 3) := by decide +kernel
theorem dX8_file_54 : decode cX8_file 54 = .ok (.istore 5, 2) := by decide +kernel
theorem dX8_file_56 : decode cX8_file 56 = .ok (.aload_n 0, 1) := by decide +kernel
theorem dX8_file_57 : decode cX8_file 57 = .ok (.iload_n 3, 1) := by decide +kernel
theorem dX8_file_58 : decode cX8_file 58 = .ok (.iconst 1, 1) := by decide +kernel
theorem dX8_file_59 : decode cX8_file 59 = .ok (.ldc_w 259, 3) := by decide +kernel
theorem dX8_file_62 : decode cX8_file 62 = .ok (.invokestatic 61, 3) := by decide +kernel
theorem dX8_file_65 : decode cX8_file 65 = .ok (.ifCond .eq 22, 3) := by decide +kernel
theorem dX8_file_68 : decode cX8_file 68 = .ok (.iload_n 3, 1) := by decide +kernel
theorem dX8_file_69 : decode cX8_file 69 = .ok (.aload_n 0, 1) := by decide +kernel
theorem dX8_file_70 : decode cX8_file 70 = .ok (.getfield 17, 3) := by decide +kernel
theorem dX8_file_73 : decode cX8_file 73 = .ok (.iload 4, 2) := by decide +kernel
theorem dX8_file_75 : decode cX8_file 75 = .ok (.iconst 2, 1) := by decide +kernel
theorem dX8_file_76 : decode cX8_file 76 = .ok (.iadd, 1) := by decide +kernel
theorem dX8_file_77 : decode cX8_file 77 = .ok (.iaload, 1) := by decide +kernel
theorem dX8_file_78 : decode cX8_file 78 = .ok (.aload_n 0, 1) := by decide +kernel
theorem dX8_file_79 : decode cX8_file 79 = .ok (.iload_n 1, 1) := by decide +kernel
theorem dX8_file_80 : decode cX8_file 80 = .ok (.invokevirtual 236, 3) := by decide +kernel
theorem dX8_file_83 : decode cX8_file 83 = .ok (.isub, 1) := by decide +kernel
theorem dX8_file_84 : decode cX8_file 84 = .ok (.if_icmp .le 7, 3) := by decide +kernel
theorem dX8_file_87 : decode cX8_file 87 = .ok (.iconst 1, 1) := by decide +kernel
theorem dX8_file_88 : decode cX8_file 88 = .ok (.goto 4, 3) := by decide +kernel
theorem dX8_file_91 : decode cX8_file 91 = .ok (.iconst 0, 1) := by decide +kernel
theorem dX8_file_92 : decode cX8_file 92 = .ok (.iconst 2, 1) := by decide +kernel
theorem dX8_file_93 : decode cX8_file 93 = .ok (.invokevirtual 158, 3) := by decide +kernel
theorem dX8_file_96 : decode cX8_file 96 = .ok (.ifCond .ne 55, 3) := by decide +kernel
theorem dX8_file_99 : decode cX8_file 99 = .ok (.aload_n 0, 1) := by decide +kernel
theorem dX8_file_100 : decode cX8_file 100 = .ok (.aload_n 0, 1) := by decide +kernel
theorem dX8_file_101 : decode cX8_file 101 = .ok (.getfield 17, 3) := by decide +kernel
theorem dX8_file_104 : decode cX8_file 104 = .ok (.iconst 5, 1) := by decide +kernel
theorem dX8_file_105 : decode cX8_file 105 = .ok (.iaload, 1) := by decide +kernel
theorem dX8_file_106 : decode cX8_file 106 = .ok (.aload_n 0, 1) := by decide +kernel
theorem dX8_file_107 : decode cX8_file 107 = .ok (.getfield 17, 3) := by decide +kernel
theorem dX8_file_110 : decode cX8_file 110 = .ok (.iload 4, 2) := by decide +kernel
theorem dX8_file_112 : decode cX8_file 112 = .ok (.iconst 3, 1) := by decide +kernel
theorem dX8_file_113 : decode cX8_file 113 = .ok (.iadd, 1) := by decide +kernel
theorem dX8_file_114 : decode cX8_file 114 = .ok (.iaload, 1) := by decide +kernel
theorem dX8_file_115 : decode cX8_file 115 = .ok (.aload_n 0, 1) := by decide +kernel
theorem dX8_file_116 : decode cX8_file 116 = .ok (.getfield 17, 3) := by decide +kernel
theorem dX8_file_119 : decode cX8_file 119 = .ok (.iload 5, 2) := by decide +kernel
theorem dX8_file_121 : decode cX8_file 121 = .ok (.iconst 1, 1) := by decide +kernel
theorem dX8_file_122 : decode cX8_file 122 = .ok (.iadd, 1) := by decide +kernel
theorem dX8_file_123 : decode cX8_file 123 = .ok (.iaload, 1) := by decide +kernel
theorem dX8_file_124 : decode cX8_file 124 = .ok (.iadd, 1) := by decide +kernel
theorem dX8_file_125 : decode cX8_file 125 = .ok (.if_icmp .gt 14, 3) := by decide +kernel
theorem dX8_file_128 : decode cX8_file 128 = .ok (.aload_n 0, 1) := by decide +kernel
theorem dX8_file_129 : decode cX8_file 129 = .ok (.getfield 17, 3) := by decide +kernel
theorem dX8_file_132 : decode cX8_file 132 = .ok (.iconst 4, 1) := by decide +kernel
theorem dX8_file_133 : decode cX8_file 133 = .ok (.iaload, 1) := by decide +kernel
theorem dX8_file_134 : decode cX8_file 134 = .ok (.bipush 20, 2) := by decide +kernel
theorem dX8_file_136 : decode cX8_file 136 = .ok (.if_icmp .ne 7, 3) := by decide +kernel
theorem dX8_file_139 : decode cX8_file 139 = .ok (.iconst 1, 1) := by decide +kernel
theorem dX8_file_140 : decode cX8_file 140 = .ok (.goto 4, 3) := by decide +kernel
theorem dX8_file_143 : decode cX8_file 143 = .ok (.iconst 0, 1) := by decide +kernel
theorem dX8_file_144 : decode cX8_file 144 = .ok (.iconst 3, 1) := by decide +kernel
theorem dX8_file_145 : decode cX8_file 145 = .ok (.invokevirtual 158, 3) := by decide +kernel
theorem dX8_file_148 : decode cX8_file 148 = .ok (.ifCond .eq 5, 3) := by decide +kernel
theorem dX8_file_151 : decode cX8_file 151 = .ok (.iconst 0, 1) := by decide +kernel
theorem dX8_file_152 : decode cX8_file 152 = .ok (.ireturn, 1) := by decide +kernel
theorem dX8_file_153 : decode cX8_file 153 = .ok (.aload_n 0, 1) := by decide +kernel
theorem dX8_file_154 : decode cX8_file 154 = .ok (.invokevirtual 165, 3) := by decide +kernel
theorem dX8_file_157 : decode cX8_file 157 = .ok (.aload_n 0, 1) := by decide +kernel
theorem dX8_file_158 : decode cX8_file 158 = .ok (.getfield 17, 3) := by decide +kernel
theorem dX8_file_161 : decode cX8_file 161 = .ok (.iconst 4, 1) := by decide +kernel
theorem dX8_file_162 : decode cX8_file 162 = .ok (.iaload, 1) := by decide +kernel
theorem dX8_file_163 : decode cX8_file 163 = .ok (.istore 6, 2) := by decide +kernel
theorem dX8_file_165 : decode cX8_file 165 = .ok (.iload 6, 2) := by decide +kernel
theorem dX8_file_167 : decode cX8_file 167 = .ok (.invokestatic 180, 3) := by decide +kernel
theorem dX8_file_170 : decode cX8_file 170 = .ok (.istore 7, 2) := by decide +kernel
theorem dX8_file_172 : decode cX8_file 172 = .ok (.aload_n 0, 1) := by decide +kernel
theorem dX8_file_173 : decode cX8_file 173 = .ok (.getfield 17, 3) := by decide +kernel
theorem dX8_file_176 : decode cX8_file 176 = .ok (.iconst 4, 1) := by decide +kernel
theorem dX8_file_177 : decode cX8_file 177 = .ok (.dup2, 1) := by decide +kernel
theorem dX8_file_178 : decode cX8_file 178 = .ok (.iaload, 1) := by decide +kernel
theorem dX8_file_179 : decode cX8_file 179 = .ok (.iconst 1, 1) := by decide +kernel
theorem dX8_file_180 : decode cX8_file 180 = .ok (.iadd, 1) := by decide +kernel
theorem dX8_file_181 : decode cX8_file 181 = .ok (.iastore, 1) := by decide +kernel
theorem dX8_file_182 : decode cX8_file 182 = .ok (.aload_n 0, 1) := by decide +kernel
theorem dX8_file_183 : decode cX8_file 183 = .ok (.getfield 17, 3) := by decide +kernel
theorem dX8_file_186 : decode cX8_file 186 = .ok (.iload 7, 2) := by decide +kernel
theorem dX8_file_188 : decode cX8_file 188 = .ok (.iload_n 1, 1) := by decide +kernel
theorem dX8_file_189 : decode cX8_file 189 = .ok (.iastore, 1) := by decide +kernel
theorem dX8_file_190 : decode cX8_file 190 = .ok (.aload_n 0, 1) := by decide +kernel
theorem dX8_file_191 : decode cX8_file 191 = .ok (.getfield 17, 3) := by decide +kernel
theorem dX8_file_194 : decode cX8_file 194 = .ok (.iload 7, 2) := by decide +kernel
theorem dX8_file_196 : decode cX8_file 196 = .ok (.iconst 1, 1) := by decide +kernel
theorem dX8_file_197 : decode cX8_file 197 = .ok (.iadd, 1) := by decide +kernel
theorem dX8_file_198 : decode cX8_file 198 = .ok (.iload_n 2, 1) := by decide +kernel
theorem dX8_file_199 : decode cX8_file 199 = .ok (.iastore, 1) := by decide +kernel
theorem dX8_file_200 : decode cX8_file 200 = .ok (.aload_n 0, 1) := by decide +kernel
theorem dX8_file_201 : decode cX8_file 201 = .ok (.getfield 17, 3) := by decide +kernel
theorem dX8_file_204 : decode cX8_file 204 = .ok (.iload 7, 2) := by decide +kernel
theorem dX8_file_206 : decode cX8_file 206 = .ok (.iconst 2, 1) := by decide +kernel
theorem dX8_file_207 : decode cX8_file 207 = .ok (.iadd, 1) := by decide +kernel
theorem dX8_file_208 : decode cX8_file 208 = .ok (.iload_n 3, 1) := by decide +kernel
theorem dX8_file_209 : decode cX8_file 209 = .ok (.iastore, 1) := by decide +kernel
theorem dX8_file_210 : decode cX8_file 210 = .ok (.aload_n 0, 1) := by decide +kernel
theorem dX8_file_211 : decode cX8_file 211 = .ok (.getfield 17, 3) := by decide +kernel
theorem dX8_file_214 : decode cX8_file 214 = .ok (.iload 7, 2) := by decide +kernel
theorem dX8_file_216 : decode cX8_file 216 = .ok (.iconst 3, 1) := by decide +kernel
theorem dX8_file_217 : decode cX8_file 217 = .ok (.iadd, 1) := by decide +kernel
theorem dX8_file_218 : decode cX8_file 218 = .ok (.aload_n 0, 1) := by decide +kernel
theorem dX8_file_219 : decode cX8_file 219 = .ok (.getfield 17, 3) := by decide +kernel
theorem dX8_file_222 : decode cX8_file 222 = .ok (.iconst 5, 1) := by decide +kernel
theorem dX8_file_223 : decode cX8_file 223 = .ok (.iaload, 1) := by decide +kernel
theorem dX8_file_224 : decode cX8_file 224 = .ok (.iastore, 1) := by decide +kernel
theorem dX8_file_225 : decode cX8_file 225 = .ok (.aload_n 0, 1) := by decide +kernel
theorem dX8_file_226 : decode cX8_file 226 = .ok (.getfield 17, 3) := by decide +kernel
theorem dX8_file_229 : decode cX8_file 229 = .ok (.iload 7, 2) := by decide +kernel
theorem dX8_file_231 : decode cX8_file 231 = .ok (.iconst 4, 1) := by decide +kernel
theorem dX8_file_232 : decode cX8_file 232 = .ok (.iadd, 1) := by decide +kernel
theorem dX8_file_233 : decode cX8_file 233 = .ok (.iconst 0, 1) := by decide +kernel
theorem dX8_file_234 : decode cX8_file 234 = .ok (.iastore, 1) := by decide +kernel
theorem dX8_file_235 : decode cX8_file 235 = .ok (.aload_n 0, 1) := by decide +kernel
theorem dX8_file_236 : decode cX8_file 236 = .ok (.getfield 17, 3) := by decide +kernel
theorem dX8_file_239 : decode cX8_file 239 = .ok (.iload 7, 2) := by decide +kernel
theorem dX8_file_241 : decode cX8_file 241 = .ok (.iconst 5, 1) := by decide +kernel
theorem dX8_file_242 : decode cX8_file 242 = .ok (.iadd, 1) := by decide +kernel
theorem dX8_file_243 : decode cX8_file 243 = .ok (.iconst 0, 1) := by decide +kernel
theorem dX8_file_244 : decode cX8_file 244 = .ok (.iastore, 1) := by decide +kernel
theorem dX8_file_245 : decode cX8_file 245 = .ok (.aload_n 0, 1) := by decide +kernel
theorem dX8_file_246 : decode cX8_file 246 = .ok (.getfield 17, 3) := by decide +kernel
theorem dX8_file_249 : decode cX8_file 249 = .ok (.iload 7, 2) := by decide +kernel
theorem dX8_file_251 : decode cX8_file 251 = .ok (.bipush 6, 2) := by decide +kernel
theorem dX8_file_253 : decode cX8_file 253 = .ok (.iadd, 1) := by decide +kernel
theorem dX8_file_254 : decode cX8_file 254 = .ok (.aload_n 0, 1) := by decide +kernel
theorem dX8_file_255 : decode cX8_file 255 = .ok (.getfield 17, 3) := by decide +kernel
theorem dX8_file_258 : decode cX8_file 258 = .ok (.iconst 5, 1) := by decide +kernel
theorem dX8_file_259 : decode cX8_file 259 = .ok (.iaload, 1) := by decide +kernel
theorem dX8_file_260 : decode cX8_file 260 = .ok (.aload_n 0, 1) := by decide +kernel
theorem dX8_file_261 : decode cX8_file 261 = .ok (.getfield 17, 3) := by decide +kernel
theorem dX8_file_264 : decode cX8_file 264 = .ok (.iload 5, 2) := by decide +kernel
theorem dX8_file_266 : decode cX8_file 266 = .ok (.iconst 2, 1) := by decide +kernel
theorem dX8_file_267 : decode cX8_file 267 = .ok (.iadd, 1) := by decide +kernel
theorem dX8_file_268 : decode cX8_file 268 = .ok (.iaload, 1) := by decide +kernel
theorem dX8_file_269 : decode cX8_file 269 = .ok (.iadd, 1) := by decide +kernel
theorem dX8_file_270 : decode cX8_file 270 = .ok (.iastore, 1) := by decide +kernel
theorem dX8_file_271 : decode cX8_file 271 = .ok (.aload_n 0, 1) := by decide +kernel
theorem dX8_file_272 : decode cX8_file 272 = .ok (.getfield 17, 3) := by decide +kernel
theorem dX8_file_275 : decode cX8_file 275 = .ok (.iload 7, 2) := by decide +kernel
theorem dX8_file_277 : decode cX8_file 277 = .ok (.bipush 7, 2) := by decide +kernel
theorem dX8_file_279 : decode cX8_file 279 = .ok (.iadd, 1) := by decide +kernel
theorem dX8_file_280 : decode cX8_file 280 = .ok (.iconst 1, 1) := by decide +kernel
theorem dX8_file_281 : decode cX8_file 281 = .ok (.iastore, 1) := by decide +kernel
theorem dX8_file_282 : decode cX8_file 282 = .ok (.aload_n 0, 1) := by decide +kernel
theorem dX8_file_283 : decode cX8_file 283 = .ok (.getfield 17, 3) := by decide +kernel
theorem dX8_file_286 : decode cX8_file 286 = .ok (.iload 6, 2) := by decide +kernel
theorem dX8_file_288 : decode cX8_file 288 = .ok (.iconst 0, 1) := by decide +kernel
theorem dX8_file_289 : decode cX8_file 289 = .ok (.invokestatic 211, 3) := by decide +kernel
theorem dX8_file_292 : decode cX8_file 292 = .ok (.aload_n 0, 1) := by decide +kernel
theorem dX8_file_293 : decode cX8_file 293 = .ok (.getfield 17, 3) := by decide +kernel
theorem dX8_file_296 : decode cX8_file 296 = .ok (.aload_n 0, 1) := by decide +kernel
theorem dX8_file_297 : decode cX8_file 297 = .ok (.getfield 17, 3) := by decide +kernel
theorem dX8_file_300 : decode cX8_file 300 = .ok (.iload 6, 2) := by decide +kernel
theorem dX8_file_302 : decode cX8_file 302 = .ok (.invokestatic 201, 3) := by decide +kernel
theorem dX8_file_305 : decode cX8_file 305 = .ok (.bipush 11, 2) := by decide +kernel
theorem dX8_file_307 : decode cX8_file 307 = .ok (.aload_n 0, 1) := by decide +kernel
theorem dX8_file_308 : decode cX8_file 308 = .ok (.getfield 17, 3) := by decide +kernel
theorem dX8_file_311 : decode cX8_file 311 = .ok (.bipush 6, 2) := by decide +kernel
theorem dX8_file_313 : decode cX8_file 313 = .ok (.iaload, 1) := by decide +kernel
theorem dX8_file_314 : decode cX8_file 314 = .ok (.invokestatic 207, 3) := by decide +kernel
theorem dX8_file_317 : decode cX8_file 317 = .ok (.iload 6, 2) := by decide +kernel
theorem dX8_file_319 : decode cX8_file 319 = .ok (.ireturn, 1) := by decide +kernel
theorem dX8_goOn_0 : decode cX8_goOn 0 = .ok (.aload_n 0, 1) := by decide +kernel
theorem dX8_goOn_1 : decode cX8_goOn 1 = .ok (.getfield 17, 3) := by decide +kernel
theorem dX8_goOn_4 : decode cX8_goOn 4 = .ok (.iload_n 1, 1) := by decide +kernel
theorem dX8_goOn_5 : decode cX8_goOn 5 = .ok (.invokestatic 180, 3) := by decide +kernel
theorem dX8_goOn_8 : decode cX8_goOn 8 = .ok (.iconst 5, 1) := by decide +kernel
theorem dX8_goOn_9 : decode cX8_goOn 9 = .ok (.iadd, 1) := by decide +kernel
theorem dX8_goOn_10 : decode cX8_goOn 10 = .ok (.iload_n 2, 1) := by decide +kernel
theorem dX8_goOn_11 : decode cX8_goOn 11 = .ok (.iastore, 1) := by decide +kernel
theorem dX8_goOn_12 : decode cX8_goOn 12 = .ok (.aload_n 0, 1) := by decide +kernel
theorem dX8_goOn_13 : decode cX8_goOn 13 = .ok (.getfield 17, 3) := by decide +kernel
theorem dX8_goOn_16 : decode cX8_goOn 16 = .ok (.iload_n 1, 1) := by decide +kernel
theorem dX8_goOn_17 : decode cX8_goOn 17 = .ok (.invokestatic 180, 3) := by decide +kernel
theorem dX8_goOn_20 : decode cX8_goOn 20 = .ok (.bipush 6, 2) := by decide +kernel
theorem dX8_goOn_22 : decode cX8_goOn 22 = .ok (.iadd, 1) := by decide +kernel
theorem dX8_goOn_23 : decode cX8_goOn 23 = .ok (.aload_n 0, 1) := by decide +kernel
theorem dX8_goOn_24 : decode cX8_goOn 24 = .ok (.getfield 17, 3) := by decide +kernel
theorem dX8_goOn_27 : decode cX8_goOn 27 = .ok (.iconst 5, 1) := by decide +kernel
theorem dX8_goOn_28 : decode cX8_goOn 28 = .ok (.iaload, 1) := by decide +kernel
theorem dX8_goOn_29 : decode cX8_goOn 29 = .ok (.iload_n 3, 1) := by decide +kernel
theorem dX8_goOn_30 : decode cX8_goOn 30 = .ok (.iadd, 1) := by decide +kernel
theorem dX8_goOn_31 : decode cX8_goOn 31 = .ok (.iastore, 1) := by decide +kernel
theorem dX8_goOn_32 : decode cX8_goOn 32 = .ok (.return_, 1) := by decide +kernel
theorem dX8_represent_0 : decode cX8_represent 0 = .ok (.aload_n 0, 1) := by decide +kernel
theorem dX8_represent_1 : decode cX8_represent 1 = .ok (.iconst 0, 1) := by decide +kernel
theorem dX8_represent_2 : decode cX8_represent 2 = .ok (.putfield 39, 3) := by decide +kernel
theorem dX8_represent_5 : decode cX8_represent 5 = .ok (.aload_n 0, 1) := by decide +kernel
theorem dX8_represent_6 : decode cX8_represent 6 = .ok (.iload_n 1, 1) := by decide +kernel
theorem dX8_represent_7 : decode cX8_represent 7 = .ok (.invokevirtual 239, 3) := by decide +kernel
theorem dX8_represent_10 : decode cX8_represent 10 = .ok (.ifCond .ne 27, 3) := by decide +kernel
theorem dX8_represent_13 : decode cX8_represent 13 = .ok (.aload_n 0, 1) := by decide +kernel
theorem dX8_represent_14 : decode cX8_represent 14 = .ok (.iload_n 2, 1) := by decide +kernel
theorem dX8_represent_15 : decode cX8_represent 15 = .ok (.iconst 1, 1) := by decide +kernel
theorem dX8_represent_16 : decode cX8_represent 16 = .ok (.sipush 255, 3) := by decide +kernel
theorem dX8_represent_19 : decode cX8_represent 19 = .ok (.invokestatic 61, 3) := by decide +kernel
theorem dX8_represent_22 : decode cX8_represent 22 = .ok (.ifCond .ne 7, 3) := by decide +kernel
theorem dX8_represent_25 : decode cX8_represent 25 = .ok (.iconst 1, 1) := by decide +kernel
theorem dX8_represent_26 : decode cX8_represent 26 = .ok (.goto 4, 3) := by decide +kernel
theorem dX8_represent_29 : decode cX8_represent 29 = .ok (.iconst 0, 1) := by decide +kernel
theorem dX8_represent_30 : decode cX8_represent 30 = .ok (.iconst 2, 1) := by decide +kernel
theorem dX8_represent_31 : decode cX8_represent 31 = .ok (.invokevirtual 158, 3) := by decide +kernel
theorem dX8_represent_34 : decode cX8_represent 34 = .ok (.ifCond .eq 5, 3) := by decide +kernel
theorem dX8_represent_37 : decode cX8_represent 37 = .ok (.iconst 0, 1) := by decide +kernel
theorem dX8_represent_38 : decode cX8_represent 38 = .ok (.ireturn, 1) := by decide +kernel
theorem dX8_represent_39 : decode cX8_represent 39 = .ok (.iload_n 1, 1) := by decide +kernel
theorem dX8_represent_40 : decode cX8_represent 40 = .ok (.invokestatic 180, 3) := by decide +kernel
theorem dX8_represent_43 : decode cX8_represent 43 = .ok (.istore_n 3, 1) := by decide +kernel
theorem dX8_represent_44 : decode cX8_represent 44 = .ok (.aload_n 0, 1) := by decide +kernel
theorem dX8_represent_45 : decode cX8_represent 45 = .ok (.aload_n 0, 1) := by decide +kernel
theorem dX8_represent_46 : decode cX8_represent 46 = .ok (.getfield 17, 3) := by decide +kernel
theorem dX8_represent_49 : decode cX8_represent 49 = .ok (.iload_n 3, 1) := by decide +kernel
theorem dX8_represent_50 : decode cX8_represent 50 = .ok (.iconst 5, 1) := by decide +kernel
theorem dX8_represent_51 : decode cX8_represent 51 = .ok (.iadd, 1) := by decide +kernel
theorem dX8_represent_52 : decode cX8_represent 52 = .ok (.iaload, 1) := by decide +kernel
theorem dX8_represent_53 : decode cX8_represent 53 = .ok (.ifCond .eq 7, 3) := by decide +kernel
theorem dX8_represent_56 : decode cX8_represent 56 = .ok (.iconst 1, 1) := by decide +kernel
theorem dX8_represent_57 : decode cX8_represent 57 = .ok (.goto 4, 3) := by decide +kernel
theorem dX8_represent_60 : decode cX8_represent 60 = .ok (.iconst 0, 1) := by decide +kernel
theorem dX8_represent_61 : decode cX8_represent 61 = .ok (.iconst 3, 1) := by decide +kernel
theorem dX8_represent_62 : decode cX8_represent 62 = .ok (.invokevirtual 158, 3) := by decide +kernel
theorem dX8_represent_65 : decode cX8_represent 65 = .ok (.ifCond .eq 5, 3) := by decide +kernel
theorem dX8_represent_68 : decode cX8_represent 68 = .ok (.iconst 0, 1) := by decide +kernel
theorem dX8_represent_69 : decode cX8_represent 69 = .ok (.ireturn, 1) := by decide +kernel
theorem dX8_represent_70 : decode cX8_represent 70 = .ok (.aload_n 0, 1) := by decide +kernel
theorem dX8_represent_71 : decode cX8_represent 71 = .ok (.invokevirtual 165, 3) := by decide +kernel
theorem dX8_represent_74 : decode cX8_represent 74 = .ok (.aload_n 0, 1) := by decide +kernel
theorem dX8_represent_75 : decode cX8_represent 75 = .ok (.getfield 17, 3) := by decide +kernel
theorem dX8_represent_78 : decode cX8_represent 78 = .ok (.iload_n 3, 1) := by decide +kernel
theorem dX8_represent_79 : decode cX8_represent 79 = .ok (.iconst 4, 1) := by decide +kernel
theorem dX8_represent_80 : decode cX8_represent 80 = .ok (.iadd, 1) := by decide +kernel
theorem dX8_represent_81 : decode cX8_represent 81 = .ok (.dup2, 1) := by decide +kernel
theorem dX8_represent_82 : decode cX8_represent 82 = .ok (.iaload, 1) := by decide +kernel
theorem dX8_represent_83 : decode cX8_represent 83 = .ok (.iload_n 2, 1) := by decide +kernel
theorem dX8_represent_84 : decode cX8_represent 84 = .ok (.ior, 1) := by decide +kernel
theorem dX8_represent_85 : decode cX8_represent 85 = .ok (.iastore, 1) := by decide +kernel
theorem dX8_represent_86 : decode cX8_represent 86 = .ok (.aload_n 0, 1) := by decide +kernel
theorem dX8_represent_87 : decode cX8_represent 87 = .ok (.getfield 17, 3) := by decide +kernel
theorem dX8_represent_90 : decode cX8_represent 90 = .ok (.iload_n 1, 1) := by decide +kernel
theorem dX8_represent_91 : decode cX8_represent 91 = .ok (.iconst 1, 1) := by decide +kernel
theorem dX8_represent_92 : decode cX8_represent 92 = .ok (.invokestatic 211, 3) := by decide +kernel
theorem dX8_represent_95 : decode cX8_represent 95 = .ok (.aload_n 0, 1) := by decide +kernel
theorem dX8_represent_96 : decode cX8_represent 96 = .ok (.iload_n 1, 1) := by decide +kernel
theorem dX8_represent_97 : decode cX8_represent 97 = .ok (.iconst 1, 1) := by decide +kernel
theorem dX8_represent_98 : decode cX8_represent 98 = .ok (.aload_n 0, 1) := by decide +kernel
theorem dX8_represent_99 : decode cX8_represent 99 = .ok (.getfield 17, 3) := by decide +kernel
theorem dX8_represent_102 : decode cX8_represent 102 = .ok (.aload_n 0, 1) := by decide +kernel
theorem dX8_represent_103 : decode cX8_represent 103 = .ok (.getfield 17, 3) := by decide +kernel
theorem dX8_represent_106 : decode cX8_represent 106 = .ok (.iload_n 3, 1) := by decide +kernel
theorem dX8_represent_107 : decode cX8_represent 107 = .ok (.iconst 1, 1) := by decide +kernel
theorem dX8_represent_108 : decode cX8_represent 108 = .ok (.iadd, 1) := by decide +kernel
theorem dX8_represent_109 : decode cX8_represent 109 = .ok (.iaload, 1) := by decide +kernel
theorem dX8_represent_110 : decode cX8_represent 110 = .ok (.invokestatic 135, 3) := by decide +kernel
theorem dX8_represent_113 : decode cX8_represent 113 = .ok (.iconst 3, 1) := by decide +kernel
theorem dX8_represent_114 : decode cX8_represent 114 = .ok (.iadd, 1) := by decide +kernel
theorem dX8_represent_115 : decode cX8_represent 115 = .ok (.iaload, 1) := by decide +kernel
theorem dX8_represent_116 : decode cX8_represent 116 = .ok (.invokevirtual 260, 3) := by decide +kernel
theorem dX8_represent_119 : decode cX8_represent 119 = .ok (.aload_n 0, 1) := by decide +kernel
theorem dX8_represent_120 : decode cX8_represent 120 = .ok (.aload_n 0, 1) := by decide +kernel
theorem dX8_represent_121 : decode cX8_represent 121 = .ok (.getfield 17, 3) := by decide +kernel
theorem dX8_represent_124 : decode cX8_represent 124 = .ok (.iload_n 1, 1) := by decide +kernel
theorem dX8_represent_125 : decode cX8_represent 125 = .ok (.aload_n 0, 1) := by decide +kernel
theorem dX8_represent_126 : decode cX8_represent 126 = .ok (.getfield 17, 3) := by decide +kernel
theorem dX8_represent_129 : decode cX8_represent 129 = .ok (.iload_n 3, 1) := by decide +kernel
theorem dX8_represent_130 : decode cX8_represent 130 = .ok (.iconst 4, 1) := by decide +kernel
theorem dX8_represent_131 : decode cX8_represent 131 = .ok (.iadd, 1) := by decide +kernel
theorem dX8_represent_132 : decode cX8_represent 132 = .ok (.iaload, 1) := by decide +kernel
theorem dX8_represent_133 : decode cX8_represent 133 = .ok (.invokevirtual 197, 3) := by decide +kernel
theorem dX8_represent_136 : decode cX8_represent 136 = .ok (.ireturn, 1) := by decide +kernel
theorem dX8_escalate_0 : decode cX8_escalate 0 = .ok (.aload_n 0, 1) := by decide +kernel
theorem dX8_escalate_1 : decode cX8_escalate 1 = .ok (.iconst 0, 1) := by decide +kernel
theorem dX8_escalate_2 : decode cX8_escalate 2 = .ok (.putfield 39, 3) := by decide +kernel
theorem dX8_escalate_5 : decode cX8_escalate 5 = .ok (.aload_n 0, 1) := by decide +kernel
theorem dX8_escalate_6 : decode cX8_escalate 6 = .ok (.iload_n 1, 1) := by decide +kernel
theorem dX8_escalate_7 : decode cX8_escalate 7 = .ok (.invokevirtual 239, 3) := by decide +kernel
theorem dX8_escalate_10 : decode cX8_escalate 10 = .ok (.ifCond .eq 5, 3) := by decide +kernel
theorem dX8_escalate_13 : decode cX8_escalate 13 = .ok (.iconst 0, 1) := by decide +kernel
theorem dX8_escalate_14 : decode cX8_escalate 14 = .ok (.ireturn, 1) := by decide +kernel
theorem dX8_escalate_15 : decode cX8_escalate 15 = .ok (.iload_n 1, 1) := by decide +kernel
theorem dX8_escalate_16 : decode cX8_escalate 16 = .ok (.invokestatic 180, 3) := by decide +kernel
theorem dX8_escalate_19 : decode cX8_escalate 19 = .ok (.istore_n 2, 1) := by decide +kernel
theorem dX8_escalate_20 : decode cX8_escalate 20 = .ok (.aload_n 0, 1) := by decide +kernel
theorem dX8_escalate_21 : decode cX8_escalate 21 = .ok (.aload_n 0, 1) := by decide +kernel
theorem dX8_escalate_22 : decode cX8_escalate 22 = .ok (.getfield 17, 3) := by decide +kernel
theorem dX8_escalate_25 : decode cX8_escalate 25 = .ok (.iload_n 2, 1) := by decide +kernel
theorem dX8_escalate_26 : decode cX8_escalate 26 = .ok (.iconst 5, 1) := by decide +kernel
theorem dX8_escalate_27 : decode cX8_escalate 27 = .ok (.iadd, 1) := by decide +kernel
theorem dX8_escalate_28 : decode cX8_escalate 28 = .ok (.iaload, 1) := by decide +kernel
theorem dX8_escalate_29 : decode cX8_escalate 29 = .ok (.iconst 1, 1) := by decide +kernel
theorem dX8_escalate_30 : decode cX8_escalate 30 = .ok (.if_icmp .eq 7, 3) := by decide +kernel
theorem dX8_escalate_33 : decode cX8_escalate 33 = .ok (.iconst 1, 1) := by decide +kernel
theorem dX8_escalate_34 : decode cX8_escalate 34 = .ok (.goto 4, 3) := by decide +kernel
theorem dX8_escalate_37 : decode cX8_escalate 37 = .ok (.iconst 0, 1) := by decide +kernel
theorem dX8_escalate_38 : decode cX8_escalate 38 = .ok (.iconst 2, 1) := by decide +kernel
theorem dX8_escalate_39 : decode cX8_escalate 39 = .ok (.invokevirtual 158, 3) := by decide +kernel
theorem dX8_escalate_42 : decode cX8_escalate 42 = .ok (.ifCond .eq 5, 3) := by decide +kernel
theorem dX8_escalate_45 : decode cX8_escalate 45 = .ok (.iconst 0, 1) := by decide +kernel
theorem dX8_escalate_46 : decode cX8_escalate 46 = .ok (.ireturn, 1) := by decide +kernel
theorem dX8_escalate_47 : decode cX8_escalate 47 = .ok (.aload_n 0, 1) := by decide +kernel
theorem dX8_escalate_48 : decode cX8_escalate 48 = .ok (.invokevirtual 165, 3) := by decide +kernel
theorem dX8_escalate_51 : decode cX8_escalate 51 = .ok (.aload_n 0, 1) := by decide +kernel
theorem dX8_escalate_52 : decode cX8_escalate 52 = .ok (.getfield 17, 3) := by decide +kernel
theorem dX8_escalate_55 : decode cX8_escalate 55 = .ok (.iload_n 1, 1) := by decide +kernel
theorem dX8_escalate_56 : decode cX8_escalate 56 = .ok (.iconst 0, 1) := by decide +kernel
theorem dX8_escalate_57 : decode cX8_escalate 57 = .ok (.invokestatic 211, 3) := by decide +kernel
theorem dX8_escalate_60 : decode cX8_escalate 60 = .ok (.aload_n 0, 1) := by decide +kernel
theorem dX8_escalate_61 : decode cX8_escalate 61 = .ok (.iload_n 1, 1) := by decide +kernel
theorem dX8_escalate_62 : decode cX8_escalate 62 = .ok (.iconst 2, 1) := by decide +kernel
theorem dX8_escalate_63 : decode cX8_escalate 63 = .ok (.aload_n 0, 1) := by decide +kernel
theorem dX8_escalate_64 : decode cX8_escalate 64 = .ok (.getfield 17, 3) := by decide +kernel
theorem dX8_escalate_67 : decode cX8_escalate 67 = .ok (.aload_n 0, 1) := by decide +kernel
theorem dX8_escalate_68 : decode cX8_escalate 68 = .ok (.getfield 17, 3) := by decide +kernel
theorem dX8_escalate_71 : decode cX8_escalate 71 = .ok (.iload_n 2, 1) := by decide +kernel
theorem dX8_escalate_72 : decode cX8_escalate 72 = .ok (.iconst 1, 1) := by decide +kernel
theorem dX8_escalate_73 : decode cX8_escalate 73 = .ok (.iadd, 1) := by decide +kernel
theorem dX8_escalate_74 : decode cX8_escalate 74 = .ok (.iaload, 1) := by decide +kernel
theorem dX8_escalate_75 : decode cX8_escalate 75 = .ok (.invokestatic 135, 3) := by decide +kernel
theorem dX8_escalate_78 : decode cX8_escalate 78 = .ok (.iconst 2, 1) := by decide +kernel
theorem dX8_escalate_79 : decode cX8_escalate 79 = .ok (.iadd, 1) := by decide +kernel
theorem dX8_escalate_80 : decode cX8_escalate 80 = .ok (.iaload, 1) := by decide +kernel
theorem dX8_escalate_81 : decode cX8_escalate 81 = .ok (.invokevirtual 260, 3) := by decide +kernel
theorem dX8_escalate_84 : decode cX8_escalate 84 = .ok (.aload_n 0, 1) := by decide +kernel
theorem dX8_escalate_85 : decode cX8_escalate 85 = .ok (.getfield 17, 3) := by decide +kernel
theorem dX8_escalate_88 : decode cX8_escalate 88 = .ok (.iload_n 2, 1) := by decide +kernel
theorem dX8_escalate_89 : decode cX8_escalate 89 = .ok (.bipush 6, 2) := by decide +kernel
theorem dX8_escalate_91 : decode cX8_escalate 91 = .ok (.iadd, 1) := by decide +kernel
theorem dX8_escalate_92 : decode cX8_escalate 92 = .ok (.iaload, 1) := by decide +kernel
theorem dX8_escalate_93 : decode cX8_escalate 93 = .ok (.ireturn, 1) := by decide +kernel
theorem dX8_contest_0 : decode cX8_contest 0 = .ok (.aload_n 0, 1) := by decide +kernel
theorem dX8_contest_1 : decode cX8_contest 1 = .ok (.iconst 0, 1) := by decide +kernel
theorem dX8_contest_2 : decode cX8_contest 2 = .ok (.putfield 39, 3) := by decide +kernel
theorem dX8_contest_5 : decode cX8_contest 5 = .ok (.aload_n 0, 1) := by decide +kernel
theorem dX8_contest_6 : decode cX8_contest 6 = .ok (.iload_n 1, 1) := by decide +kernel
theorem dX8_contest_7 : decode cX8_contest 7 = .ok (.invokevirtual 239, 3) := by decide +kernel
theorem dX8_contest_10 : decode cX8_contest 10 = .ok (.ifCond .ne 27, 3) := by decide +kernel
theorem dX8_contest_13 : decode cX8_contest 13 = .ok (.aload_n 0, 1) := by decide +kernel
theorem dX8_contest_14 : decode cX8_contest 14 = .ok (.iload_n 2, 1) := by decide +kernel
theorem dX8_contest_15 : decode cX8_contest 15 = .ok (.iconst 0, 1) := by decide +kernel
theorem dX8_contest_16 : decode cX8_contest 16 = .ok (.sipush 255, 3) := by decide +kernel
theorem dX8_contest_19 : decode cX8_contest 19 = .ok (.invokestatic 61, 3) := by decide +kernel
theorem dX8_contest_22 : decode cX8_contest 22 = .ok (.ifCond .ne 7, 3) := by decide +kernel
theorem dX8_contest_25 : decode cX8_contest 25 = .ok (.iconst 1, 1) := by decide +kernel
theorem dX8_contest_26 : decode cX8_contest 26 = .ok (.goto 4, 3) := by decide +kernel
theorem dX8_contest_29 : decode cX8_contest 29 = .ok (.iconst 0, 1) := by decide +kernel
theorem dX8_contest_30 : decode cX8_contest 30 = .ok (.iconst 2, 1) := by decide +kernel
theorem dX8_contest_31 : decode cX8_contest 31 = .ok (.invokevirtual 158, 3) := by decide +kernel
theorem dX8_contest_34 : decode cX8_contest 34 = .ok (.ifCond .eq 5, 3) := by decide +kernel
theorem dX8_contest_37 : decode cX8_contest 37 = .ok (.iconst 0, 1) := by decide +kernel
theorem dX8_contest_38 : decode cX8_contest 38 = .ok (.ireturn, 1) := by decide +kernel
theorem dX8_contest_39 : decode cX8_contest 39 = .ok (.iload_n 1, 1) := by decide +kernel
theorem dX8_contest_40 : decode cX8_contest 40 = .ok (.invokestatic 180, 3) := by decide +kernel
theorem dX8_contest_43 : decode cX8_contest 43 = .ok (.istore_n 3, 1) := by decide +kernel
theorem dX8_contest_44 : decode cX8_contest 44 = .ok (.aload_n 0, 1) := by decide +kernel
theorem dX8_contest_45 : decode cX8_contest 45 = .ok (.aload_n 0, 1) := by decide +kernel
theorem dX8_contest_46 : decode cX8_contest 46 = .ok (.getfield 17, 3) := by decide +kernel
theorem dX8_contest_49 : decode cX8_contest 49 = .ok (.iload_n 3, 1) := by decide +kernel
theorem dX8_contest_50 : decode cX8_contest 50 = .ok (.iconst 5, 1) := by decide +kernel
theorem dX8_contest_51 : decode cX8_contest 51 = .ok (.iadd, 1) := by decide +kernel
theorem dX8_contest_52 : decode cX8_contest 52 = .ok (.iaload, 1) := by decide +kernel
theorem dX8_contest_53 : decode cX8_contest 53 = .ok (.iconst 2, 1) := by decide +kernel
theorem dX8_contest_54 : decode cX8_contest 54 = .ok (.if_icmp .eq 7, 3) := by decide +kernel
theorem dX8_contest_57 : decode cX8_contest 57 = .ok (.iconst 1, 1) := by decide +kernel
theorem dX8_contest_58 : decode cX8_contest 58 = .ok (.goto 4, 3) := by decide +kernel
theorem dX8_contest_61 : decode cX8_contest 61 = .ok (.iconst 0, 1) := by decide +kernel
theorem dX8_contest_62 : decode cX8_contest 62 = .ok (.iconst 3, 1) := by decide +kernel
theorem dX8_contest_63 : decode cX8_contest 63 = .ok (.invokevirtual 158, 3) := by decide +kernel
theorem dX8_contest_66 : decode cX8_contest 66 = .ok (.ifCond .eq 5, 3) := by decide +kernel
theorem dX8_contest_69 : decode cX8_contest 69 = .ok (.iconst 0, 1) := by decide +kernel
theorem dX8_contest_70 : decode cX8_contest 70 = .ok (.ireturn, 1) := by decide +kernel
theorem dX8_contest_71 : decode cX8_contest 71 = .ok (.aload_n 0, 1) := by decide +kernel
theorem dX8_contest_72 : decode cX8_contest 72 = .ok (.invokevirtual 165, 3) := by decide +kernel
theorem dX8_contest_75 : decode cX8_contest 75 = .ok (.aload_n 0, 1) := by decide +kernel
theorem dX8_contest_76 : decode cX8_contest 76 = .ok (.getfield 17, 3) := by decide +kernel
theorem dX8_contest_79 : decode cX8_contest 79 = .ok (.iload_n 3, 1) := by decide +kernel
theorem dX8_contest_80 : decode cX8_contest 80 = .ok (.iconst 4, 1) := by decide +kernel
theorem dX8_contest_81 : decode cX8_contest 81 = .ok (.iadd, 1) := by decide +kernel
theorem dX8_contest_82 : decode cX8_contest 82 = .ok (.dup2, 1) := by decide +kernel
theorem dX8_contest_83 : decode cX8_contest 83 = .ok (.iaload, 1) := by decide +kernel
theorem dX8_contest_84 : decode cX8_contest 84 = .ok (.iload_n 2, 1) := by decide +kernel
theorem dX8_contest_85 : decode cX8_contest 85 = .ok (.ior, 1) := by decide +kernel
theorem dX8_contest_86 : decode cX8_contest 86 = .ok (.iastore, 1) := by decide +kernel
theorem dX8_contest_87 : decode cX8_contest 87 = .ok (.aload_n 0, 1) := by decide +kernel
theorem dX8_contest_88 : decode cX8_contest 88 = .ok (.iload_n 1, 1) := by decide +kernel
theorem dX8_contest_89 : decode cX8_contest 89 = .ok (.iconst 3, 1) := by decide +kernel
theorem dX8_contest_90 : decode cX8_contest 90 = .ok (.bipush 10, 2) := by decide +kernel
theorem dX8_contest_92 : decode cX8_contest 92 = .ok (.invokevirtual 260, 3) := by decide +kernel
theorem dX8_contest_95 : decode cX8_contest 95 = .ok (.aload_n 0, 1) := by decide +kernel
theorem dX8_contest_96 : decode cX8_contest 96 = .ok (.getfield 17, 3) := by decide +kernel
theorem dX8_contest_99 : decode cX8_contest 99 = .ok (.iload_n 3, 1) := by decide +kernel
theorem dX8_contest_100 : decode cX8_contest 100 = .ok (.bipush 6, 2) := by decide +kernel
theorem dX8_contest_102 : decode cX8_contest 102 = .ok (.iadd, 1) := by decide +kernel
theorem dX8_contest_103 : decode cX8_contest 103 = .ok (.iaload, 1) := by decide +kernel
theorem dX8_contest_104 : decode cX8_contest 104 = .ok (.iconst 1, 1) := by decide +kernel
theorem dX8_contest_105 : decode cX8_contest 105 = .ok (.iadd, 1) := by decide +kernel
theorem dX8_contest_106 : decode cX8_contest 106 = .ok (.ireturn, 1) := by decide +kernel
theorem dX8_accept_0 : decode cX8_accept 0 = .ok (.aload_n 0, 1) := by decide +kernel
theorem dX8_accept_1 : decode cX8_accept 1 = .ok (.iconst 0, 1) := by decide +kernel
theorem dX8_accept_2 : decode cX8_accept 2 = .ok (.putfield 39, 3) := by decide +kernel
theorem dX8_accept_5 : decode cX8_accept 5 = .ok (.aload_n 0, 1) := by decide +kernel
theorem dX8_accept_6 : decode cX8_accept 6 = .ok (.iload_n 1, 1) := by decide +kernel
theorem dX8_accept_7 : decode cX8_accept 7 = .ok (.invokevirtual 239, 3) := by decide +kernel
theorem dX8_accept_10 : decode cX8_accept 10 = .ok (.ifCond .eq 5, 3) := by decide +kernel
theorem dX8_accept_13 : decode cX8_accept 13 = .ok (.iconst 0, 1) := by decide +kernel
theorem dX8_accept_14 : decode cX8_accept 14 = .ok (.ireturn, 1) := by decide +kernel
theorem dX8_accept_15 : decode cX8_accept 15 = .ok (.iload_n 1, 1) := by decide +kernel
theorem dX8_accept_16 : decode cX8_accept 16 = .ok (.invokestatic 180, 3) := by decide +kernel
theorem dX8_accept_19 : decode cX8_accept 19 = .ok (.istore_n 2, 1) := by decide +kernel
theorem dX8_accept_20 : decode cX8_accept 20 = .ok (.aload_n 0, 1) := by decide +kernel
theorem dX8_accept_21 : decode cX8_accept 21 = .ok (.aload_n 0, 1) := by decide +kernel
theorem dX8_accept_22 : decode cX8_accept 22 = .ok (.getfield 17, 3) := by decide +kernel
theorem dX8_accept_25 : decode cX8_accept 25 = .ok (.iload_n 2, 1) := by decide +kernel
theorem dX8_accept_26 : decode cX8_accept 26 = .ok (.iconst 5, 1) := by decide +kernel
theorem dX8_accept_27 : decode cX8_accept 27 = .ok (.iadd, 1) := by decide +kernel
theorem dX8_accept_28 : decode cX8_accept 28 = .ok (.iaload, 1) := by decide +kernel
theorem dX8_accept_29 : decode cX8_accept 29 = .ok (.iconst 3, 1) := by decide +kernel
theorem dX8_accept_30 : decode cX8_accept 30 = .ok (.if_icmp .lt 7, 3) := by decide +kernel
theorem dX8_accept_33 : decode cX8_accept 33 = .ok (.iconst 1, 1) := by decide +kernel
theorem dX8_accept_34 : decode cX8_accept 34 = .ok (.goto 4, 3) := by decide +kernel
theorem dX8_accept_37 : decode cX8_accept 37 = .ok (.iconst 0, 1) := by decide +kernel
theorem dX8_accept_38 : decode cX8_accept 38 = .ok (.iconst 2, 1) := by decide +kernel
theorem dX8_accept_39 : decode cX8_accept 39 = .ok (.invokevirtual 158, 3) := by decide +kernel
theorem dX8_accept_42 : decode cX8_accept 42 = .ok (.ifCond .eq 5, 3) := by decide +kernel
theorem dX8_accept_45 : decode cX8_accept 45 = .ok (.iconst 0, 1) := by decide +kernel
theorem dX8_accept_46 : decode cX8_accept 46 = .ok (.ireturn, 1) := by decide +kernel
theorem dX8_accept_47 : decode cX8_accept 47 = .ok (.aload_n 0, 1) := by decide +kernel
theorem dX8_accept_48 : decode cX8_accept 48 = .ok (.invokevirtual 165, 3) := by decide +kernel
theorem dX8_accept_51 : decode cX8_accept 51 = .ok (.aload_n 0, 1) := by decide +kernel
theorem dX8_accept_52 : decode cX8_accept 52 = .ok (.getfield 17, 3) := by decide +kernel
theorem dX8_accept_55 : decode cX8_accept 55 = .ok (.iload_n 1, 1) := by decide +kernel
theorem dX8_accept_56 : decode cX8_accept 56 = .ok (.aload_n 0, 1) := by decide +kernel
theorem dX8_accept_57 : decode cX8_accept 57 = .ok (.getfield 17, 3) := by decide +kernel
theorem dX8_accept_60 : decode cX8_accept 60 = .ok (.iload_n 2, 1) := by decide +kernel
theorem dX8_accept_61 : decode cX8_accept 61 = .ok (.iconst 5, 1) := by decide +kernel
theorem dX8_accept_62 : decode cX8_accept 62 = .ok (.iadd, 1) := by decide +kernel
theorem dX8_accept_63 : decode cX8_accept 63 = .ok (.iaload, 1) := by decide +kernel
theorem dX8_accept_64 : decode cX8_accept 64 = .ok (.iconst 1, 1) := by decide +kernel
theorem dX8_accept_65 : decode cX8_accept 65 = .ok (.if_icmp .ne 7, 3) := by decide +kernel
theorem dX8_accept_68 : decode cX8_accept 68 = .ok (.iconst 1, 1) := by decide +kernel
theorem dX8_accept_69 : decode cX8_accept 69 = .ok (.goto 4, 3) := by decide +kernel
theorem dX8_accept_72 : decode cX8_accept 72 = .ok (.iconst 0, 1) := by decide +kernel
theorem dX8_accept_73 : decode cX8_accept 73 = .ok (.iconst 0, 1) := by decide +kernel
theorem dX8_accept_74 : decode cX8_accept 74 = .ok (.invokestatic 223, 3) := by decide +kernel
theorem dX8_accept_77 : decode cX8_accept 77 = .ok (.aload_n 0, 1) := by decide +kernel
theorem dX8_accept_78 : decode cX8_accept 78 = .ok (.getfield 17, 3) := by decide +kernel
theorem dX8_accept_81 : decode cX8_accept 81 = .ok (.iload_n 2, 1) := by decide +kernel
theorem dX8_accept_82 : decode cX8_accept 82 = .ok (.iconst 5, 1) := by decide +kernel
theorem dX8_accept_83 : decode cX8_accept 83 = .ok (.iadd, 1) := by decide +kernel
theorem dX8_accept_84 : decode cX8_accept 84 = .ok (.iaload, 1) := by decide +kernel
theorem dX8_accept_85 : decode cX8_accept 85 = .ok (.ireturn, 1) := by decide +kernel
theorem dX8_pass_0 : decode cX8_pass 0 = .ok (.aload_n 0, 1) := by decide +kernel
theorem dX8_pass_1 : decode cX8_pass 1 = .ok (.iconst 0, 1) := by decide +kernel
theorem dX8_pass_2 : decode cX8_pass 2 = .ok (.putfield 39, 3) := by decide +kernel
theorem dX8_pass_5 : decode cX8_pass 5 = .ok (.aload_n 0, 1) := by decide +kernel
theorem dX8_pass_6 : decode cX8_pass 6 = .ok (.iload_n 1, 1) := by decide +kernel
theorem dX8_pass_7 : decode cX8_pass 7 = .ok (.iconst 1, 1) := by decide +kernel
theorem dX8_pass_8 : decode cX8_pass 8 = .ok (.bipush 100, 2) := by decide +kernel
theorem dX8_pass_10 : decode cX8_pass 10 = .ok (.invokestatic 61, 3) := by decide +kernel
theorem dX8_pass_13 : decode cX8_pass 13 = .ok (.ifCond .ne 7, 3) := by decide +kernel
theorem dX8_pass_16 : decode cX8_pass 16 = .ok (.iconst 1, 1) := by decide +kernel
theorem dX8_pass_17 : decode cX8_pass 17 = .ok (.goto 4, 3) := by decide +kernel
theorem dX8_pass_20 : decode cX8_pass 20 = .ok (.iconst 0, 1) := by decide +kernel
theorem dX8_pass_21 : decode cX8_pass 21 = .ok (.iconst 1, 1) := by decide +kernel
theorem dX8_pass_22 : decode cX8_pass 22 = .ok (.invokevirtual 158, 3) := by decide +kernel
theorem dX8_pass_25 : decode cX8_pass 25 = .ok (.ifCond .ne 30, 3) := by decide +kernel
theorem dX8_pass_28 : decode cX8_pass 28 = .ok (.aload_n 0, 1) := by decide +kernel
theorem dX8_pass_29 : decode cX8_pass 29 = .ok (.aload_n 0, 1) := by decide +kernel
theorem dX8_pass_30 : decode cX8_pass 30 = .ok (.getfield 17, 3) := by decide +kernel
theorem dX8_pass_33 : decode cX8_pass 33 = .ok (.iconst 5, 1) := by decide +kernel
theorem dX8_pass_34 : decode cX8_pass 34 = .ok (.iaload, 1) := by decide +kernel
theorem dX8_pass_35 : decode cX8_pass 35 = .ok (.iload_n 1, 1) := by decide +kernel
theorem dX8_pass_36 : decode cX8_pass 36 = .ok (.iadd, 1) := by decide +kernel
theorem dX8_pass_37 : decode cX8_pass 37 = .ok (.sipush 9999, 3) := by decide +kernel
theorem dX8_pass_40 : decode cX8_pass 40 = .ok (.if_icmp .le 7, 3) := by decide +kernel
theorem dX8_pass_43 : decode cX8_pass 43 = .ok (.iconst 1, 1) := by decide +kernel
theorem dX8_pass_44 : decode cX8_pass 44 = .ok (.goto 4, 3) := by decide +kernel
theorem dX8_pass_47 : decode cX8_pass 47 = .ok (.iconst 0, 1) := by decide +kernel
theorem dX8_pass_48 : decode cX8_pass 48 = .ok (.iconst 2, 1) := by decide +kernel
theorem dX8_pass_49 : decode cX8_pass 49 = .ok (.invokevirtual 158, 3) := by decide +kernel
theorem dX8_pass_52 : decode cX8_pass 52 = .ok (.ifCond .eq 5, 3) := by decide +kernel
theorem dX8_pass_55 : decode cX8_pass 55 = .ok (.iconst 0, 1) := by decide +kernel
theorem dX8_pass_56 : decode cX8_pass 56 = .ok (.ireturn, 1) := by decide +kernel
theorem dX8_pass_57 : decode cX8_pass 57 = .ok (.aload_n 0, 1) := by decide +kernel
theorem dX8_pass_58 : decode cX8_pass 58 = .ok (.invokevirtual 165, 3) := by decide +kernel
theorem dX8_pass_61 : decode cX8_pass 61 = .ok (.iconst 0, 1) := by decide +kernel
theorem dX8_pass_62 : decode cX8_pass 62 = .ok (.istore_n 2, 1) := by decide +kernel
theorem dX8_pass_63 : decode cX8_pass 63 = .ok (.iconst 0, 1) := by decide +kernel
theorem dX8_pass_64 : decode cX8_pass 64 = .ok (.istore_n 3, 1) := by decide +kernel
theorem dX8_pass_65 : decode cX8_pass 65 = .ok (.iload_n 3, 1) := by decide +kernel
theorem dX8_pass_66 : decode cX8_pass 66 = .ok (.iload_n 1, 1) := by decide +kernel
theorem dX8_pass_67 : decode cX8_pass 67 = .ok (.if_icmp .ge 20, 3) := by decide +kernel
theorem dX8_pass_70 : decode cX8_pass 70 = .ok (.iload_n 2, 1) := by decide +kernel
theorem dX8_pass_71 : decode cX8_pass 71 = .ok (.aload_n 0, 1) := by decide +kernel
theorem dX8_pass_72 : decode cX8_pass 72 = .ok (.aload_n 0, 1) := by decide +kernel
theorem dX8_pass_73 : decode cX8_pass 73 = .ok (.getfield 17, 3) := by decide +kernel
theorem dX8_pass_76 : decode cX8_pass 76 = .ok (.invokevirtual 252, 3) := by decide +kernel
theorem dX8_pass_79 : decode cX8_pass 79 = .ok (.iadd, 1) := by decide +kernel
theorem dX8_pass_80 : decode cX8_pass 80 = .ok (.istore_n 2, 1) := by decide +kernel
theorem dX8_pass_81 : decode cX8_pass 81 = .ok (.iinc 3 1, 3) := by decide +kernel
theorem dX8_pass_84 : decode cX8_pass 84 = .ok (.goto (-19), 3) := by decide +kernel
theorem dX8_pass_87 : decode cX8_pass 87 = .ok (.iload_n 2, 1) := by decide +kernel
theorem dX8_pass_88 : decode cX8_pass 88 = .ok (.ireturn, 1) := by decide +kernel
theorem dX8_undo_0 : decode cX8_undo 0 = .ok (.aload_n 0, 1) := by decide +kernel
theorem dX8_undo_1 : decode cX8_undo 1 = .ok (.iconst 0, 1) := by decide +kernel
theorem dX8_undo_2 : decode cX8_undo 2 = .ok (.putfield 39, 3) := by decide +kernel
theorem dX8_undo_5 : decode cX8_undo 5 = .ok (.aload_n 0, 1) := by decide +kernel
theorem dX8_undo_6 : decode cX8_undo 6 = .ok (.getfield 256, 3) := by decide +kernel
theorem dX8_undo_9 : decode cX8_undo 9 = .ok (.ifCond .ne 5, 3) := by decide +kernel
theorem dX8_undo_12 : decode cX8_undo 12 = .ok (.iconst (-1), 1) := by decide +kernel
theorem dX8_undo_13 : decode cX8_undo 13 = .ok (.ireturn, 1) := by decide +kernel
theorem dX8_undo_14 : decode cX8_undo 14 = .ok (.aload_n 0, 1) := by decide +kernel
theorem dX8_undo_15 : decode cX8_undo 15 = .ok (.dup, 1) := by decide +kernel
theorem dX8_undo_16 : decode cX8_undo 16 = .ok (.getfield 256, 3) := by decide +kernel
theorem dX8_undo_19 : decode cX8_undo 19 = .ok (.iconst 1, 1) := by decide +kernel
theorem dX8_undo_20 : decode cX8_undo 20 = .ok (.isub, 1) := by decide +kernel
theorem dX8_undo_21 : decode cX8_undo 21 = .ok (.putfield 256, 3) := by decide +kernel
theorem dX8_undo_24 : decode cX8_undo 24 = .ok (.aload_n 0, 1) := by decide +kernel
theorem dX8_undo_25 : decode cX8_undo 25 = .ok (.getfield 28, 3) := by decide +kernel
theorem dX8_undo_28 : decode cX8_undo 28 = .ok (.aload_n 0, 1) := by decide +kernel
theorem dX8_undo_29 : decode cX8_undo 29 = .ok (.getfield 256, 3) := by decide +kernel
theorem dX8_undo_32 : decode cX8_undo 32 = .ok (.aaload, 1) := by decide +kernel
theorem dX8_undo_33 : decode cX8_undo 33 = .ok (.aload_n 0, 1) := by decide +kernel
theorem dX8_undo_34 : decode cX8_undo 34 = .ok (.getfield 17, 3) := by decide +kernel
theorem dX8_undo_37 : decode cX8_undo 37 = .ok (.invokestatic 168, 3) := by decide +kernel
theorem dX8_undo_40 : decode cX8_undo 40 = .ok (.aload_n 0, 1) := by decide +kernel
theorem dX8_undo_41 : decode cX8_undo 41 = .ok (.getfield 256, 3) := by decide +kernel
theorem dX8_undo_44 : decode cX8_undo 44 = .ok (.ireturn, 1) := by decide +kernel
theorem dX8_checksum_0 : decode cX8_checksum 0 = .ok (.aload_n 0, 1) := by decide +kernel
theorem dX8_checksum_1 : decode cX8_checksum 1 = .ok (.iconst 0, 1) := by decide +kernel
theorem dX8_checksum_2 : decode cX8_checksum 2 = .ok (.putfield 39, 3) := by decide +kernel
theorem dX8_checksum_5 : decode cX8_checksum 5 = .ok (.aload_n 0, 1) := by decide +kernel
theorem dX8_checksum_6 : decode cX8_checksum 6 = .ok (.getfield 17, 3) := by decide +kernel
theorem dX8_checksum_9 : decode cX8_checksum 9 = .ok (.iconst 5, 1) := by decide +kernel
theorem dX8_checksum_10 : decode cX8_checksum 10 = .ok (.iaload, 1) := by decide +kernel
theorem dX8_checksum_11 : decode cX8_checksum 11 = .ok (.i2l, 1) := by decide +kernel
theorem dX8_checksum_12 : decode cX8_checksum 12 = .ok (.lstore_n 1, 1) := by decide +kernel
theorem dX8_checksum_13 : decode cX8_checksum 13 = .ok (.iconst 0, 1) := by decide +kernel
theorem dX8_checksum_14 : decode cX8_checksum 14 = .ok (.istore_n 3, 1) := by decide +kernel
theorem dX8_checksum_15 : decode cX8_checksum 15 = .ok (.iload_n 3, 1) := by decide +kernel
theorem dX8_checksum_16 : decode cX8_checksum 16 = .ok (.aload_n 0, 1) := by decide +kernel
theorem dX8_checksum_17 : decode cX8_checksum 17 = .ok (.getfield 17, 3) := by decide +kernel
theorem dX8_checksum_20 : decode cX8_checksum 20 = .ok (.iconst 0, 1) := by decide +kernel
theorem dX8_checksum_21 : decode cX8_checksum 21 = .ok (.iaload, 1) := by decide +kernel
theorem dX8_checksum_22 : decode cX8_checksum 22 = .ok (.if_icmp .ge 26, 3) := by decide +kernel
theorem dX8_checksum_25 : decode cX8_checksum 25 = .ok (.ldc2_w 264, 3) := by decide +kernel
theorem dX8_checksum_28 : decode cX8_checksum 28 = .ok (.lload_n 1, 1) := by decide +kernel
theorem dX8_checksum_29 : decode cX8_checksum 29 = .ok (.lmul, 1) := by decide +kernel
theorem dX8_checksum_30 : decode cX8_checksum 30 = .ok (.aload_n 0, 1) := by decide +kernel
theorem dX8_checksum_31 : decode cX8_checksum 31 = .ok (.getfield 17, 3) := by decide +kernel
theorem dX8_checksum_34 : decode cX8_checksum 34 = .ok (.bipush 12, 2) := by decide +kernel
theorem dX8_checksum_36 : decode cX8_checksum 36 = .ok (.iload_n 3, 1) := by decide +kernel
theorem dX8_checksum_37 : decode cX8_checksum 37 = .ok (.iadd, 1) := by decide +kernel
theorem dX8_checksum_38 : decode cX8_checksum 38 = .ok (.iaload, 1) := by decide +kernel
theorem dX8_checksum_39 : decode cX8_checksum 39 = .ok (.i2l, 1) := by decide +kernel
theorem dX8_checksum_40 : decode cX8_checksum 40 = .ok (.ladd, 1) := by decide +kernel
theorem dX8_checksum_41 : decode cX8_checksum 41 = .ok (.lstore_n 1, 1) := by decide +kernel
theorem dX8_checksum_42 : decode cX8_checksum 42 = .ok (.iinc 3 1, 3) := by decide +kernel
theorem dX8_checksum_45 : decode cX8_checksum 45 = .ok (.goto (-30), 3) := by decide +kernel
theorem dX8_checksum_48 : decode cX8_checksum 48 = .ok (.iconst 0, 1) := by decide +kernel
theorem dX8_checksum_49 : decode cX8_checksum 49 = .ok (.istore_n 3, 1) := by decide +kernel
theorem dX8_checksum_50 : decode cX8_checksum 50 = .ok (.iload_n 3, 1) := by decide +kernel
theorem dX8_checksum_51 : decode cX8_checksum 51 = .ok (.aload_n 0, 1) := by decide +kernel
theorem dX8_checksum_52 : decode cX8_checksum 52 = .ok (.getfield 17, 3) := by decide +kernel
theorem dX8_checksum_55 : decode cX8_checksum 55 = .ok (.iconst 1, 1) := by decide +kernel
theorem dX8_checksum_56 : decode cX8_checksum 56 = .ok (.iaload, 1) := by decide +kernel
theorem dX8_checksum_57 : decode cX8_checksum 57 = .ok (.if_icmp .ge 26, 3) := by decide +kernel
theorem dX8_checksum_60 : decode cX8_checksum 60 = .ok (.ldc2_w 264, 3) := by decide +kernel
theorem dX8_checksum_63 : decode cX8_checksum 63 = .ok (.lload_n 1, 1) := by decide +kernel
theorem dX8_checksum_64 : decode cX8_checksum 64 = .ok (.lmul, 1) := by decide +kernel
theorem dX8_checksum_65 : decode cX8_checksum 65 = .ok (.aload_n 0, 1) := by decide +kernel
theorem dX8_checksum_66 : decode cX8_checksum 66 = .ok (.getfield 17, 3) := by decide +kernel
theorem dX8_checksum_69 : decode cX8_checksum 69 = .ok (.bipush 16, 2) := by decide +kernel
theorem dX8_checksum_71 : decode cX8_checksum 71 = .ok (.iload_n 3, 1) := by decide +kernel
theorem dX8_checksum_72 : decode cX8_checksum 72 = .ok (.iadd, 1) := by decide +kernel
theorem dX8_checksum_73 : decode cX8_checksum 73 = .ok (.iaload, 1) := by decide +kernel
theorem dX8_checksum_74 : decode cX8_checksum 74 = .ok (.i2l, 1) := by decide +kernel
theorem dX8_checksum_75 : decode cX8_checksum 75 = .ok (.ladd, 1) := by decide +kernel
theorem dX8_checksum_76 : decode cX8_checksum 76 = .ok (.lstore_n 1, 1) := by decide +kernel
theorem dX8_checksum_77 : decode cX8_checksum 77 = .ok (.iinc 3 1, 3) := by decide +kernel
theorem dX8_checksum_80 : decode cX8_checksum 80 = .ok (.goto (-30), 3) := by decide +kernel
theorem dX8_checksum_83 : decode cX8_checksum 83 = .ok (.ldc2_w 264, 3) := by decide +kernel
theorem dX8_checksum_86 : decode cX8_checksum 86 = .ok (.lload_n 1, 1) := by decide +kernel
theorem dX8_checksum_87 : decode cX8_checksum 87 = .ok (.lmul, 1) := by decide +kernel
theorem dX8_checksum_88 : decode cX8_checksum 88 = .ok (.aload_n 0, 1) := by decide +kernel
theorem dX8_checksum_89 : decode cX8_checksum 89 = .ok (.getfield 17, 3) := by decide +kernel
theorem dX8_checksum_92 : decode cX8_checksum 92 = .ok (.bipush 11, 2) := by decide +kernel
theorem dX8_checksum_94 : decode cX8_checksum 94 = .ok (.iaload, 1) := by decide +kernel
theorem dX8_checksum_95 : decode cX8_checksum 95 = .ok (.i2l, 1) := by decide +kernel
theorem dX8_checksum_96 : decode cX8_checksum 96 = .ok (.ladd, 1) := by decide +kernel
theorem dX8_checksum_97 : decode cX8_checksum 97 = .ok (.lstore_n 1, 1) := by decide +kernel
theorem dX8_checksum_98 : decode cX8_checksum 98 = .ok (.iconst 0, 1) := by decide +kernel
theorem dX8_checksum_99 : decode cX8_checksum 99 = .ok (.istore_n 3, 1) := by decide +kernel
theorem dX8_checksum_100 : decode cX8_checksum 100 = .ok (.iload_n 3, 1) := by decide +kernel
theorem dX8_checksum_101 : decode cX8_checksum 101 = .ok (.aload_n 0, 1) := by decide +kernel
theorem dX8_checksum_102 : decode cX8_checksum 102 = .ok (.getfield 17, 3) := by decide +kernel
theorem dX8_checksum_105 : decode cX8_checksum 105 = .ok (.iconst 3, 1) := by decide +kernel
theorem dX8_checksum_106 : decode cX8_checksum 106 = .ok (.iaload, 1) := by decide +kernel
theorem dX8_checksum_107 : decode cX8_checksum 107 = .ok (.if_icmp .ge 22, 3) := by decide +kernel
theorem dX8_checksum_110 : decode cX8_checksum 110 = .ok (.ldc2_w 264, 3) := by decide +kernel
theorem dX8_checksum_113 : decode cX8_checksum 113 = .ok (.lload_n 1, 1) := by decide +kernel
theorem dX8_checksum_114 : decode cX8_checksum 114 = .ok (.lmul, 1) := by decide +kernel
theorem dX8_checksum_115 : decode cX8_checksum 115 = .ok (.aload_n 0, 1) := by decide +kernel
theorem dX8_checksum_116 : decode cX8_checksum 116 = .ok (.iload_n 3, 1) := by decide +kernel
theorem dX8_checksum_117 : decode cX8_checksum 117 = .ok (.invokevirtual 236, 3) := by decide +kernel
theorem dX8_checksum_120 : decode cX8_checksum 120 = .ok (.i2l, 1) := by decide +kernel
theorem dX8_checksum_121 : decode cX8_checksum 121 = .ok (.ladd, 1) := by decide +kernel
theorem dX8_checksum_122 : decode cX8_checksum 122 = .ok (.lstore_n 1, 1) := by decide +kernel
theorem dX8_checksum_123 : decode cX8_checksum 123 = .ok (.iinc 3 1, 3) := by decide +kernel
theorem dX8_checksum_126 : decode cX8_checksum 126 = .ok (.goto (-26), 3) := by decide +kernel
theorem dX8_checksum_129 : decode cX8_checksum 129 = .ok (.iconst 0, 1) := by decide +kernel
theorem dX8_checksum_130 : decode cX8_checksum 130 = .ok (.istore_n 3, 1) := by decide +kernel
theorem dX8_checksum_131 : decode cX8_checksum 131 = .ok (.iload_n 3, 1) := by decide +kernel
theorem dX8_checksum_132 : decode cX8_checksum 132 = .ok (.aload_n 0, 1) := by decide +kernel
theorem dX8_checksum_133 : decode cX8_checksum 133 = .ok (.getfield 17, 3) := by decide +kernel
theorem dX8_checksum_136 : decode cX8_checksum 136 = .ok (.iconst 4, 1) := by decide +kernel
theorem dX8_checksum_137 : decode cX8_checksum 137 = .ok (.iaload, 1) := by decide +kernel
theorem dX8_checksum_138 : decode cX8_checksum 138 = .ok (.if_icmp .ge 67, 3) := by decide +kernel
theorem dX8_checksum_141 : decode cX8_checksum 141 = .ok (.ldc2_w 264, 3) := by decide +kernel
theorem dX8_checksum_144 : decode cX8_checksum 144 = .ok (.lload_n 1, 1) := by decide +kernel
theorem dX8_checksum_145 : decode cX8_checksum 145 = .ok (.lmul, 1) := by decide +kernel
theorem dX8_checksum_146 : decode cX8_checksum 146 = .ok (.aload_n 0, 1) := by decide +kernel
theorem dX8_checksum_147 : decode cX8_checksum 147 = .ok (.getfield 17, 3) := by decide +kernel
theorem dX8_checksum_150 : decode cX8_checksum 150 = .ok (.iload_n 3, 1) := by decide +kernel
theorem dX8_checksum_151 : decode cX8_checksum 151 = .ok (.invokestatic 180, 3) := by decide +kernel
theorem dX8_checksum_154 : decode cX8_checksum 154 = .ok (.iconst 5, 1) := by decide +kernel
theorem dX8_checksum_155 : decode cX8_checksum 155 = .ok (.iadd, 1) := by decide +kernel
theorem dX8_checksum_156 : decode cX8_checksum 156 = .ok (.iaload, 1) := by decide +kernel
theorem dX8_checksum_157 : decode cX8_checksum 157 = .ok (.i2l, 1) := by decide +kernel
theorem dX8_checksum_158 : decode cX8_checksum 158 = .ok (.ladd, 1) := by decide +kernel
theorem dX8_checksum_159 : decode cX8_checksum 159 = .ok (.lstore_n 1, 1) := by decide +kernel
theorem dX8_checksum_160 : decode cX8_checksum 160 = .ok (.ldc2_w 264, 3) := by decide +kernel
theorem dX8_checksum_163 : decode cX8_checksum 163 = .ok (.lload_n 1, 1) := by decide +kernel
theorem dX8_checksum_164 : decode cX8_checksum 164 = .ok (.lmul, 1) := by decide +kernel
theorem dX8_checksum_165 : decode cX8_checksum 165 = .ok (.aload_n 0, 1) := by decide +kernel
theorem dX8_checksum_166 : decode cX8_checksum 166 = .ok (.getfield 17, 3) := by decide +kernel
theorem dX8_checksum_169 : decode cX8_checksum 169 = .ok (.iload_n 3, 1) := by decide +kernel
theorem dX8_checksum_170 : decode cX8_checksum 170 = .ok (.invokestatic 180, 3) := by decide +kernel
theorem dX8_checksum_173 : decode cX8_checksum 173 = .ok (.bipush 6, 2) := by decide +kernel
theorem dX8_checksum_175 : decode cX8_checksum 175 = .ok (.iadd, 1) := by decide +kernel
theorem dX8_checksum_176 : decode cX8_checksum 176 = .ok (.iaload, 1) := by decide +kernel
theorem dX8_checksum_177 : decode cX8_checksum 177 = .ok (.i2l, 1) := by decide +kernel
theorem dX8_checksum_178 : decode cX8_checksum 178 = .ok (.ladd, 1) := by decide +kernel
theorem dX8_checksum_179 : decode cX8_checksum 179 = .ok (.lstore_n 1, 1) := by decide +kernel
theorem dX8_checksum_180 : decode cX8_checksum 180 = .ok (.ldc2_w 264, 3) := by decide +kernel
theorem dX8_checksum_183 : decode cX8_checksum 183 = .ok (.lload_n 1, 1) := by decide +kernel
theorem dX8_checksum_184 : decode cX8_checksum 184 = .ok (.lmul, 1) := by decide +kernel
theorem dX8_checksum_185 : decode cX8_checksum 185 = .ok (.aload_n 0, 1) := by decide +kernel
theorem dX8_checksum_186 : decode cX8_checksum 186 = .ok (.getfield 17, 3) := by decide +kernel
theorem dX8_checksum_189 : decode cX8_checksum 189 = .ok (.iload_n 3, 1) := by decide +kernel
theorem dX8_checksum_190 : decode cX8_checksum 190 = .ok (.invokestatic 180, 3) := by decide +kernel
theorem dX8_checksum_193 : decode cX8_checksum 193 = .ok (.iconst 4, 1) := by decide +kernel
theorem dX8_checksum_194 : decode cX8_checksum 194 = .ok (.iadd, 1) := by decide +kernel
theorem dX8_checksum_195 : decode cX8_checksum 195 = .ok (.iaload, 1) := by decide +kernel
theorem dX8_checksum_196 : decode cX8_checksum 196 = .ok (.i2l, 1) := by decide +kernel
theorem dX8_checksum_197 : decode cX8_checksum 197 = .ok (.ladd, 1) := by decide +kernel
theorem dX8_checksum_198 : decode cX8_checksum 198 = .ok (.lstore_n 1, 1) := by decide +kernel
theorem dX8_checksum_199 : decode cX8_checksum 199 = .ok (.iinc 3 1, 3) := by decide +kernel
theorem dX8_checksum_202 : decode cX8_checksum 202 = .ok (.goto (-71), 3) := by decide +kernel
theorem dX8_checksum_205 : decode cX8_checksum 205 = .ok (.lload_n 1, 1) := by decide +kernel
theorem dX8_checksum_206 : decode cX8_checksum 206 = .ok (.lreturn, 1) := by decide +kernel
end
section
/-! ===== the machine seen over a typed heap: kinds and references (sh), ints (I), longs (L), all by address; from z on ===== -/
abbrev yX : Type := Program × Launch × Env × Room × State × MethodId × Array Value × List Frame × Method × Code
abbrev yR (X : yX) : Room := X.2.2.2.1
abbrev ys (X : yX) : State := X.2.2.2.2.1
abbrev ym (X : yX) : MethodId := X.2.2.2.2.2.1
abbrev yargs (X : yX) : Array Value := X.2.2.2.2.2.2.1
abbrev ybel (X : yX) : List Frame := X.2.2.2.2.2.2.2.1
abbrev ymeth (X : yX) : Method := X.2.2.2.2.2.2.2.2.1
abbrev yc (X : yX) : Code := X.2.2.2.2.2.2.2.2.2
abbrev yW (X : yX) (H : Heap) (locs : List Loc) (k w : Nat) (Q : State → Prop) (g : JFrame) : Prop := W X.1 X.2.1 X.2.2.1 (yR X) (ys X) (ym X) (yargs X) (ybel X) (ymeth X) (yc X) H locs k w Q g
abbrev yS : Type := Nat → Nat × Nat × (Nat → Option Nat)
abbrev yI : Type := Nat → Nat → Int32
abbrev yL : Type := Nat → Nat → Int64
/-- class numbers and slots; the classes of arrays by their kinds; the String constants' addresses and their byte arrays' -/
abbrev yD : Type := va_G × (Nat → ClassId) × (Nat → Nat) × (Nat → Nat)
def yN (c : Nat) : Nat := [18, 3, 3, 2, 13, 9, 6, 3, 17].getD c 0
/-- which fields are references -/
def yrl : List (List Nat) := [[0, 2, 3, 6, 7, 8, 9, 11, 12, 13, 14, 15, 16, 17], [0, 1], [0], [0], [5, 7, 8, 9, 10, 11, 12], [0, 1], [0, 2, 3, 4], [0, 1], [1, 8, 9, 10, 11, 16]]
def yrf (c k : Nat) : Bool := (yrl.getD c []).contains k
def yfv (sh : yS) (I : yI) (a c k : Nat) : Value := if yrf c k = true then va_rf ((sh a).2.2 k) else .int (I a k)
def yCell (D : yD) (sh : yS) (I : yI) (L : yL) (a : Nat) (H : Heap) : Prop :=
  ((sh a).1 < 9 → t_OB a (D.1.1 (sh a).1) (yN (sh a).1) (D.1.2 (sh a).1) H (yfv sh I a (sh a).1)) ∧
  ((sh a).1 = 9 → H[a]? = some (arrV (D.2.1 9) (sh a).2.1 (fun j => .int (I a j)))) ∧
  ((sh a).1 = 10 → H[a]? = some (arrV (D.2.1 10) (sh a).2.1 (fun j => .int (I a j)))) ∧
  ((sh a).1 = 11 → H[a]? = some (arrV (D.2.1 11) (sh a).2.1 (fun j => .long (L a j)))) ∧
  ((sh a).1 = 12 → H[a]? = some (arrV (D.2.1 12) (sh a).2.1 (fun j => va_rf ((sh a).2.2 j)))) ∧
  ((sh a).1 = 13 → H[a]? = some (arrV (D.2.1 13) (sh a).2.1 (fun j => va_rf ((sh a).2.2 j))))
def yRep (D : yD) (z n : Nat) (sh : yS) (I : yI) (L : yL) (H : Heap) : Prop := z ≤ n ∧ H.size = n ∧ ∀ a, (sh a).1 < 14 → z ≤ a ∧ a < n ∧ yCell D sh I L a H
/-- locals -/
def yget : List (Option Value) → Nat → Option Value
  | [], _ => none
  | x :: _, 0 => x
  | _ :: l, n + 1 => yget l n
def yput : List (Option Value) → Nat → Option Value → List (Option Value)
  | [], _, _ => []
  | _ :: l, 0, v => v :: l
  | x :: l, n + 1, v => x :: yput l n v
def yLV (ls : Array Slot) (nL : Nat) (lv : List (Option Value)) : Prop := ls.size = nL ∧ lv_wf ls ∧ ∀ i v, yget lv i = some v → ls[i]? = some (.val v)
/-- no long at the place before i -/
def ynl (lv : List (Option Value)) : Nat → Bool
  | 0 => true
  | i + 1 => match yget lv i with
    | some v => v.category == 1
    | none => true
theorem yget_put_self {v : Value} : ∀ {lv : List (Option Value)} {i : Nat} {w : Value}, yget (yput lv i (some v)) i = some w → w = v
  | [], i, w, h => by simp [yput, yget] at h
  | x :: l, 0, w, h => by simp [yput, yget] at h; exact h.symm
  | x :: l, n + 1, w, h => yget_put_self (lv := l) (i := n) h
theorem yget_put_none : ∀ {lv : List (Option Value)} {i : Nat} {w : Value}, yget (yput lv i none) i = some w → False
  | [], i, w, h => by simp [yput, yget] at h
  | x :: l, 0, w, h => by simp [yput, yget] at h
  | x :: l, n + 1, w, h => yget_put_none (lv := l) (i := n) h
theorem yget_put_ne {v : Option Value} : ∀ {lv : List (Option Value)} {i j : Nat}, j ≠ i → yget (yput lv i v) j = yget lv j
  | [], i, j, h => rfl
  | x :: l, 0, 0, h => absurd rfl h
  | x :: l, 0, j + 1, h => rfl
  | x :: l, n + 1, 0, h => rfl
  | x :: l, n + 1, j + 1, h => by
    show yget (yput l n v) j = yget l j
    exact yget_put_ne (fun q => h (by rw [q]))
def yas (lv : List (Option Value)) : List (Nat × Value) := (List.range lv.length).filterMap (fun i => (yget lv i).map (fun v => (i, v)))
theorem yget_lt : ∀ {lv : List (Option Value)} {i : Nat} {v : Value}, yget lv i = some v → i < lv.length
  | [], i, v, h => by simp [yget] at h
  | x :: l, 0, v, h => by simp
  | x :: l, n + 1, v, h => by
    have := yget_lt (lv := l) (i := n) h
    simp; omega
theorem yas_mem {lv : List (Option Value)} {q : Nat × Value} : q ∈ yas lv ↔ yget lv q.1 = some q.2 := by
  unfold yas
  rw [List.mem_filterMap]
  constructor
  · rintro ⟨i, -, h⟩
    cases hg : yget lv i with
    | none => rw [hg] at h; cases h
    | some v =>
      rw [hg] at h
      cases h
      exact hg
  · intro h
    exact ⟨q.1, List.mem_range.mpr (yget_lt h), by rw [h]; rfl⟩
theorem yLV.has {ls : Array Slot} {nL : Nat} {lv : List (Option Value)} (h : yLV ls nL lv) : lv_has ls nL (yas lv) := ⟨h.1, h.2.1, fun q hq => h.2.2 q.1 q.2 (yas_mem.mp hq)⟩
/-- behind a store of one slot -/
theorem yLV.st1 {ls : Array Slot} {nL i : Nat} {lv : List (Option Value)} {v : Value} (hnl : ynl lv i = true) (h : lv_has ls nL ((i, v) :: (yas lv).filter (fun q => !(q.1 == i) && !(q.1 + 1 == i && q.2.category == 2)))) : yLV ls nL (yput lv i (some v)) := by
  refine ⟨h.1, h.2.1, fun j x hj => ?_⟩
  by_cases e : j = i
  · subst e
    rw [yget_put_self hj]
    exact h.2.2 (j, v) List.mem_cons_self
  · rw [yget_put_ne e] at hj
    refine h.2.2 (j, x) (List.mem_cons_of_mem _ (List.mem_filter.mpr ⟨yas_mem.mpr hj, ?_⟩))
    have hc : ¬ (j + 1 = i ∧ x.category = 2) := by
      rintro ⟨rfl, h2⟩
      simp only [ynl, hj] at hnl
      simp [h2] at hnl
    simp only [Bool.and_eq_true, Bool.not_eq_true', beq_eq_false_iff_ne, ne_eq, Bool.and_eq_false_iff]
    refine ⟨e, ?_⟩
    by_cases h3 : j + 1 = i
    · exact Or.inr (fun q => hc ⟨h3, q⟩)
    · exact Or.inl h3
theorem yLV.st2 {ls : Array Slot} {nL i : Nat} {lv : List (Option Value)} {v : Value} (hnl : ynl lv i = true) (h : lv_has ls nL ((i, v) :: (yas lv).filter (fun q => !(q.1 == i) && (!(q.1 == i + 1) && !(q.1 + 1 == i && q.2.category == 2))))) : yLV ls nL (yput (yput lv (i + 1) none) i (some v)) := by
  refine ⟨h.1, h.2.1, fun j x hj => ?_⟩
  by_cases e : j = i
  · subst e
    rw [yget_put_self hj]
    exact h.2.2 (j, v) List.mem_cons_self
  · rw [yget_put_ne e] at hj
    by_cases e2 : j = i + 1
    · subst e2
      exact (yget_put_none hj).elim
    · rw [yget_put_ne e2] at hj
      refine h.2.2 (j, x) (List.mem_cons_of_mem _ (List.mem_filter.mpr ⟨yas_mem.mpr hj, ?_⟩))
      have hc : ¬ (j + 1 = i ∧ x.category = 2) := by
        rintro ⟨rfl, h2⟩
        simp only [ynl, hj] at hnl
        simp [h2] at hnl
      simp only [Bool.and_eq_true, Bool.not_eq_true', beq_eq_false_iff_ne, ne_eq, Bool.and_eq_false_iff]
      refine ⟨e, e2, ?_⟩
      by_cases h3 : j + 1 = i
      · exact Or.inr (fun q => hc ⟨h3, q⟩)
      · exact Or.inl h3
/-- the words that every method stands on -/
def yT : List Cond := lw_tbl.filter goodWord
def yTys (D : yD) : List (ClassId × FieldType) := [(D.2.1 9, .byte), (D.2.1 10, .int), (D.2.1 11, .long), (D.2.1 12, .object "ChargebackProcessor$Book"), (D.2.1 13, .array .int)]
/-- the String constants: owner, pool entry, text, number -/
def yRefs : List (String × Nat × String × Nat) := [("ChargebackProcessor$Tokens", 64, "parties", 0), ("ChargebackProcessor$Tokens", 70, "reason", 1), ("ChargebackProcessor$Tokens", 72, "needs", 2), ("ChargebackProcessor$Tokens", 74, "fees", 3), ("ChargebackProcessor$Tokens", 76, "score", 4), ("ChargebackProcessor$Tokens", 78, "limit", 5), ("ChargebackProcessor$Tokens", 80, "count", 6), ("ChargebackProcessor$Tokens", 81, "needed", 7), ("ChargebackProcessor$Tokens", 83, "amount", 8), ("ChargebackProcessor$Tokens", 85, "days", 9), ("ChargebackProcessorModel", 143, "parties", 0), ("ChargebackProcessorModel", 148, "reason", 1), ("ChargebackProcessorModel", 138, "needs", 2), ("ChargebackProcessorModel", 152, "fees", 3), ("ChargebackProcessorModel", 154, "score", 4), ("ChargebackProcessorModel", 156, "limit", 5), ("ChargebackProcessorModel", 108, "count", 6), ("ChargebackProcessorModel", 114, "needed", 7), ("ChargebackProcessorModel", 116, "amount", 8), ("ChargebackProcessorModel", 118, "days", 9), ("ChargebackProcessor", 45, "the buffer has no such length", 10), ("ChargebackProcessor", 239, "there is no such index", 11), ("ChargebackProcessor", 242, "a number is out of range", 12), ("ChargebackProcessor", 183, "there are too many purchases", 13), ("ChargebackProcessor", 193, "so much of the purchase is not free to dispute", 14), ("ChargebackProcessor", 198, "it is too late, or there are too many disputes", 15), ("ChargebackProcessor", 244, "the dispute is in another state", 16), ("ChargebackProcessor", 219, "nobody can accept this dispute", 17), ("ChargebackProcessor", 227, "the days are used up", 18)]
/-- the letters of the ten words -/
def yByt : List (List Int32) := [[112, 97, 114, 116, 105, 101, 115], [114, 101, 97, 115, 111, 110], [110, 101, 101, 100, 115], [102, 101, 101, 115], [115, 99, 111, 114, 101], [108, 105, 109, 105, 116], [99, 111, 117, 110, 116], [110, 101, 101, 100, 101, 100], [97, 109, 111, 117, 110, 116], [100, 97, 121, 115]]
def yStr (D : yD) (z : Nat) (U : State) : Prop :=
  (∀ i, i < 10 → va_O "java/lang/String" (D.2.2.1 i) (fun q => z ≤ q) U U.heap ∧ va_OF "java/lang/String" "coder" "B" (.int 0) (D.2.2.1 i) (fun q => z ≤ q) U U.heap ∧ va_OF "java/lang/String" "value" "[B" (.ref (D.2.2.2 i)) (D.2.2.1 i) (fun q => z ≤ q) U U.heap ∧ va_T .byte (D.2.2.2 i) (yByt.getD i []).length (fun j => .int ((yByt.getD i []).getD j 0)) (fun q => z ≤ q) U U.heap) ∧
  (∀ q ∈ yRefs, vk_R q.1 q.2.1 q.2.2.1 (D.2.2.1 q.2.2.2) U) ∧
  va_Z "java/lang/String" "COMPACT_STRINGS" "Z" (.int 1) (fun q => z ≤ q) U U.heap ∧ va_Zq "jdk/internal/util/Preconditions" "SIOOBE_FORMATTER" "Ljava/util/function/BiFunction;" (fun q => z ≤ q) U U.heap
def yNc (U : State) : Prop := va_Nc "java/lang/IllegalArgumentException" "java/lang/IndexOutOfBoundsException" U ∧ va_Nc "java/lang/IllegalStateException" "java/lang/IndexOutOfBoundsException" U ∧ va_Nc "java/lang/IllegalStateException" "java/lang/IllegalArgumentException" U
/-- what every method knows of the state in which it begins -/
def yG (D : yD) (z : Nat) (U : State) : Prop := va_K D.1 vwCl (yTys D) U ∧ vx_Zq Bundle.tN "UNASSIGNED_STACK" Bundle.steD (fun q => z ≤ q) U U.heap ∧ vx_Zq Bundle.tN "SUPPRESSED_SENTINEL" Bundle.listD (fun q => z ≤ q) U U.heap ∧ z ≤ U.heap.size ∧ yStr D z U ∧ yNc U ∧ va_AO "ChargebackProcessor$Book" U
def yC (X : yX) (D : yD) (z : Nat) (cc : ByteArray) (own : String) (nL dep : Nat) : Prop :=
  X.1.tables.exec = Jvm.exec ∧ (yc X).code = cc ∧ (yc X).maxLocals = nL ∧ (ys X).vm.findClass own = some (ym X).cls ∧ (∀ w ∈ yT, w.before (yargs X) (ys X) = true) ∧ yG D z (ys X) ∧ dep ≤ (yR X).frames ∧ 64 * dep ≤ (yR X).locals ∧ (ymeth X).locks = false ∧ X.2.1.stackTraces = false
def Y (X : yX) (D : yD) (z nL n : Nat) (sh : yS) (I : yI) (L : yL) (k w : Nat) (Q : State → Prop) (pc : Nat) (lv : List (Option Value)) (st : List Value) : Prop :=
  ∀ (H : Heap) (locs : List Loc) (ls : Array Slot), yRep D z n sh I L H → (∀ q : Nat, q < z → H[q]? = (ys X).heap[q]?) → (∀ o ∈ locs, z ≤ o.base) → yLV ls nL lv → yW X H locs k w Q (F0 (ym X) pc ls st)
end
section
theorem yG.moved {D : yD} {z : Nat} {u U : State} (hW : u.WarmedH U.vm) (hk : ∀ q : Nat, q < z → U.heap[q]? = u.heap[q]?) (hz : z ≤ U.heap.size) (h : yG D z u) : yG D z U := by
  obtain ⟨h1, h2, h3, h4, ⟨s1, s2, s3, s4⟩, ⟨n1, n2, n3⟩, h6⟩ := h
  have hvm := hW.alike
  have hq : ∀ a : Nat, a < u.heap.size → ¬ z ≤ a → U.heap[a]? = u.heap[a]? := fun a _ ha => hk a (Nat.not_le.mp ha)
  refine ⟨va_K.moved hvm h1, vx_Zq.moved hvm (h2.kept hq), vx_Zq.moved hvm (h3.kept hq), hz, ⟨fun i hi => ?_, fun q hq2 => vk_R.warm hW (s2 q hq2), va_Z.moved hvm (s3.kept hq), va_Zq.moved hvm (s4.kept hq)⟩, ⟨?_, ?_, ?_⟩, va_AO.moved hvm h6⟩
  · obtain ⟨t1, t2, t3, t4⟩ := s1 i hi
    exact ⟨va_O.moved hvm (t1.kept hq), va_OF.moved hvm (t2.kept hq), va_OF.moved hvm (t3.kept hq), va_T.moved hvm (t4.kept hq)⟩
  · exact va_Nc.moved hvm n1
  · exact va_Nc.moved hvm n2
  · exact va_Nc.moved hvm n3
end
section
section Rows0
variable {X : yX} {D : yD} {z nL n : Nat} {sh : yS} {I : yI} {L : yL} {k w : Nat} {Q : State → Prop} {pc : Nat} {lv : List (Option Value)} {st : List Value} {cc : ByteArray} {own : String} {dep : Nat}
theorem y_iconst (hC : yC X D z cc own nL dep) {m : Int} {v : Int32} (hd : decode cc pc = .ok (.iconst m, 1)) (hv : Int32.ofInt m = v) (kk : Y X D z nL n sh I L k w Q (pc + 1) lv (.int v :: st)) : Y X D z nL n sh I L k w Q pc lv (st) := fun H locs ls h1 h2 h3 h4 => lv_iconst hC.1 hC.2.1 hd hv (kk H locs ls h1 h2 h3 h4)
theorem y_bipush (hC : yC X D z cc own nL dep) {m : Int} {v : Int32} (hd : decode cc pc = .ok (.bipush m, 2)) (hv : (Int8.ofInt m).toInt32 = v) (kk : Y X D z nL n sh I L k w Q (pc + 2) lv (.int v :: st)) : Y X D z nL n sh I L k w Q pc lv (st) := fun H locs ls h1 h2 h3 h4 => lv_bipush hC.1 hC.2.1 hd hv (kk H locs ls h1 h2 h3 h4)
theorem y_sipush (hC : yC X D z cc own nL dep) {m : Int} {v : Int32} (hd : decode cc pc = .ok (.sipush m, 3)) (hv : (Int16.ofInt m).toInt32 = v) (kk : Y X D z nL n sh I L k w Q (pc + 3) lv (.int v :: st)) : Y X D z nL n sh I L k w Q pc lv (st) := fun H locs ls h1 h2 h3 h4 => lv_sipush hC.1 hC.2.1 hd hv (kk H locs ls h1 h2 h3 h4)
theorem y_lconst (hC : yC X D z cc own nL dep) {m : Fin 2} {v : Int64} (hd : decode cc pc = .ok (.lconst m, 1)) (hv : Int64.ofNat (m : Nat) = v) (kk : Y X D z nL n sh I L k w Q (pc + 1) lv (.long v :: st)) : Y X D z nL n sh I L k w Q pc lv (st) := fun H locs ls h1 h2 h3 h4 => lv_lconst hC.1 hC.2.1 hd hv (kk H locs ls h1 h2 h3 h4)
theorem y_iload_n (hC : yC X D z cc own nL dep) {j : Fin 4} {x : Int32} (hd : decode cc pc = .ok (.iload_n j, 1)) (hl : yget lv (j : Nat) = some (.int x)) (kk : Y X D z nL n sh I L k w Q (pc + 1) lv (.int x :: st)) : Y X D z nL n sh I L k w Q pc lv (st) := fun H locs ls h1 h2 h3 h4 => lv_iload_n hC.1 hC.2.1 hd rfl (h4.2.2 _ _ hl) (kk H locs ls h1 h2 h3 h4)
theorem y_iload (hC : yC X D z cc own nL dep) {j : Nat} {x : Int32} (hd : decode cc pc = .ok (.iload j, 2)) (hl : yget lv j = some (.int x)) (kk : Y X D z nL n sh I L k w Q (pc + 2) lv (.int x :: st)) : Y X D z nL n sh I L k w Q pc lv (st) := fun H locs ls h1 h2 h3 h4 => lv_iload hC.1 hC.2.1 hd (h4.2.2 _ _ hl) (kk H locs ls h1 h2 h3 h4)
theorem y_lload_n (hC : yC X D z cc own nL dep) {j : Fin 4} {x : Int64} (hd : decode cc pc = .ok (.lload_n j, 1)) (hl : yget lv (j : Nat) = some (.long x)) (kk : Y X D z nL n sh I L k w Q (pc + 1) lv (.long x :: st)) : Y X D z nL n sh I L k w Q pc lv (st) := fun H locs ls h1 h2 h3 h4 => lv_lload_n hC.1 hC.2.1 hd rfl (h4.2.2 _ _ hl) (kk H locs ls h1 h2 h3 h4)
theorem y_lload (hC : yC X D z cc own nL dep) {j : Nat} {x : Int64} (hd : decode cc pc = .ok (.lload j, 2)) (hl : yget lv j = some (.long x)) (kk : Y X D z nL n sh I L k w Q (pc + 2) lv (.long x :: st)) : Y X D z nL n sh I L k w Q pc lv (st) := fun H locs ls h1 h2 h3 h4 => lv_lload hC.1 hC.2.1 hd (h4.2.2 _ _ hl) (kk H locs ls h1 h2 h3 h4)
theorem y_aload_n (hC : yC X D z cc own nL dep) {j : Fin 4} {x : Nat} (hd : decode cc pc = .ok (.aload_n j, 1)) (hl : yget lv (j : Nat) = some (.ref x)) (kk : Y X D z nL n sh I L k w Q (pc + 1) lv (.ref x :: st)) : Y X D z nL n sh I L k w Q pc lv (st) := fun H locs ls h1 h2 h3 h4 => lv_aload_n hC.1 hC.2.1 hd rfl (h4.2.2 _ _ hl) (kk H locs ls h1 h2 h3 h4)
theorem y_aload (hC : yC X D z cc own nL dep) {j : Nat} {x : Nat} (hd : decode cc pc = .ok (.aload j, 2)) (hl : yget lv j = some (.ref x)) (kk : Y X D z nL n sh I L k w Q (pc + 2) lv (.ref x :: st)) : Y X D z nL n sh I L k w Q pc lv (st) := fun H locs ls h1 h2 h3 h4 => lv_aload hC.1 hC.2.1 hd (h4.2.2 _ _ hl) (kk H locs ls h1 h2 h3 h4)
theorem y_istore_n (hC : yC X D z cc own nL dep) {j : Fin 4} {x : Int32} (hd : decode cc pc = .ok (.istore_n j, 1)) (hn : (j : Nat) < nL) (hnl : ynl lv j = true) (kk : Y X D z nL n sh I L k w Q (pc + 1) (yput lv j (some (.int x))) st) : Y X D z nL n sh I L k w Q pc lv (.int x :: st) := fun H locs ls h1 h2 h3 h4 => lv_istore_n hC.1 hC.2.1 hd rfl h4.has hn rfl (fun ls2 h5 => kk H locs ls2 h1 h2 h3 (yLV.st1 hnl h5))
theorem y_istore (hC : yC X D z cc own nL dep) {j : Nat} {x : Int32} (hd : decode cc pc = .ok (.istore j, 2)) (hn : j < nL) (hnl : ynl lv j = true) (kk : Y X D z nL n sh I L k w Q (pc + 2) (yput lv j (some (.int x))) st) : Y X D z nL n sh I L k w Q pc lv (.int x :: st) := fun H locs ls h1 h2 h3 h4 => lv_istore hC.1 hC.2.1 hd h4.has hn rfl (fun ls2 h5 => kk H locs ls2 h1 h2 h3 (yLV.st1 hnl h5))
theorem y_astore_n (hC : yC X D z cc own nL dep) {j : Fin 4} {x : Nat} (hd : decode cc pc = .ok (.astore_n j, 1)) (hn : (j : Nat) < nL) (hnl : ynl lv j = true) (kk : Y X D z nL n sh I L k w Q (pc + 1) (yput lv j (some (.ref x))) st) : Y X D z nL n sh I L k w Q pc lv (.ref x :: st) := fun H locs ls h1 h2 h3 h4 => lv_astore_n hC.1 hC.2.1 hd rfl h4.has hn rfl (fun ls2 h5 => kk H locs ls2 h1 h2 h3 (yLV.st1 hnl h5))
theorem y_astore (hC : yC X D z cc own nL dep) {j : Nat} {x : Nat} (hd : decode cc pc = .ok (.astore j, 2)) (hn : j < nL) (hnl : ynl lv j = true) (kk : Y X D z nL n sh I L k w Q (pc + 2) (yput lv j (some (.ref x))) st) : Y X D z nL n sh I L k w Q pc lv (.ref x :: st) := fun H locs ls h1 h2 h3 h4 => lv_astore hC.1 hC.2.1 hd h4.has hn rfl (fun ls2 h5 => kk H locs ls2 h1 h2 h3 (yLV.st1 hnl h5))
theorem y_lstore_n (hC : yC X D z cc own nL dep) {j : Fin 4} {x : Int64} (hd : decode cc pc = .ok (.lstore_n j, 1)) (hn : (j : Nat) + 1 < nL) (hnl : ynl lv j = true) (kk : Y X D z nL n sh I L k w Q (pc + 1) (yput (yput lv (j + 1) none) j (some (.long x))) st) : Y X D z nL n sh I L k w Q pc lv (.long x :: st) := fun H locs ls h1 h2 h3 h4 => lv_lstore_n hC.1 hC.2.1 hd rfl h4.has hn rfl (fun ls2 h5 => kk H locs ls2 h1 h2 h3 (yLV.st2 hnl h5))
theorem y_lstore (hC : yC X D z cc own nL dep) {j : Nat} {x : Int64} (hd : decode cc pc = .ok (.lstore j, 2)) (hn : j + 1 < nL) (hnl : ynl lv j = true) (kk : Y X D z nL n sh I L k w Q (pc + 2) (yput (yput lv (j + 1) none) j (some (.long x))) st) : Y X D z nL n sh I L k w Q pc lv (.long x :: st) := fun H locs ls h1 h2 h3 h4 => lv_lstore hC.1 hC.2.1 hd h4.has hn rfl (fun ls2 h5 => kk H locs ls2 h1 h2 h3 (yLV.st2 hnl h5))
theorem y_iinc (hC : yC X D z cc own nL dep) {j : Nat} {m : Int} {x v : Int32} (hd : decode cc pc = .ok (.iinc j m, 3)) (hl : yget lv j = some (.int x)) (hv : x + Int32.ofInt m = v) (hn : j < nL) (hnl : ynl lv j = true) (kk : Y X D z nL n sh I L k w Q (pc + 3) (yput lv j (some (.int v))) st) : Y X D z nL n sh I L k w Q pc lv st := fun H locs ls h1 h2 h3 h4 => by
  obtain ⟨q, hq⟩ := List.getElem?_of_mem (yas_mem (lv := lv) (q := (j, .int x)) |>.mpr hl)
  exact lv_iinc hC.1 hC.2.1 hd h4.has hq hv hn rfl (fun ls2 h5 => kk H locs ls2 h1 h2 h3 (yLV.st1 hnl h5))
theorem y_iadd (hC : yC X D z cc own nL dep) {x y : Int32} (hd : decode cc pc = .ok (.iadd, 1))  (kk : Y X D z nL n sh I L k w Q (pc + 1) lv (.int (x + y) :: st)) : Y X D z nL n sh I L k w Q pc lv (.int y :: .int x :: st) := fun H locs ls h1 h2 h3 h4 => lv_iadd hC.1 hC.2.1 hd (kk H locs ls h1 h2 h3 h4)
theorem y_isub (hC : yC X D z cc own nL dep) {x y : Int32} (hd : decode cc pc = .ok (.isub, 1))  (kk : Y X D z nL n sh I L k w Q (pc + 1) lv (.int (x - y) :: st)) : Y X D z nL n sh I L k w Q pc lv (.int y :: .int x :: st) := fun H locs ls h1 h2 h3 h4 => lv_isub hC.1 hC.2.1 hd (kk H locs ls h1 h2 h3 h4)
theorem y_imul (hC : yC X D z cc own nL dep) {x y : Int32} (hd : decode cc pc = .ok (.imul, 1))  (kk : Y X D z nL n sh I L k w Q (pc + 1) lv (.int (x * y) :: st)) : Y X D z nL n sh I L k w Q pc lv (.int y :: .int x :: st) := fun H locs ls h1 h2 h3 h4 => lv_imul hC.1 hC.2.1 hd (kk H locs ls h1 h2 h3 h4)
theorem y_iand (hC : yC X D z cc own nL dep) {x y : Int32} (hd : decode cc pc = .ok (.iand, 1))  (kk : Y X D z nL n sh I L k w Q (pc + 1) lv (.int (x &&& y) :: st)) : Y X D z nL n sh I L k w Q pc lv (.int y :: .int x :: st) := fun H locs ls h1 h2 h3 h4 => lv_iand hC.1 hC.2.1 hd (kk H locs ls h1 h2 h3 h4)
theorem y_ior (hC : yC X D z cc own nL dep) {x y : Int32} (hd : decode cc pc = .ok (.ior, 1))  (kk : Y X D z nL n sh I L k w Q (pc + 1) lv (.int (x ||| y) :: st)) : Y X D z nL n sh I L k w Q pc lv (.int y :: .int x :: st) := fun H locs ls h1 h2 h3 h4 => lv_ior hC.1 hC.2.1 hd (kk H locs ls h1 h2 h3 h4)
theorem y_ixor (hC : yC X D z cc own nL dep) {x y : Int32} (hd : decode cc pc = .ok (.ixor, 1))  (kk : Y X D z nL n sh I L k w Q (pc + 1) lv (.int (x ^^^ y) :: st)) : Y X D z nL n sh I L k w Q pc lv (.int y :: .int x :: st) := fun H locs ls h1 h2 h3 h4 => lv_ixor hC.1 hC.2.1 hd (kk H locs ls h1 h2 h3 h4)
theorem y_ishl (hC : yC X D z cc own nL dep) {x y : Int32} (hd : decode cc pc = .ok (.ishl, 1))  (kk : Y X D z nL n sh I L k w Q (pc + 1) lv (.int (x <<< (y &&& 31)) :: st)) : Y X D z nL n sh I L k w Q pc lv (.int y :: .int x :: st) := fun H locs ls h1 h2 h3 h4 => lv_ishl hC.1 hC.2.1 hd (kk H locs ls h1 h2 h3 h4)
theorem y_ishr (hC : yC X D z cc own nL dep) {x y : Int32} (hd : decode cc pc = .ok (.ishr, 1))  (kk : Y X D z nL n sh I L k w Q (pc + 1) lv (.int (x >>> (y &&& 31)) :: st)) : Y X D z nL n sh I L k w Q pc lv (.int y :: .int x :: st) := fun H locs ls h1 h2 h3 h4 => lv_ishr hC.1 hC.2.1 hd (kk H locs ls h1 h2 h3 h4)
theorem y_ladd (hC : yC X D z cc own nL dep) {x y : Int64} (hd : decode cc pc = .ok (.ladd, 1))  (kk : Y X D z nL n sh I L k w Q (pc + 1) lv (.long (x + y) :: st)) : Y X D z nL n sh I L k w Q pc lv (.long y :: .long x :: st) := fun H locs ls h1 h2 h3 h4 => lv_ladd hC.1 hC.2.1 hd (kk H locs ls h1 h2 h3 h4)
theorem y_lsub (hC : yC X D z cc own nL dep) {x y : Int64} (hd : decode cc pc = .ok (.lsub, 1))  (kk : Y X D z nL n sh I L k w Q (pc + 1) lv (.long (x - y) :: st)) : Y X D z nL n sh I L k w Q pc lv (.long y :: .long x :: st) := fun H locs ls h1 h2 h3 h4 => lv_lsub hC.1 hC.2.1 hd (kk H locs ls h1 h2 h3 h4)
theorem y_lmul (hC : yC X D z cc own nL dep) {x y : Int64} (hd : decode cc pc = .ok (.lmul, 1))  (kk : Y X D z nL n sh I L k w Q (pc + 1) lv (.long (x * y) :: st)) : Y X D z nL n sh I L k w Q pc lv (.long y :: .long x :: st) := fun H locs ls h1 h2 h3 h4 => lv_lmul hC.1 hC.2.1 hd (kk H locs ls h1 h2 h3 h4)
theorem y_idiv (hC : yC X D z cc own nL dep) {x y : Int32} (hd : decode cc pc = .ok (.idiv, 1)) (hne : ¬ y = 0) (kk : Y X D z nL n sh I L k w Q (pc + 1) lv (.int (x / y) :: st)) : Y X D z nL n sh I L k w Q pc lv (.int y :: .int x :: st) := fun H locs ls h1 h2 h3 h4 => lv_idiv hC.1 hC.2.1 hd hne (kk H locs ls h1 h2 h3 h4)
theorem y_irem (hC : yC X D z cc own nL dep) {x y : Int32} (hd : decode cc pc = .ok (.irem, 1)) (hne : ¬ y = 0) (kk : Y X D z nL n sh I L k w Q (pc + 1) lv (.int (x - x / y * y) :: st)) : Y X D z nL n sh I L k w Q pc lv (.int y :: .int x :: st) := fun H locs ls h1 h2 h3 h4 => lv_irem hC.1 hC.2.1 hd hne (kk H locs ls h1 h2 h3 h4)
theorem y_ldiv (hC : yC X D z cc own nL dep) {x y : Int64} (hd : decode cc pc = .ok (.ldiv, 1)) (hne : ¬ y = 0) (kk : Y X D z nL n sh I L k w Q (pc + 1) lv (.long (x / y) :: st)) : Y X D z nL n sh I L k w Q pc lv (.long y :: .long x :: st) := fun H locs ls h1 h2 h3 h4 => lv_ldiv hC.1 hC.2.1 hd hne (kk H locs ls h1 h2 h3 h4)
theorem y_ineg (hC : yC X D z cc own nL dep) {x : Int32} (hd : decode cc pc = .ok (.ineg, 1))  (kk : Y X D z nL n sh I L k w Q (pc + 1) lv (.int (-x) :: st)) : Y X D z nL n sh I L k w Q pc lv (.int x :: st) := fun H locs ls h1 h2 h3 h4 => lv_ineg hC.1 hC.2.1 hd (kk H locs ls h1 h2 h3 h4)
theorem y_iushr (hC : yC X D z cc own nL dep) {x y : Int32} (hd : decode cc pc = .ok (.iushr, 1))  (kk : Y X D z nL n sh I L k w Q (pc + 1) lv (.int (x.toUInt32 >>> (y.toUInt32 &&& Int32.toUInt32 31)).toInt32 :: st)) : Y X D z nL n sh I L k w Q pc lv (.int y :: .int x :: st) := fun H locs ls h1 h2 h3 h4 => lv_iushr hC.1 hC.2.1 hd rfl (kk H locs ls h1 h2 h3 h4)
theorem y_i2l (hC : yC X D z cc own nL dep) {x : Int32} (hd : decode cc pc = .ok (.i2l, 1))  (kk : Y X D z nL n sh I L k w Q (pc + 1) lv (.long x.toInt64 :: st)) : Y X D z nL n sh I L k w Q pc lv (.int x :: st) := fun H locs ls h1 h2 h3 h4 => lv_i2l hC.1 hC.2.1 hd rfl (kk H locs ls h1 h2 h3 h4)
theorem y_l2i (hC : yC X D z cc own nL dep) {x : Int64} (hd : decode cc pc = .ok (.l2i, 1))  (kk : Y X D z nL n sh I L k w Q (pc + 1) lv (.int x.toInt32 :: st)) : Y X D z nL n sh I L k w Q pc lv (.long x :: st) := fun H locs ls h1 h2 h3 h4 => lv_l2i hC.1 hC.2.1 hd rfl (kk H locs ls h1 h2 h3 h4)
theorem y_i2b (hC : yC X D z cc own nL dep) {x : Int32} (hd : decode cc pc = .ok (.i2b, 1))  (kk : Y X D z nL n sh I L k w Q (pc + 1) lv (.int x.toInt8.toInt32 :: st)) : Y X D z nL n sh I L k w Q pc lv (.int x :: st) := fun H locs ls h1 h2 h3 h4 => lv_i2b hC.1 hC.2.1 hd rfl (kk H locs ls h1 h2 h3 h4)
theorem y_i2c (hC : yC X D z cc own nL dep) {x : Int32} (hd : decode cc pc = .ok (.i2c, 1))  (kk : Y X D z nL n sh I L k w Q (pc + 1) lv (.int (x.toUInt32 % 65536).toInt32 :: st)) : Y X D z nL n sh I L k w Q pc lv (.int x :: st) := fun H locs ls h1 h2 h3 h4 => lv_i2c hC.1 hC.2.1 hd rfl (kk H locs ls h1 h2 h3 h4)
theorem y_lcmp (hC : yC X D z cc own nL dep) {x y : Int64} (hd : decode cc pc = .ok (.lcmp, 1))  (kk : Y X D z nL n sh I L k w Q (pc + 1) lv (.int (lg_cmp x y) :: st)) : Y X D z nL n sh I L k w Q pc lv (.long y :: .long x :: st) := fun H locs ls h1 h2 h3 h4 => W.lcmp hC.1 hC.2.1 hd (kk H locs ls h1 h2 h3 h4)
theorem y_dup (hC : yC X D z cc own nL dep) {v : Value} (hd : decode cc pc = .ok (.dup, 1)) (hv : v.category = 1) (kk : Y X D z nL n sh I L k w Q (pc + 1) lv (v :: v :: st)) : Y X D z nL n sh I L k w Q pc lv (v :: st) := fun H locs ls h1 h2 h3 h4 => lv_dup hC.1 hC.2.1 hd hv (kk H locs ls h1 h2 h3 h4)
theorem y_pop (hC : yC X D z cc own nL dep) {v : Value} (hd : decode cc pc = .ok (.pop, 1)) (hv : v.category = 1) (kk : Y X D z nL n sh I L k w Q (pc + 1) lv (st)) : Y X D z nL n sh I L k w Q pc lv (v :: st) := fun H locs ls h1 h2 h3 h4 => lv_pop hC.1 hC.2.1 hd hv (kk H locs ls h1 h2 h3 h4)
theorem y_dup2 (hC : yC X D z cc own nL dep) {v u : Value} (hd : decode cc pc = .ok (.dup2, 1)) (hv : v.category = 1) (hu : u.category = 1) (kk : Y X D z nL n sh I L k w Q (pc + 1) lv (v :: u :: v :: u :: st)) : Y X D z nL n sh I L k w Q pc lv (v :: u :: st) := fun H locs ls h1 h2 h3 h4 => lv_dup2_11 hC.1 hC.2.1 hd hv hu (kk H locs ls h1 h2 h3 h4)
theorem y_dup_x1 (hC : yC X D z cc own nL dep) {v u : Value} (hd : decode cc pc = .ok (.dup_x1, 1)) (hv : v.category = 1) (hu : u.category = 1) (kk : Y X D z nL n sh I L k w Q (pc + 1) lv (v :: u :: v :: st)) : Y X D z nL n sh I L k w Q pc lv (v :: u :: st) := fun H locs ls h1 h2 h3 h4 => lv_dup_x1 hC.1 hC.2.1 hd hv hu (kk H locs ls h1 h2 h3 h4)
theorem y_dup_x2 (hC : yC X D z cc own nL dep) {v u t : Value} (hd : decode cc pc = .ok (.dup_x2, 1)) (hv : v.category = 1) (hu : u.category = 1) (ht : t.category = 1) (kk : Y X D z nL n sh I L k w Q (pc + 1) lv (v :: u :: t :: v :: st)) : Y X D z nL n sh I L k w Q pc lv (v :: u :: t :: st) := fun H locs ls h1 h2 h3 h4 => lv_dup_x2 hC.1 hC.2.1 hd hv hu ht (kk H locs ls h1 h2 h3 h4)
theorem y_icmp_eq (hC : yC X D z cc own nL dep) {x y : Int32} {off : Int} {tgt : Nat} (hd : decode cc pc = .ok (.if_icmp .eq off, 3)) (ht : (pc : Int) + off = (tgt : Int)) (kt : x = y → Y X D z nL n sh I L k w Q tgt lv st) (kf : ¬ x = y → Y X D z nL n sh I L k w Q (pc + 3) lv st) : Y X D z nL n sh I L k w Q pc lv (.int y :: .int x :: st) := fun H locs ls h1 h2 h3 h4 => lv_icmp_eq hC.1 hC.2.1 hd ht (fun h => kt h H locs ls h1 h2 h3 h4) (fun h => kf h H locs ls h1 h2 h3 h4)
theorem y_if_eq (hC : yC X D z cc own nL dep) {x : Int32} {off : Int} {tgt : Nat} (hd : decode cc pc = .ok (.ifCond .eq off, 3)) (ht : (pc : Int) + off = (tgt : Int)) (kt : x = 0 → Y X D z nL n sh I L k w Q tgt lv st) (kf : ¬ x = 0 → Y X D z nL n sh I L k w Q (pc + 3) lv st) : Y X D z nL n sh I L k w Q pc lv (.int x :: st) := fun H locs ls h1 h2 h3 h4 => lv_if_eq hC.1 hC.2.1 hd ht (fun h => kt h H locs ls h1 h2 h3 h4) (fun h => kf h H locs ls h1 h2 h3 h4)
theorem y_icmp_ne (hC : yC X D z cc own nL dep) {x y : Int32} {off : Int} {tgt : Nat} (hd : decode cc pc = .ok (.if_icmp .ne off, 3)) (ht : (pc : Int) + off = (tgt : Int)) (kt : ¬ x = y → Y X D z nL n sh I L k w Q tgt lv st) (kf : x = y → Y X D z nL n sh I L k w Q (pc + 3) lv st) : Y X D z nL n sh I L k w Q pc lv (.int y :: .int x :: st) := fun H locs ls h1 h2 h3 h4 => lv_icmp_ne hC.1 hC.2.1 hd ht (fun h => kt h H locs ls h1 h2 h3 h4) (fun h => kf h H locs ls h1 h2 h3 h4)
theorem y_if_ne (hC : yC X D z cc own nL dep) {x : Int32} {off : Int} {tgt : Nat} (hd : decode cc pc = .ok (.ifCond .ne off, 3)) (ht : (pc : Int) + off = (tgt : Int)) (kt : ¬ x = 0 → Y X D z nL n sh I L k w Q tgt lv st) (kf : x = 0 → Y X D z nL n sh I L k w Q (pc + 3) lv st) : Y X D z nL n sh I L k w Q pc lv (.int x :: st) := fun H locs ls h1 h2 h3 h4 => lv_if_ne hC.1 hC.2.1 hd ht (fun h => kt h H locs ls h1 h2 h3 h4) (fun h => kf h H locs ls h1 h2 h3 h4)
theorem y_icmp_lt (hC : yC X D z cc own nL dep) {x y : Int32} {off : Int} {tgt : Nat} (hd : decode cc pc = .ok (.if_icmp .lt off, 3)) (ht : (pc : Int) + off = (tgt : Int)) (kt : x < y → Y X D z nL n sh I L k w Q tgt lv st) (kf : ¬ x < y → Y X D z nL n sh I L k w Q (pc + 3) lv st) : Y X D z nL n sh I L k w Q pc lv (.int y :: .int x :: st) := fun H locs ls h1 h2 h3 h4 => lv_icmp_lt hC.1 hC.2.1 hd ht (fun h => kt h H locs ls h1 h2 h3 h4) (fun h => kf h H locs ls h1 h2 h3 h4)
theorem y_if_lt (hC : yC X D z cc own nL dep) {x : Int32} {off : Int} {tgt : Nat} (hd : decode cc pc = .ok (.ifCond .lt off, 3)) (ht : (pc : Int) + off = (tgt : Int)) (kt : x < 0 → Y X D z nL n sh I L k w Q tgt lv st) (kf : ¬ x < 0 → Y X D z nL n sh I L k w Q (pc + 3) lv st) : Y X D z nL n sh I L k w Q pc lv (.int x :: st) := fun H locs ls h1 h2 h3 h4 => lv_if_lt hC.1 hC.2.1 hd ht (fun h => kt h H locs ls h1 h2 h3 h4) (fun h => kf h H locs ls h1 h2 h3 h4)
theorem y_icmp_ge (hC : yC X D z cc own nL dep) {x y : Int32} {off : Int} {tgt : Nat} (hd : decode cc pc = .ok (.if_icmp .ge off, 3)) (ht : (pc : Int) + off = (tgt : Int)) (kt : y ≤ x → Y X D z nL n sh I L k w Q tgt lv st) (kf : ¬ y ≤ x → Y X D z nL n sh I L k w Q (pc + 3) lv st) : Y X D z nL n sh I L k w Q pc lv (.int y :: .int x :: st) := fun H locs ls h1 h2 h3 h4 => lv_icmp_ge hC.1 hC.2.1 hd ht (fun h => kt h H locs ls h1 h2 h3 h4) (fun h => kf h H locs ls h1 h2 h3 h4)
theorem y_if_ge (hC : yC X D z cc own nL dep) {x : Int32} {off : Int} {tgt : Nat} (hd : decode cc pc = .ok (.ifCond .ge off, 3)) (ht : (pc : Int) + off = (tgt : Int)) (kt : 0 ≤ x → Y X D z nL n sh I L k w Q tgt lv st) (kf : ¬ 0 ≤ x → Y X D z nL n sh I L k w Q (pc + 3) lv st) : Y X D z nL n sh I L k w Q pc lv (.int x :: st) := fun H locs ls h1 h2 h3 h4 => lv_if_ge hC.1 hC.2.1 hd ht (fun h => kt h H locs ls h1 h2 h3 h4) (fun h => kf h H locs ls h1 h2 h3 h4)
theorem y_icmp_gt (hC : yC X D z cc own nL dep) {x y : Int32} {off : Int} {tgt : Nat} (hd : decode cc pc = .ok (.if_icmp .gt off, 3)) (ht : (pc : Int) + off = (tgt : Int)) (kt : y < x → Y X D z nL n sh I L k w Q tgt lv st) (kf : ¬ y < x → Y X D z nL n sh I L k w Q (pc + 3) lv st) : Y X D z nL n sh I L k w Q pc lv (.int y :: .int x :: st) := fun H locs ls h1 h2 h3 h4 => lv_icmp_gt hC.1 hC.2.1 hd ht (fun h => kt h H locs ls h1 h2 h3 h4) (fun h => kf h H locs ls h1 h2 h3 h4)
theorem y_if_gt (hC : yC X D z cc own nL dep) {x : Int32} {off : Int} {tgt : Nat} (hd : decode cc pc = .ok (.ifCond .gt off, 3)) (ht : (pc : Int) + off = (tgt : Int)) (kt : 0 < x → Y X D z nL n sh I L k w Q tgt lv st) (kf : ¬ 0 < x → Y X D z nL n sh I L k w Q (pc + 3) lv st) : Y X D z nL n sh I L k w Q pc lv (.int x :: st) := fun H locs ls h1 h2 h3 h4 => lv_if_gt hC.1 hC.2.1 hd ht (fun h => kt h H locs ls h1 h2 h3 h4) (fun h => kf h H locs ls h1 h2 h3 h4)
theorem y_icmp_le (hC : yC X D z cc own nL dep) {x y : Int32} {off : Int} {tgt : Nat} (hd : decode cc pc = .ok (.if_icmp .le off, 3)) (ht : (pc : Int) + off = (tgt : Int)) (kt : x ≤ y → Y X D z nL n sh I L k w Q tgt lv st) (kf : ¬ x ≤ y → Y X D z nL n sh I L k w Q (pc + 3) lv st) : Y X D z nL n sh I L k w Q pc lv (.int y :: .int x :: st) := fun H locs ls h1 h2 h3 h4 => lv_icmp_le hC.1 hC.2.1 hd ht (fun h => kt h H locs ls h1 h2 h3 h4) (fun h => kf h H locs ls h1 h2 h3 h4)
theorem y_if_le (hC : yC X D z cc own nL dep) {x : Int32} {off : Int} {tgt : Nat} (hd : decode cc pc = .ok (.ifCond .le off, 3)) (ht : (pc : Int) + off = (tgt : Int)) (kt : x ≤ 0 → Y X D z nL n sh I L k w Q tgt lv st) (kf : ¬ x ≤ 0 → Y X D z nL n sh I L k w Q (pc + 3) lv st) : Y X D z nL n sh I L k w Q pc lv (.int x :: st) := fun H locs ls h1 h2 h3 h4 => lv_if_le hC.1 hC.2.1 hd ht (fun h => kt h H locs ls h1 h2 h3 h4) (fun h => kf h H locs ls h1 h2 h3 h4)
theorem y_goto (hC : yC X D z cc own nL dep) {off : Int} {tgt : Nat} (hd : decode cc pc = .ok (.goto off, 3)) (ht : (pc : Int) + off = (tgt : Int)) (kk : Y X D z nL n sh I L k w Q tgt lv st) : Y X D z nL n sh I L k w Q pc lv st := fun H locs ls h1 h2 h3 h4 => lv_goto hC.1 hC.2.1 hd ht (kk H locs ls h1 h2 h3 h4)
theorem y_tableOut (hC : yC X D z cc own nL dep) {dflt lo hi : Int} {offs : Array Int} {len : Nat} {x : Int32} {tgt : Nat} (hd : decode cc pc = .ok (.tableswitch dflt lo hi offs, len)) (h : x.toInt < lo ∨ hi < x.toInt) (ht : (pc : Int) + dflt = (tgt : Int)) (kk : Y X D z nL n sh I L k w Q tgt lv st) : Y X D z nL n sh I L k w Q pc lv (.int x :: st) := fun H locs ls h1 h2 h3 h4 => lv_tableOut hC.1 hC.2.1 hd h ht (kk H locs ls h1 h2 h3 h4)
theorem y_tableIn (hC : yC X D z cc own nL dep) {dflt lo hi : Int} {offs : Array Int} {len : Nat} {x : Int32} {off : Int} {tgt : Nat} (hd : decode cc pc = .ok (.tableswitch dflt lo hi offs, len)) (g1 : ¬ x.toInt < lo) (g2 : ¬ hi < x.toInt) (ho : offs[(x.toInt - lo).toNat]? = some off) (ht : (pc : Int) + off = (tgt : Int)) (kk : Y X D z nL n sh I L k w Q tgt lv st) : Y X D z nL n sh I L k w Q pc lv (.int x :: st) := fun H locs ls h1 h2 h3 h4 => lv_tableIn hC.1 hC.2.1 hd g1 g2 ho ht (kk H locs ls h1 h2 h3 h4)
theorem y_lookup (hC : yC X D z cc own nL dep) {dflt : Int} {ps : Array (Int × Int)} {len : Nat} {x : Int32} {off : Int} {tgt : Nat} (hd : decode cc pc = .ok (.lookupswitch dflt ps, len)) (hp : (ps.toList.zip (ps.toList.drop 1)).all (fun (a, next) => a.1 < next.1) = true) (ho : Op.lookupswitch.offset ps.toList dflt x.toInt = off) (ht : (pc : Int) + off = (tgt : Int)) (kk : Y X D z nL n sh I L k w Q tgt lv st) : Y X D z nL n sh I L k w Q pc lv (.int x :: st) := fun H locs ls h1 h2 h3 h4 => lv_lookup hC.1 hC.2.1 hd hp ho ht (kk H locs ls h1 h2 h3 h4)
theorem y_ldc (hC : yC X D z cc own nL dep) {idx : Nat} {v : Int32} (hc : Cond.constant own idx v ∈ yT) (hd : decode cc pc = .ok (.ldc idx, 2)) (kk : Y X D z nL n sh I L k w Q (pc + 2) lv (.int v :: st)) : Y X D z nL n sh I L k w Q pc lv st := fun H locs ls h1 h2 h3 h4 => lv_ldc hC.1 hC.2.1 hC.2.2.2.1 (hC.2.2.2.2.1 _ hc) hd (kk H locs ls h1 h2 h3 h4)
theorem y_ldcw (hC : yC X D z cc own nL dep) {idx : Nat} {v : Int32} (hc : Cond.constant own idx v ∈ yT) (hd : decode cc pc = .ok (.ldc_w idx, 3)) (kk : Y X D z nL n sh I L k w Q (pc + 3) lv (.int v :: st)) : Y X D z nL n sh I L k w Q pc lv st := fun H locs ls h1 h2 h3 h4 => lv_ldcw hC.1 hC.2.1 hC.2.2.2.1 (hC.2.2.2.2.1 _ hc) hd (kk H locs ls h1 h2 h3 h4)
theorem y_ldc2 (hC : yC X D z cc own nL dep) {idx : Nat} {v : Int64} (hc : Cond.constantLong own idx v ∈ yT) (hd : decode cc pc = .ok (.ldc2_w idx, 3)) (kk : Y X D z nL n sh I L k w Q (pc + 3) lv (.long v :: st)) : Y X D z nL n sh I L k w Q pc lv st := fun H locs ls h1 h2 h3 h4 => lv_ldc2 hC.1 hC.2.1 hC.2.2.2.1 (hC.2.2.2.2.1 _ hc) hd (kk H locs ls h1 h2 h3 h4)
theorem y_ldcS (hC : yC X D z cc own nL dep) {idx j : Nat} {tx : String} (hc : (own, idx, tx, j) ∈ yRefs) (hd : decode cc pc = .ok (.ldc idx, 2)) (kk : Y X D z nL n sh I L k w Q (pc + 2) lv (.ref (D.2.2.1 j) :: st)) : Y X D z nL n sh I L k w Q pc lv st := fun H locs ls h1 h2 h3 h4 => va_ldcS hC.1 hC.2.1 hC.2.2.2.1 (hC.2.2.2.2.2.1.2.2.2.2.1.2.1 _ hc) hd (kk H locs ls h1 h2 h3 h4)
theorem y_widen {k2 w2 : Nat} (e1 : k ≤ k2) (e2 : w ≤ w2) (kk : Y X D z nL n sh I L k2 w2 Q pc lv st) : Y X D z nL n sh I L k w Q pc lv st := fun H locs ls h1 h2 h3 h4 => W.widen e1 e2 (kk H locs ls h1 h2 h3 h4)
theorem y_lv {lv2 : List (Option Value)} (e : ∀ i v, yget lv2 i = some v → yget lv i = some v) (kk : Y X D z nL n sh I L k w Q pc lv2 st) : Y X D z nL n sh I L k w Q pc lv st := fun H locs ls h1 h2 h3 h4 => kk H locs ls h1 h2 h3 ⟨h4.1, h4.2.1, fun i v h => h4.2.2 i v (e i v h)⟩
end Rows0
end
section
def yCls (ci : Nat) (C : String) (T : u_T) (ty : Nat → FieldType) : Prop := vwCl[ci]? = some (C, T, yN ci) ∧ ci < 9 ∧ (∀ w ∈ u_ws C T (yN ci), w ∈ yT) ∧ (∀ k, k < yN ci → parseFieldDescriptor (T k).2.2.1 = some (ty k)) ∧ (∀ a, a < yN ci → ∀ b, b < yN ci → a ≠ b → (T a).2.1 ≠ (T b).2.1) ∧ (∀ k, k < yN ci → defaultValue (ty k) = if yrf ci k = true then .null else .int 0) ∧ Cond.instantiable C (yN ci) ∈ yT ∧ Cond.initialized C ∈ yT
/-- the pool entry idx of own is field k of class ci -/
def yFL (own : String) (idx ci k : Nat) (ty : FieldType) (fin : Bool) : Prop := ∃ (C : String) (T : u_T) (tyf : Nat → FieldType), yCls ci C T tyf ∧ k < yN ci ∧ Cond.fieldLink own idx (T k).1 (T k).2.1 (T k).2.2.1 ∈ yT ∧ tyf k = ty ∧ (T k).2.2.2 = fin ∧ (T k).1 = C
def up2 (I : yI) (a j : Nat) (v : Int32) : yI := va_up I a (upd (I a) j v)
def up2L (L : yL) (a j : Nat) (v : Int64) : yL := va_up L a (vp_updL (L a) j v)
def upr (sh : yS) (a j : Nat) (v : Option Nat) : yS := va_up sh a ((sh a).1, (sh a).2.1, va_up (sh a).2.2 j v)
theorem yCell.kept {D : yD} {sh sh' : yS} {I I' : yI} {L L' : yL} {b : Nat} {H H1 : Heap} (h : yCell D sh I L b H) (e1 : sh' b = sh b) (e2 : I' b = I b) (e3 : L' b = L b) (e4 : H1[b]? = H[b]?) : yCell D sh' I' L' b H1 := by
  obtain ⟨a1, a2, a3, a4, a5, a6⟩ := h
  have ef : ∀ c, yfv sh' I' b c = yfv sh I b c := fun c => by funext k; simp only [yfv, e1, e2]
  refine ⟨?_, ?_, ?_, ?_, ?_, ?_⟩
  · rw [e1, ef]; exact fun h => (a1 h).kept e4
  · rw [e1, e2, e4]; exact a2
  · rw [e1, e2, e4]; exact a3
  · rw [e1, e3, e4]; exact a4
  · rw [e1, e4]; exact a5
  · rw [e1, e4]; exact a6
/-- one cell has changed -/
theorem yRep.at {D : yD} {z n : Nat} {sh sh' : yS} {I I' : yI} {L L' : yL} {H H1 : Heap} {a : Nat} (h : yRep D z n sh I L H) (ha : z ≤ a) (han : a < n) (hz : H1.size = H.size) (ho : ∀ q, q ≠ a → H1[q]? = H[q]?) (e1 : ∀ b, b ≠ a → sh' b = sh b) (e2 : ∀ b, b ≠ a → I' b = I b) (e3 : ∀ b, b ≠ a → L' b = L b) (hc : yCell D sh' I' L' a H1) : yRep D z n sh' I' L' H1 := by
  refine ⟨h.1, hz.trans h.2.1, fun b hb => ?_⟩
  by_cases e : b = a
  · subst e
    exact ⟨ha, han, hc⟩
  · rw [e1 b e] at hb
    obtain ⟨q1, q2, q3⟩ := h.2.2 b hb
    exact ⟨q1, q2, q3.kept (e1 b e) (e2 b e) (e3 b e) (ho b e)⟩
theorem yold {z a : Nat} {H H1 : Heap} {S : State} (ha : z ≤ a) (ho : ∀ q : Nat, q ≠ a → H1[q]? = H[q]?) (h2 : ∀ q : Nat, q < z → H[q]? = S.heap[q]?) : ∀ q : Nat, q < z → H1[q]? = S.heap[q]? := fun q hq => (ho q (by omega)).trans (h2 q hq)
theorem yloc {z a j : Nat} {locs : List Loc} (ha : z ≤ a) (h3 : ∀ o ∈ locs, z ≤ o.base) : ∀ o ∈ locs ++ [⟨a, j⟩], z ≤ o.base := fun o ho => by
  rcases List.mem_append.mp ho with h | h
  · exact h3 o h
  · rw [List.mem_singleton.mp h]; exact ha
/-- a new cell at the end -/
theorem yRep.push {D : yD} {z n : Nat} {sh : yS} {I : yI} {L : yL} {H H1 : Heap} {c : Nat × Nat × (Nat → Option Nat)} {r : Nat → Int32} {q : Nat → Int64} (h : yRep D z n sh I L H) (hz : H1.size = n + 1) (ho : ∀ q : Nat, q < n → H1[q]? = H[q]?) (hc : yCell D (va_up sh n c) (va_up I n r) (va_up L n q) n H1) : yRep D z (n + 1) (va_up sh n c) (va_up I n r) (va_up L n q) H1 := by
  refine ⟨Nat.le_succ_of_le h.1, hz, fun b hb => ?_⟩
  by_cases e : b = n
  · subst e
    exact ⟨h.1, Nat.lt_succ_self _, hc⟩
  · rw [va_up_ne _ _ e] at hb
    obtain ⟨q1, q2, q3⟩ := h.2.2 b hb
    exact ⟨q1, Nat.lt_succ_of_lt q2, q3.kept (va_up_ne _ _ e) (va_up_ne _ _ e) (va_up_ne _ _ e) (ho b q2)⟩
section RowsH
variable {X : yX} {D : yD} {z nL n : Nat} {sh : yS} {I : yI} {L : yL} {k w : Nat} {Q : State → Prop} {pc : Nat} {lv : List (Option Value)} {st : List Value} {cc : ByteArray} {own : String} {dep : Nat}
theorem y_getf (hC : yC X D z cc own nL dep) {a ci j idx : Nat} {ty : FieldType} {fin : Bool} (ha : (sh a).1 = ci) (hfl : yFL own idx ci j ty fin) (hd : decode cc pc = .ok (.getfield idx, 3)) (kk : Y X D z nL n sh I L k w Q (pc + 3) lv (yfv sh I a ci j :: st)) : Y X D z nL n sh I L k w Q pc lv (.ref a :: st) := by
  intro H locs ls h1 h2 h3 h4
  obtain ⟨C, T, tyf, ⟨hc, hlt, hin, -, -, -⟩, hk, hlink, -, -, -⟩ := hfl
  obtain ⟨hx, hb, -, hown, hts, ⟨hK, -⟩, -⟩ := hC
  have hob := (h1.2.2 a (by rw [ha]; omega)).2.2.1 (by rw [ha]; exact hlt)
  rw [ha] at hob
  obtain ⟨cell, q1, q2, q3, q4⟩ := hob
  obtain ⟨hS, hfc, kC, hkC, hkind⟩ := hK.1 ci _ hc
  obtain ⟨cf, kf, fi, f, hi, hsl⟩ := hS j hk
  refine W.getf hx hb hown (hts _ hlink) hi (u_facts hfc hkC (u_lays hts hin hk) hi).1 q1 (by rw [q3]; exact fun h => by cases h) (v := yfv sh I a ci j) ?_ rfl rfl hd (kk H locs ls h1 h2 h3 h4)
  rw [hsl, q4 j hk]
theorem y_getI (hC : yC X D z cc own nL dep) {a ci j idx : Nat} {ty : FieldType} {fin : Bool} (ha : (sh a).1 = ci) (hfl : yFL own idx ci j ty fin) (hr : yrf ci j = false) (hd : decode cc pc = .ok (.getfield idx, 3)) (kk : Y X D z nL n sh I L k w Q (pc + 3) lv (.int (I a j) :: st)) : Y X D z nL n sh I L k w Q pc lv (.ref a :: st) := by
  refine y_getf hC ha hfl hd ?_
  rw [show yfv sh I a ci j = .int (I a j) by simp [yfv, hr]]
  exact kk
theorem y_getR (hC : yC X D z cc own nL dep) {a b ci j idx : Nat} {ty : FieldType} {fin : Bool} (ha : (sh a).1 = ci) (hv : (sh a).2.2 j = some b) (hfl : yFL own idx ci j ty fin) (hr : yrf ci j = true) (hd : decode cc pc = .ok (.getfield idx, 3)) (kk : Y X D z nL n sh I L k w Q (pc + 3) lv (.ref b :: st)) : Y X D z nL n sh I L k w Q pc lv (.ref a :: st) := by
  refine y_getf hC ha hfl hd ?_
  rw [show yfv sh I a ci j = .ref b by simp [yfv, hr, hv, va_rf]]
  exact kk
theorem y_putf (hC : yC X D z cc own nL dep) {sh' : yS} {I' : yI} {a ci j idx : Nat} {ty : FieldType} {fin : Bool} {v : Value} (ha : (sh a).1 = ci) (hfl : yFL own idx ci j ty fin) (hfin : fin = false ∨ ((ymeth X).name = "<init>" ∧ ∀ C T tyf, yCls ci C T tyf → C = own)) (hn : narrow ty v = v) (hfit : fits ty v = true) (hd : decode cc pc = .ok (.putfield idx, 3))
    (e0 : (sh' a).1 = ci) (e1 : ∀ b, b ≠ a → sh' b = sh b) (e2 : ∀ b, b ≠ a → I' b = I b) (e3 : ∀ i, i < yN ci → updV (yfv sh I a ci) j v i = yfv sh' I' a ci i)
    (kk : Y X D z nL n sh' I' L k w Q (pc + 3) lv st) : Y X D z nL n sh I L k w Q pc lv (v :: .ref a :: st) := by
  intro H locs ls h1 h2 h3 h4
  have hfl2 := hfl
  obtain ⟨C, T, tyf, hcls, hk, hlink, hty, hfi, hdecl⟩ := hfl2
  have hcls2 := hcls
  obtain ⟨hc, hlt, hin, hpt, hnm, -, -, -⟩ := hcls2
  obtain ⟨hx, hb, -, hown, hts, ⟨hK, -⟩, -⟩ := hC
  obtain ⟨hza, hna, hcell⟩ := h1.2.2 a (by rw [ha]; omega)
  have hob := hcell.1 (by rw [ha]; exact hlt)
  rw [ha] at hob
  have hap := va_apart (own := own) hts hin tyf hpt hnm hK hc
  obtain ⟨cell, q1, q2, q3, q4⟩ := hob
  obtain ⟨hS, hfc, kC, hkC, hkind⟩ := hK.1 ci _ hc
  obtain ⟨cf, kf, fi, f, hi, hsl⟩ := hS j hk
  have hlay := hts _ (hin _ (u_in_lay hk))
  have hst := (u_facts hfc hkC (u_lays hts hin hk) hi).1
  have hpd : parseFieldDescriptor (T j).2.2.1 = some ty := by rw [hpt j hk, hty]
  have key : ∀ H1 : Heap, H1[a]? = some (cell.setSlot f.slot v) → H1.size = H.size → (∀ q, q ≠ a → H1[q]? = H[q]?) → yW X H1 (locs ++ [⟨a, f.slot⟩]) k w Q (F0 (ym X) (pc + 3) ls st) := by
    intro H1 g1 g2 g3
    rw [hsl] at g1 ⊢
    refine kk H1 _ ls (h1.at hza hna g2 g3 e1 e2 (fun _ _ => rfl) ?_) (yold hza g3 h2) (yloc hza h3) h4
    refine ⟨fun _ => ?_, fun q => ?_, fun q => ?_, fun q => ?_, fun q => ?_, fun q => ?_⟩
    · rw [e0]
      exact t_OB.to (V := updV (yfv sh I a ci) j v) ⟨_, g1, q2, q3, t_set q4 hap hk v⟩ e3
    all_goals (rw [e0] at q; omega)
  unfold u_lay at hlay
  rcases hfin with hfin | ⟨hin2, hown2⟩
  · rw [if_neg (by rw [hfi, hfin]; decide)] at hlay
    have h6 := u_store hfc hkC hkind hlay hi hpd hn hfit
    exact W.putK hx hb (f := f) ⟨hown, hts _ hlink, ⟨_, _, _, hi⟩, hst⟩ (by rw [q2]; exact h6) q1 q3 (by rw [hsl]; exact k2_hasslot (q4 j hk)) rfl rfl hd key
  · cases hf : (T j).2.2.2 with
    | false =>
      rw [if_neg (by rw [hf]; decide)] at hlay
      have h6 := u_store hfc hkC hkind hlay hi hpd hn hfit
      exact W.putK hx hb (f := f) ⟨hown, hts _ hlink, ⟨_, _, _, hi⟩, hst⟩ (by rw [q2]; exact h6) q1 q3 (by rw [hsl]; exact k2_hasslot (q4 j hk)) rfl rfl hd key
    | true =>
      rw [if_pos hf] at hlay
      have hcf : (ym X).cls = cf := by
        obtain ⟨_, _, c', _, _, _, -, -, hf', -, -, -, hown3, -⟩ := Cond.laysFinal_spec hlay
        have e1 : c' = cf := by have := hi.symm.trans hf'; simp at this; exact this.1.symm
        rw [hdecl, hown2 C T tyf hcls] at hown3
        rw [← e1]; exact Option.some.inj (hown.symm.trans hown3)
      have h6 := u_fits hfc hkC hkind (Or.inr hlay) hi hpd hn hfit
      exact W.putFinK hx hb hown (hts _ hlink) hi hst hcf hin2 (by rw [q2]; exact h6) q1 q3 (by rw [hsl]; exact k2_hasslot (q4 j hk)) rfl rfl hd key
end RowsH
end
section
section RowsA
variable {X : yX} {D : yD} {z nL n : Nat} {sh : yS} {I : yI} {L : yL} {k w : Nat} {Q : State → Prop} {pc : Nat} {lv : List (Option Value)} {st : List Value} {cc : ByteArray} {own : String} {dep : Nat}
theorem y_putI (hC : yC X D z cc own nL dep) {a ci j idx : Nat} {fin : Bool} {v : Int32} (ha : (sh a).1 = ci) (hfl : yFL own idx ci j .int fin) (hr : yrf ci j = false) (hfin : fin = false ∨ ((ymeth X).name = "<init>" ∧ ∀ C T tyf, yCls ci C T tyf → C = own)) (hd : decode cc pc = .ok (.putfield idx, 3))
    (kk : Y X D z nL n sh (up2 I a j v) L k w Q (pc + 3) lv st) : Y X D z nL n sh I L k w Q pc lv (.int v :: .ref a :: st) := by
  refine y_putf hC ha hfl hfin rfl rfl hd ha (fun _ _ => rfl) (fun b hb => va_up_ne _ _ hb) (fun i hi => ?_) kk
  by_cases e : i = j
  · subst e; simp [updV, yfv, hr, up2, va_up, upd]
  · simp [updV, yfv, e, up2, va_up, upd]
theorem y_putZ (hC : yC X D z cc own nL dep) {a ci j idx : Nat} {v : Int32} (ha : (sh a).1 = ci) (hfl : yFL own idx ci j .boolean false) (hr : yrf ci j = false) (hv : narrow .boolean (.int v) = .int v ∧ fits .boolean (.int v) = true) (hd : decode cc pc = .ok (.putfield idx, 3))
    (kk : Y X D z nL n sh (up2 I a j v) L k w Q (pc + 3) lv st) : Y X D z nL n sh I L k w Q pc lv (.int v :: .ref a :: st) := by
  refine y_putf hC ha hfl (Or.inl rfl) hv.1 hv.2 hd ha (fun _ _ => rfl) (fun b hb => va_up_ne _ _ hb) (fun i hi => ?_) kk
  by_cases e : i = j
  · subst e; simp [updV, yfv, hr, up2, va_up, upd]
  · simp [updV, yfv, e, up2, va_up, upd]
theorem y_putR (hC : yC X D z cc own nL dep) {a b ci j idx : Nat} {ty : FieldType} {fin : Bool} (ha : (sh a).1 = ci) (hfl : yFL own idx ci j ty fin) (hr : yrf ci j = true) (hty : narrow ty (.ref b) = .ref b ∧ fits ty (.ref b) = true) (hfin : fin = false ∨ ((ymeth X).name = "<init>" ∧ ∀ C T tyf, yCls ci C T tyf → C = own)) (hd : decode cc pc = .ok (.putfield idx, 3))
    (kk : Y X D z nL n (upr sh a j (some b)) I L k w Q (pc + 3) lv st) : Y X D z nL n sh I L k w Q pc lv (.ref b :: .ref a :: st) := by
  refine y_putf hC ha hfl hfin hty.1 hty.2 hd (by simp [upr, va_up, ha]) (fun c hc => va_up_ne _ _ hc) (fun _ _ => rfl) (fun i hi => ?_) kk
  by_cases e : i = j
  · subst e; simp [updV, yfv, hr, upr, va_up, va_rf]
  · simp [updV, yfv, e, upr, va_up]
def yArr (sh : yS) (a t len : Nat) : Prop := (sh a).1 = t ∧ (sh a).2.1 = len
theorem yK_at (hC : yC X D z cc own nL dep) {t : Nat} {cA : ClassId} {ty : FieldType} (h : (yTys D)[t]? = some (cA, ty)) : ArrOfT (ys X) cA ty ∧ va_RA (ys X) cA ty := hC.2.2.2.2.2.1.1.2 t _ h
theorem y_iald (hC : yC X D z cc own nL dep) {a len : Nat} {i : Int32} (ha : yArr sh a 10 len) (hin : vp_in i len) (hd : decode cc pc = .ok (.iaload, 1)) (kk : Y X D z nL n sh I L k w Q (pc + 1) lv (.int (I a i.toNatClampNeg) :: st)) : Y X D z nL n sh I L k w Q pc lv (.int i :: .ref a :: st) := by
  intro H locs ls h1 h2 h3 h4
  have hlt : i.toNatClampNeg < len := Nat.not_le.mp fun q => hin (Or.inr q)
  have hc := (h1.2.2 a (by rw [ha.1]; omega)).2.2.2.2.1 ha.1
  rw [ha.2] at hc
  exact W.iald (v := .int (I a i.toNatClampNeg)) hC.1 hC.2.1 hc ((yK_at hC (t := 1) rfl).1 _ _) (fun q => by cases q) (by rw [arrV_size]; exact hin) (by rw [arrV_read _ _ hlt]) rfl rfl hd (kk H locs ls h1 h2 h3 h4)
theorem y_bald (hC : yC X D z cc own nL dep) {a len : Nat} {i : Int32} (ha : yArr sh a 9 len) (hin : vp_in i len) (hd : decode cc pc = .ok (.baload, 1)) (kk : Y X D z nL n sh I L k w Q (pc + 1) lv (.int (I a i.toNatClampNeg) :: st)) : Y X D z nL n sh I L k w Q pc lv (.int i :: .ref a :: st) := by
  intro H locs ls h1 h2 h3 h4
  have hlt : i.toNatClampNeg < len := Nat.not_le.mp fun q => hin (Or.inr q)
  have hc := (h1.2.2 a (by rw [ha.1]; omega)).2.2.2.1 ha.1
  rw [ha.2] at hc
  exact W.bald (v := .int (I a i.toNatClampNeg)) hC.1 hC.2.1 hc ((yK_at hC (t := 0) rfl).1 _ _) (fun q => by cases q) (by rw [arrV_size]; exact hin) (by rw [arrV_read _ _ hlt]) rfl rfl hd (kk H locs ls h1 h2 h3 h4)
theorem y_lald (hC : yC X D z cc own nL dep) {a len : Nat} {i : Int32} (ha : yArr sh a 11 len) (hin : vp_in i len) (hd : decode cc pc = .ok (.laload, 1)) (kk : Y X D z nL n sh I L k w Q (pc + 1) lv (.long (L a i.toNatClampNeg) :: st)) : Y X D z nL n sh I L k w Q pc lv (.int i :: .ref a :: st) := by
  intro H locs ls h1 h2 h3 h4
  have hlt : i.toNatClampNeg < len := Nat.not_le.mp fun q => hin (Or.inr q)
  have hc := (h1.2.2 a (by rw [ha.1]; omega)).2.2.2.2.2.1 ha.1
  rw [ha.2] at hc
  exact W.lald (v := .long (L a i.toNatClampNeg)) hC.1 hC.2.1 hc ((yK_at hC (t := 2) rfl).1 _ _) (fun q => by cases q) (by rw [arrV_size]; exact hin) (by rw [arrV_read _ _ hlt]) rfl rfl hd (kk H locs ls h1 h2 h3 h4)
theorem y_aald12 (hC : yC X D z cc own nL dep) {a b len : Nat} {i : Int32} (ha : yArr sh a 12 len) (hin : vp_in i len) (hv : (sh a).2.2 i.toNatClampNeg = some b) (hd : decode cc pc = .ok (.aaload, 1)) (kk : Y X D z nL n sh I L k w Q (pc + 1) lv (.ref b :: st)) : Y X D z nL n sh I L k w Q pc lv (.int i :: .ref a :: st) := by
  intro H locs ls h1 h2 h3 h4
  have hlt : i.toNatClampNeg < len := Nat.not_le.mp fun q => hin (Or.inr q)
  have hc := (h1.2.2 a (by rw [ha.1]; omega)).2.2.2.2.2.2.1 ha.1
  rw [ha.2] at hc
  exact W.aald (v := .ref b) (ty := .object "ChargebackProcessor$Book") hC.1 hC.2.1 hc ((yK_at hC (t := 3) rfl).1 _ _) rfl (fun q => by cases q) (by rw [arrV_size]; exact hin) (by rw [arrV_read _ _ hlt, hv]; rfl) rfl rfl hd (kk H locs ls h1 h2 h3 h4)
theorem y_aald13 (hC : yC X D z cc own nL dep) {a b len : Nat} {i : Int32} (ha : yArr sh a 13 len) (hin : vp_in i len) (hv : (sh a).2.2 i.toNatClampNeg = some b) (hd : decode cc pc = .ok (.aaload, 1)) (kk : Y X D z nL n sh I L k w Q (pc + 1) lv (.ref b :: st)) : Y X D z nL n sh I L k w Q pc lv (.int i :: .ref a :: st) := by
  intro H locs ls h1 h2 h3 h4
  have hlt : i.toNatClampNeg < len := Nat.not_le.mp fun q => hin (Or.inr q)
  have hc := (h1.2.2 a (by rw [ha.1]; omega)).2.2.2.2.2.2.2 ha.1
  rw [ha.2] at hc
  exact W.aald (v := .ref b) (ty := .array .int) hC.1 hC.2.1 hc ((yK_at hC (t := 4) rfl).1 _ _) rfl (fun q => by cases q) (by rw [arrV_size]; exact hin) (by rw [arrV_read _ _ hlt, hv]; rfl) rfl rfl hd (kk H locs ls h1 h2 h3 h4)
theorem y_alen (hC : yC X D z cc own nL dep) {a t len : Nat} {v : Int32} (ha : yArr sh a t len) (ht : t = 9 ∨ t = 10) (hv : Int32.ofNat len = v) (hd : decode cc pc = .ok (.arraylength, 1)) (kk : Y X D z nL n sh I L k w Q (pc + 1) lv (.int v :: st)) : Y X D z nL n sh I L k w Q pc lv (.ref a :: st) := by
  intro H locs ls h1 h2 h3 h4
  subst hv
  rcases ht with rfl | rfl
  · have hc := (h1.2.2 a (by rw [ha.1]; omega)).2.2.2.1 ha.1
    rw [ha.2] at hc
    exact W.alen hC.1 hC.2.1 hc ((yK_at hC (t := 0) rfl).1 _ _) (by rw [arrV_size]) rfl rfl hd (kk H locs ls h1 h2 h3 h4)
  · have hc := (h1.2.2 a (by rw [ha.1]; omega)).2.2.2.2.1 ha.1
    rw [ha.2] at hc
    exact W.alen hC.1 hC.2.1 hc ((yK_at hC (t := 1) rfl).1 _ _) (by rw [arrV_size]) rfl rfl hd (kk H locs ls h1 h2 h3 h4)
theorem y_iast (hC : yC X D z cc own nL dep) {a len : Nat} {i x : Int32} (ha : yArr sh a 10 len) (hin : vp_in i len) (hd : decode cc pc = .ok (.iastore, 1)) (kk : Y X D z nL n sh (up2 I a i.toNatClampNeg x) L k w Q (pc + 1) lv st) : Y X D z nL n sh I L k w Q pc lv (.int x :: .int i :: .ref a :: st) := by
  intro H locs ls h1 h2 h3 h4
  obtain ⟨hza, hna, hcell⟩ := h1.2.2 a (by rw [ha.1]; omega)
  have hc := hcell.2.2.1 ha.1
  rw [ha.2] at hc
  refine W.iast hC.1 hC.2.1 hc ((yK_at hC (t := 1) rfl).1 _ _) (fun q => by cases q) (by rw [arrV_size]; exact hin) rfl rfl hd fun H1 e z1 oq => ?_
  refine kk H1 _ ls (h1.at hza hna z1 oq (fun _ _ => rfl) (fun b hb => va_up_ne _ _ hb) (fun _ _ => rfl) ?_) (yold hza oq h2) (yloc hza h3) h4
  have hk := ha.1
  refine ⟨fun q => by omega, fun q => by omega, fun _ => ?_, fun q => by omega, fun q => by omega, fun q => by omega⟩
  rw [e, arrV_store, ha.2]
  congr 2
  funext q
  by_cases hq : q = i.toNatClampNeg
  · subst hq; simp [updV, upd, up2, va_up]
  · simp [updV, upd, up2, va_up, hq]
theorem y_bast (hC : yC X D z cc own nL dep) {a len : Nat} {i x : Int32} (ha : yArr sh a 9 len) (hin : vp_in i len) (hd : decode cc pc = .ok (.bastore, 1)) (kk : Y X D z nL n sh (up2 I a i.toNatClampNeg x.toInt8.toInt32) L k w Q (pc + 1) lv st) : Y X D z nL n sh I L k w Q pc lv (.int x :: .int i :: .ref a :: st) := by
  intro H locs ls h1 h2 h3 h4
  obtain ⟨hza, hna, hcell⟩ := h1.2.2 a (by rw [ha.1]; omega)
  have hc := hcell.2.1 ha.1
  rw [ha.2] at hc
  refine W.bast hC.1 hC.2.1 hc ((yK_at hC (t := 0) rfl).1 _ _) (fun q => by cases q) (by rw [arrV_size]; exact hin) rfl rfl hd fun H1 e z1 oq => ?_
  refine kk H1 _ ls (h1.at hza hna z1 oq (fun _ _ => rfl) (fun b hb => va_up_ne _ _ hb) (fun _ _ => rfl) ?_) (yold hza oq h2) (yloc hza h3) h4
  have hk := ha.1
  refine ⟨fun q => by omega, fun _ => ?_, fun q => by omega, fun q => by omega, fun q => by omega, fun q => by omega⟩
  rw [e, arrV_store, ha.2]
  congr 2
  funext q
  by_cases hq : q = i.toNatClampNeg
  · subst hq; simp [updV, upd, up2, va_up, narrow]
  · simp [updV, upd, up2, va_up, hq]
theorem y_last (hC : yC X D z cc own nL dep) {a len : Nat} {i : Int32} {x : Int64} (ha : yArr sh a 11 len) (hin : vp_in i len) (hd : decode cc pc = .ok (.lastore, 1)) (kk : Y X D z nL n sh I (up2L L a i.toNatClampNeg x) k w Q (pc + 1) lv st) : Y X D z nL n sh I L k w Q pc lv (.long x :: .int i :: .ref a :: st) := by
  intro H locs ls h1 h2 h3 h4
  obtain ⟨hza, hna, hcell⟩ := h1.2.2 a (by rw [ha.1]; omega)
  have hc := hcell.2.2.2.1 ha.1
  rw [ha.2] at hc
  refine W.last hC.1 hC.2.1 hc ((yK_at hC (t := 2) rfl).1 _ _) (fun q => by cases q) (by rw [arrV_size]; exact hin) rfl rfl hd fun H1 e z1 oq => ?_
  refine kk H1 _ ls (h1.at hza hna z1 oq (fun _ _ => rfl) (fun _ _ => rfl) (fun b hb => va_up_ne _ _ hb) ?_) (yold hza oq h2) (yloc hza h3) h4
  have hk := ha.1
  refine ⟨fun q => by omega, fun q => by omega, fun q => by omega, fun _ => ?_, fun q => by omega, fun q => by omega⟩
  rw [e, arrV_store, ha.2]
  congr 2
  funext q
  by_cases hq : q = i.toNatClampNeg
  · subst hq; simp [updV, vp_updL, up2L, va_up]
  · simp [updV, vp_updL, up2L, va_up, hq]
theorem y_aast12 (hC : yC X D z cc own nL dep) {a v len : Nat} {i : Int32} (ha : yArr sh a 12 len) (hv : (sh v).1 = 0) (hin : vp_in i len) (hd : decode cc pc = .ok (.aastore, 1)) (kk : Y X D z nL n (upr sh a i.toNatClampNeg (some v)) I L k w Q (pc + 1) lv st) : Y X D z nL n sh I L k w Q pc lv (.ref v :: .int i :: .ref a :: st) := by
  intro H locs ls h1 h2 h3 h4
  have hlt : i.toNatClampNeg < len := Nat.not_le.mp fun q => hin (Or.inr q)
  have h0 : ¬ i < 0 := fun q => hin (Or.inl q)
  obtain ⟨hza, hna, hcell⟩ := h1.2.2 a (by rw [ha.1]; omega)
  have hc := hcell.2.2.2.2.1 ha.1
  rw [ha.2] at hc
  obtain ⟨-, -, hcv⟩ := h1.2.2 v (by rw [hv]; omega)
  have hob := hcv.1 (by rw [hv]; omega)
  rw [hv] at hob
  obtain ⟨cellV, g1, g2, g3, -⟩ := hob
  have hcls := (hC.2.2.2.2.2.1.1.1 0 _ rfl).2
  obtain ⟨kA, comp, k1, k2, k3, -⟩ := (yK_at hC (t := 3) rfl).2
  have hcomp : comp = D.1.1 0 := Option.some.inj (k3.symm.trans hcls.1)
  subst hcomp
  obtain ⟨kC, hkC, -⟩ := hcls.2
  refine W.aast hC.1 hC.2.1 hc (fun q h => by cases h) (fun h => by cases h) k1 k2 rfl hkC ⟨h0, by rw [arrV_size]; exact hlt⟩ g1 (fun q h => by rw [g3] at h; cases h) (by rw [g2]; exact hkC) (by rw [g2]; exact va_assign hcls) rfl rfl hd fun H1 e z1 oq => ?_
  refine kk H1 _ ls (h1.at hza hna z1 oq (fun b hb => va_up_ne _ _ hb) (fun _ _ => rfl) (fun _ _ => rfl) ?_) (yold hza oq h2) (yloc hza h3) h4
  have hk : (upr sh a i.toNatClampNeg (some v) a).1 = 12 := by simp [upr, va_up, ha.1]
  refine ⟨fun q => by omega, fun q => by omega, fun q => by omega, fun q => by omega, fun _ => ?_, fun q => by omega⟩
  rw [e, arrV_store, show (upr sh a i.toNatClampNeg (some v) a).2.1 = len by simp [upr, va_up, ha.2]]
  congr 2
  funext q
  by_cases hq : q = i.toNatClampNeg
  · subst hq; simp [updV, upr, va_up, va_rf]
  · simp [updV, upr, va_up, hq]
/-- a new object at n -/
theorem y_new (hC : yC X D z cc own nL dep) {ci idx : Nat} {C : String} {T : u_T} {ty : Nat → FieldType} (hcls : yCls ci C T ty) (hlink : Cond.classLink own idx C ∈ yT) (hcells : k + 1 ≤ (yR X).cells) (hslots : w + yN ci ≤ (yR X).slots) (hd : decode cc pc = .ok (.new idx, 3))
    (kk : Y X D z nL (n + 1) (va_up sh n (ci, 0, fun _ => none)) (va_up I n (fun _ => 0)) (va_up L n (fun _ => 0)) (k + 1) (w + yN ci) Q (pc + 3) lv (.ref n :: st)) : Y X D z nL n sh I L k w Q pc lv st := by
  intro H locs ls h1 h2 h3 h4
  obtain ⟨hc, hlt, hin, hpt, -, hdf, hins, hini⟩ := hcls
  obtain ⟨hx, hb, -, hown, hts, ⟨hK, -⟩, -⟩ := hC
  have hKn := hK.1 ci _ hc
  refine W.newcK hx hb hown (hts _ hlink) (hts _ hins) (hts _ hini) rfl hd hcells hslots hKn.2.1 h1.2.1 fun H1 kC hkC e1 z1 o1 => ?_
  refine kk H1 _ ls (h1.push z1 o1 ?_) (fun q hq => (o1 q (Nat.lt_of_lt_of_le hq h1.1)).trans (h2 q hq)) h3 h4
  refine ⟨fun _ => ?_, fun q => ?_, fun q => ?_, fun q => ?_, fun q => ?_, fun q => ?_⟩
  · rw [va_up_self]
    refine (u_born ty hts hin hKn hkC e1 hpt).to (fun j hj => ?_)
    rw [hdf j hj]
    simp [yfv, va_up, va_rf]
  all_goals (rw [va_up_self] at q; dsimp only at q; omega)
theorem y_newarr (hC : yC X D z cc own nL dep) {t ti : Nat} {at0 : ArrayType} {m : Int32} {N : Nat} (ht : (t = 9 ∧ at0 = .byte ∧ ti = 0) ∨ (t = 10 ∧ at0 = .int ∧ ti = 1) ∨ (t = 11 ∧ at0 = .long ∧ ti = 2)) (hm : ¬ m < 0) (hN : m.toNatClampNeg = N) (hb8 : N * 8 ≤ 536870912) (harr : Cond.arrayClass (newarray.typeOf at0) ∈ yT) (hcells : k + 1 ≤ (yR X).cells) (hslots : w + N ≤ (yR X).slots) (hd : decode cc pc = .ok (.newarray at0, 2))
    (kk : Y X D z nL (n + 1) (va_up sh n (t, N, fun _ => none)) (va_up I n (fun _ => 0)) (va_up L n (fun _ => 0)) (k + 1) (w + N) Q (pc + 2) lv (.ref n :: st)) : Y X D z nL n sh I L k w Q pc lv (.int m :: st) := by
  intro H locs ls h1 h2 h3 h4
  have hKK := hC
  obtain ⟨hx, hb, -, hown, hts, ⟨hK, -⟩, -⟩ := hC
  refine va_newaK hx hb (hts _ harr) rfl hd rfl hm hN (by rcases ht with ⟨-, rfl, -⟩ | ⟨-, rfl, -⟩ | ⟨-, rfl, -⟩ <;> simp only [newarray.typeOf, componentBytes] <;> omega) hcells hslots h1.2.1 fun H1 cA e1 z1 o1 hAr hNm => ?_
  refine kk H1 _ ls (h1.push z1 o1 ?_) (fun q hq => (o1 q (Nat.lt_of_lt_of_le hq h1.1)).trans (h2 q hq)) h3 h4
  rcases ht with ⟨rfl, rfl, rfl⟩ | ⟨rfl, rfl, rfl⟩ | ⟨rfl, rfl, rfl⟩
  · have hcy : cA = D.2.1 9 := Option.some.inj (hNm.symm.trans (yK_at hKK (t := 0) rfl).2)
    subst hcy
    refine ⟨fun q => ?_, fun _ => ?_, fun q => ?_, fun q => ?_, fun q => ?_, fun q => ?_⟩
    rotate_left
    · rw [e1, va_up_self, va_up_self]; rfl
    all_goals (rw [va_up_self] at q; dsimp only at q; omega)
  · have hcy : cA = D.2.1 10 := Option.some.inj (hNm.symm.trans (yK_at hKK (t := 1) rfl).2)
    subst hcy
    refine ⟨fun q => ?_, fun q => ?_, fun _ => ?_, fun q => ?_, fun q => ?_, fun q => ?_⟩
    rotate_left 2
    · rw [e1, va_up_self, va_up_self]; rfl
    all_goals (rw [va_up_self] at q; dsimp only at q; omega)
  · have hcy : cA = D.2.1 11 := Option.some.inj (hNm.symm.trans (yK_at hKK (t := 2) rfl).2)
    subst hcy
    refine ⟨fun q => ?_, fun q => ?_, fun q => ?_, fun _ => ?_, fun q => ?_, fun q => ?_⟩
    rotate_left 3
    · rw [e1, va_up_self, va_up_self]; rfl
    all_goals (rw [va_up_self] at q; dsimp only at q; omega)
theorem y_objInit (hC : yC X D z cc own nL dep) {idx a : Nat} (hlink : Cond.methodLink own idx Lib.objectInit ∈ yT) (hinst : Cond.instanceMethod Lib.objectInit ∈ yT) (hcode : Cond.code Lib.objectInit ⟨#[0xb1]⟩ 1 none ∈ yT) (hdep : 1 ≤ dep) (hst : (st.map fun v => v.category).sum ≤ 8) (hd : decode cc pc = .ok (.invokespecial idx, 3)) (kk : Y X D z nL n sh I L k w Q (pc + 3) lv st) : Y X D z nL n sh I L k w Q pc lv (.ref a :: st) := by
  intro H locs ls h1 h2 h3 h4
  obtain ⟨hx, hb, hml, hown, hts, -, hf, hl, -⟩ := hC
  refine W.objInit hx hb hown (hts _ hlink) (hts _ hinst) (hts _ hcode) rfl (by rw [hml]; exact h4.1) rfl hd (by omega) ?_ (kk H locs ls h1 h2 h3 h4)
  show 2 * 0 + (st.map fun v => v.category).sum + 12 ≤ _
  omega
end RowsA
end
section
section AnewRow
variable {X : yX} {D : yD} {z nL n : Nat} {sh : yS} {I : yI} {L : yL} {k w : Nat} {Q : State → Prop} {pc : Nat} {lv : List (Option Value)} {st : List Value} {cc : ByteArray} {own : String} {dep : Nat}
theorem y_anew12 (hC : yC X D z cc own nL dep) {idx : Nat} {m : Int32} {N : Nat} (hm : ¬ m < 0) (hN : m.toNatClampNeg = N) (hb4 : N * 4 ≤ 536870912) (hlink : Cond.classLink own idx "ChargebackProcessor$Book" ∈ yT) (hcells : k + 1 ≤ (yR X).cells) (hslots : w + N ≤ (yR X).slots) (hd : decode cc pc = .ok (.anewarray idx, 3))
    (kk : Y X D z nL (n + 1) (va_up sh n (12, N, fun _ => none)) (va_up I n (fun _ => 0)) (va_up L n (fun _ => 0)) (k + 1) (w + N) Q (pc + 3) lv (.ref n :: st)) : Y X D z nL n sh I L k w Q pc lv (.int m :: st) := by
  intro H locs ls h1 h2 h3 h4
  subst hN
  have hKK := hC
  obtain ⟨hx, hb, -, hown, hts, ⟨hK, -, -, -, -, -, hAO⟩, -⟩ := hC
  refine W.anew hx hb hown (hts _ hlink) (va_AO.use hAO) rfl hd rfl hm hb4 hcells hslots fun cA kA comp q1 q2 q3 q4 => ?_
  rw [h1.2.1]
  refine kk _ _ ls (h1.push (by simp [h1.2.1]) (fun q hq => by rw [Array.getElem?_push, if_neg (by rw [h1.2.1]; exact Nat.ne_of_lt hq)]) ?_) (fun q hq => by rw [Array.getElem?_push, if_neg (by rw [h1.2.1]; exact Nat.ne_of_lt (Nat.lt_of_lt_of_le hq h1.1))]; exact h2 q hq) h3 h4
  obtain ⟨kA2, comp2, -, -, -, r4⟩ := (yK_at hKK (t := 3) rfl).2
  have hcy : cA = D.2.1 12 := Option.some.inj (q1.symm.trans r4)
  subst hcy
  refine ⟨fun q => ?_, fun q => ?_, fun q => ?_, fun q => ?_, fun _ => ?_, fun q => ?_⟩
  rotate_left 4
  · rw [va_up_self, Array.getElem?_push, if_pos (by rw [h1.2.1]), arrV_new]; rfl
  all_goals (rw [va_up_self] at q; dsimp only at q; omega)
end AnewRow
/-- arguments onto the stack, the first one first -/
def ypush : List Value → List Value → List Value
  | [], st => st
  | a :: as, st => ypush as (a :: st)
theorem ypush_eq : ∀ (av st : List Value), ypush av st = av.reverse ++ st
  | [], st => rfl
  | a :: as, st => by rw [ypush, ypush_eq as]; simp
def yQ (D : yD) (z : Nat) (Qr : Option Value → Nat → yS → yI → yL → Prop) : Array Value → State → Outcome → State → Prop := fun _ st oc t => ∃ v n sh I L, oc = .returned v ∧ Qr v n sh I L ∧ yRep D z n sh I L t.heap ∧ ∀ q : Nat, q < z → t.heap[q]? = st.heap[q]?
def yXC (D : yD) (z : Nat) (Qx : String → Nat → yS → yI → yL → Prop) : String → State → State → Prop := fun E st t => ∃ n sh I L, Qx E n sh I L ∧ yRep D z n sh I L t.heap ∧ ∀ q : Nat, q < z → t.heap[q]? = st.heap[q]?
def yPc (D : yD) (z : Nat) (av : List Value) (n : Nat) (sh : yS) (I : yI) (L : yL) : Array Value → State → Prop := va_Pc av (fun U => yRep D z n sh I L U.heap ∧ yG D z U)
abbrev yRm (dep mc ms : Nat) : Room := { frames := dep, cells := mc, slots := ms, locals := 64 * dep }
/-- a method's contract: from this heap and these arguments it returns with Qr, or throws with Qx; dep frames, mc cells of ms slots -/
def yM (l : Launch) (D : yD) (z : Nat) (y : MethodName) (cc : ByteArray) (nL : Nat) (ret : Option FieldType) (dep mc ms : Nat) (av : List Value) (n : Nat) (sh : yS) (I : yI) (L : yL) (Qr : Option Value → Nat → yS → yI → yL → Prop) (Qx : String → Nat → yS → yI → yL → Prop) : Prop :=
  l.stackTraces = false → vx_Met l y (.code y cc nL ret :: yT) (yRm dep mc ms) (yPc D z av n sh I L) (yQ D z Qr) (yXC D z Qx) mc ms (fun q => z ≤ q)
abbrev yno : String → Nat → yS → yI → yL → Prop := fun _ _ _ _ _ => False
theorem yPc_blind {D : yD} {z : Nat} {av : List Value} {n : Nat} {sh : yS} {I : yI} {L : yL} : FrameBlind (yPc D z av n sh I L) := by
  intro a U g mk h
  obtain ⟨h1, h2, h3⟩ := h
  exact ⟨h1, h2, yG.moved (State.WarmedH.refl U) (fun _ _ => rfl) h3.2.2.2.1 h3⟩
def yEnd (X : yX) (D : yD) (z : Nat) (Qr : Option Value → Nat → yS → yI → yL → Prop) (Qx : String → Nat → yS → yI → yL → Prop) (mc ms : Nat) : State → Prop := vx_MQ (ybel X) (yQ D z Qr) (yXC D z Qx) (yargs X) (ys X) mc ms (fun q => z ≤ q)
def yent : List Value → List (Option Value)
  | [] => []
  | v :: vs => if v.category = 2 then some v :: none :: yent vs else some v :: yent vs
def ypad (nL : Nat) (l : List (Option Value)) : List (Option Value) := l ++ List.replicate (nL - l.length) none
theorem yget_rep : ∀ (m j : Nat) (v : Value), yget (List.replicate m none) j = some v → False
  | 0, j, v, h => by simp [yget] at h
  | m + 1, 0, v, h => by simp [List.replicate, yget] at h
  | m + 1, j + 1, v, h => yget_rep m j v (by simpa [List.replicate, yget] using h)
theorem yent_args : ∀ (vs : List Value) (m b j : Nat) (v : Value), yget (yent vs ++ List.replicate m none) j = some v → (b + j, v) ∈ lv_args b vs
  | [], m, b, j, v, h => (yget_rep m j v (by simpa [yent] using h)).elim
  | x :: vs, m, b, j, v, h => by
    unfold yent at h
    unfold lv_args
    by_cases hc : x.category = 2
    · rw [if_pos hc] at h
      rw [if_pos hc]
      match j, h with
      | 0, h => simp [yget] at h; subst h; exact List.mem_cons_self
      | 1, h => simp [yget] at h
      | j + 2, h =>
        have := yent_args vs m (b + 2) j v (by simpa [yget] using h)
        rw [show b + (j + 2) = b + 2 + j by omega]
        exact List.mem_cons_of_mem _ this
    · rw [if_neg hc] at h
      rw [if_neg hc]
      match j, h with
      | 0, h => simp [yget] at h; subst h; exact List.mem_cons_self
      | j + 1, h =>
        have := yent_args vs m (b + 1) j v (by simpa [yget] using h)
        rw [show b + (j + 1) = b + 1 + j by omega]
        exact List.mem_cons_of_mem _ this
theorem yLV.entry {av : List Value} {nL : Nat} (h : (lg_sl av).length ≤ nL) : yLV ((lg_sl av ++ List.replicate (nL - (lg_sl av).length) Slot.unset).toArray) nL (ypad nL (yent av)) := by
  have hl := lv_entry av (n := nL) h
  exact ⟨hl.1, hl.2.1, fun i v hv => hl.2.2 (i, v) (by simpa using yent_args av _ 0 i v hv)⟩
theorem yM_of {l : Launch} {D : yD} {z : Nat} {y : MethodName} {cc : ByteArray} {nL : Nat} {ret : Option FieldType} {dep mc ms : Nat} {av : List Value} {n : Nat} {sh : yS} {I : yI} {L : yL} {Qr : Option Value → Nat → yS → yI → yL → Prop} {Qx : String → Nat → yS → yI → yL → Prop} {lv : List (Option Value)} (hy : plainName y.cls = true) (hav : (lg_sl av).length ≤ nL) (hlv : ypad nL (yent av) = lv)
    (body : ∀ X : yX, yC X D z cc y.cls nL dep → (ymeth X).sig.returnType = ret → (ymeth X).name = y.name → (yR X).cells = mc → (yR X).slots = ms → (∀ x ∈ (yc X).exceptionTable.toList, False) → Y X D z nL n sh I L 0 0 (yEnd X D z Qr Qx mc ms) 0 lv []) : yM l D z y cc nL ret dep mc ms av n sh I L Qr Qx := by
  intro hst
  refine vx_ofW (cc := cc) (maxL := nL) (ret := ret) hy rfl ?_
  intro p e s m args below meth c s₁ B hml ht hv
  obtain ⟨rfl, hR, hG⟩ := hv
  have hts := atoms_spec (ws := .code y cc nL ret :: yT) B.pre
  rw [lg_entry_eq]
  refine body (p, l, e, yRm dep mc ms, s, m, av.toArray, below, meth, c) ⟨B.exec, B.bytes, hml, findClass_of_methodNamed B.named, fun w hw => hts w (List.mem_cons_of_mem _ hw), hG, Nat.le_refl _, Nat.le_refl _, B.notSynchronized, hst⟩ B.returns (name_of_methodNamed B.named B.method).1 rfl rfl ht s.heap [] _ hR (fun _ _ => rfl) (fun o h => absurd h List.not_mem_nil) ?_
  rw [← hlv]
  exact yLV.entry hav
section Ends
variable {X : yX} {D : yD} {z nL n : Nat} {sh : yS} {I : yI} {L : yL} {k w : Nat} {pc : Nat} {lv : List (Option Value)} {cc : ByteArray} {own : String} {dep mc ms : Nat} {Qr : Option Value → Nat → yS → yI → yL → Prop} {Qx : String → Nat → yS → yI → yL → Prop}
theorem y_iret (hC : yC X D z cc own nL dep) {v : Int32} {ty : FieldType} (hr : (ymeth X).sig.returnType = some ty) (hn : narrow ty (.int v) = .int v) (hk : k ≤ mc) (hw : w ≤ ms) (hd : decode cc pc = .ok (.ireturn, 1)) (hq : Qr (some (.int v)) n sh I L) : Y X D z nL n sh I L k w (yEnd X D z Qr Qx mc ms) pc lv [.int v] := by
  intro H locs ls h1 h2 h3 h4
  refine vx_ret (W.widen hk hw (W.zret hC.1 hC.2.1 hr hn (fun t ht hW => ?_) h3 hd hC.2.2.2.2.2.2.2.2.1))
  exact ⟨_, n, sh, I, L, rfl, hq, by rw [ht]; exact h1, fun q hq => by rw [ht]; exact h2 q hq⟩
theorem y_lret (hC : yC X D z cc own nL dep) {v : Int64} (hr : (ymeth X).sig.returnType = some .long) (hk : k ≤ mc) (hw : w ≤ ms) (hd : decode cc pc = .ok (.lreturn, 1)) (hq : Qr (some (.long v)) n sh I L) : Y X D z nL n sh I L k w (yEnd X D z Qr Qx mc ms) pc lv [.long v] := by
  intro H locs ls h1 h2 h3 h4
  refine vx_ret (W.widen hk hw (W.lret hC.1 hC.2.1 hr (fun t ht hW => ?_) h3 hd hC.2.2.2.2.2.2.2.2.1))
  exact ⟨_, n, sh, I, L, rfl, hq, by rw [ht]; exact h1, fun q hq => by rw [ht]; exact h2 q hq⟩
theorem y_aret (hC : yC X D z cc own nL dep) {a : Nat} {rt : FieldType} (hr : (ymeth X).sig.returnType = some rt) (hrt : (∃ n, rt = .object n) ∨ ∃ t, rt = .array t) (hk : k ≤ mc) (hw : w ≤ ms) (hd : decode cc pc = .ok (.areturn, 1)) (hq : Qr (some (.ref a)) n sh I L) : Y X D z nL n sh I L k w (yEnd X D z Qr Qx mc ms) pc lv [.ref a] := by
  intro H locs ls h1 h2 h3 h4
  refine vx_ret (W.widen hk hw (W.aret hC.1 hC.2.1 hr hrt (Or.inr ⟨a, rfl⟩) (fun t ht hW => ?_) h3 hd hC.2.2.2.2.2.2.2.2.1))
  exact ⟨_, n, sh, I, L, rfl, hq, by rw [ht]; exact h1, fun q hq => by rw [ht]; exact h2 q hq⟩
theorem y_vret (hC : yC X D z cc own nL dep) (hr : (ymeth X).sig.returnType = none) (hk : k ≤ mc) (hw : w ≤ ms) (hd : decode cc pc = .ok (.return_, 1)) (hq : Qr none n sh I L) : Y X D z nL n sh I L k w (yEnd X D z Qr Qx mc ms) pc lv [] := by
  intro H locs ls h1 h2 h3 h4
  refine vx_ret (W.widen hk hw (W.vret hC.1 hC.2.1 hr (fun t ht hW => ?_) h3 hd hC.2.2.2.2.2.2.2.2.1))
  exact ⟨_, n, sh, I, L, rfl, hq, by rw [ht]; exact h1, fun q hq => by rw [ht]; exact h2 q hq⟩
end Ends
/-- an exception of class E is on its way over this frame -/
def YX (X : yX) (D : yD) (z nL n : Nat) (sh : yS) (I : yI) (L : yL) (k w : Nat) (Q : State → Prop) (pc : Nat) (lv : List (Option Value)) (st : List Value) (E : String) : Prop :=
  ∀ (H : Heap) (locs : List Loc) (ls : Array Slot) (q : Addr) (ce : Cell), yRep D z n sh I L H → (∀ q : Nat, q < z → H[q]? = (ys X).heap[q]?) → (∀ o ∈ locs, z ≤ o.base) → yLV ls nL lv → H[q]? = some ce → ce.vm = .none → (ys X).vm.findClass E = some ce.cls → vx_W X.1 X.2.1 X.2.2.1 (yR X) (ys X) (ym X) (yargs X) (ybel X) (ymeth X) (yc X) H locs k w Q (F0 (ym X) pc ls st) q
theorem yx_out {X : yX} {D : yD} {z nL n : Nat} {sh : yS} {I : yI} {L : yL} {k w : Nat} {pc : Nat} {lv : List (Option Value)} {st : List Value} {cc : ByteArray} {own : String} {dep mc ms : Nat} {Qr : Option Value → Nat → yS → yI → yL → Prop} {Qx : String → Nat → yS → yI → yL → Prop} {E : String} (hC : yC X D z cc own nL dep) (ht : ∀ x ∈ (yc X).exceptionTable.toList, False) (hk : k ≤ mc) (hw : w ≤ ms) (hq : Qx E n sh I L) : YX X D z nL n sh I L k w (yEnd X D z Qr Qx mc ms) pc lv st E := by
  intro H locs ls q ce h1 h2 h3 h4 h5 h6 h7
  exact vx_out (fun x hx => (ht x hx).elim) hC.2.2.2.2.2.2.2.2.1 h5 h6 h7 (fun t e1 e2 => ⟨n, sh, I, L, hq, by rw [e1]; exact h1, fun q hq => by rw [e1]; exact h2 q hq⟩) h3 hk hw
end
section
section VXIA
variable {p : Program} {l : Launch} {e : Env} {R : Room} {s : State} {m : MethodId} {args : Array Value} {below : List Frame} {meth : Method} {c : Code} {T : State} {locs : List Loc} {cells slots : Nat}
theorem vx_callI (X : Stand p l e R s m args below meth c T locs cells slots) (hexec : p.tables.exec = Jvm.exec) {own : String} {index : Nat} {y : MethodName} {bytes : ByteArray} {maxL : Nat}
    (hown : s.vm.findClass own = some m.cls) (hy1 : y.name = "<init>") (hlink : (Cond.methodLink own index y).before args s = true) (hinst : (Cond.instanceMethod y).before args s = true)
    (hcode : (Cond.code y bytes maxL none).before args s = true) (hy : y.cls ≠ "java/lang/invoke/MethodHandle" ∧ y.cls ≠ "java/lang/invoke/VarHandle")
    {W9 : Nat} {Pre : Pt → Array Value → Prop} {Post : Pt → Array Value → Option Value → Pt → Prop} {PostX : Pt → Array Value → Addr → Pt → Prop} (hK : vx_Back l R p e below s args y 3 W9 Pre Post PostX)
    {g : JFrame} (hg : g.method = m) (hsize : g.locals.size = c.maxLocals) {a : Addr} {argsL rest : List Value} (hlen : ∀ sig, parseMethodDescriptor y.desc = some sig → argsL.length = sig.parameters.length)
    (hstack : g.stack = argsL.reverse ++ .ref a :: rest) (hW : 2 * g.monitorRoom + (rest.map fun v => v.category).sum ≤ W9) (hdg : decode c.code g.pc = .ok (.invokespecial index, 3))
    (hpre : ∀ vm₁, s.WarmedH vm₁ → Pre ⟨T.setVm vm₁, locs, cells, slots⟩ (Value.ref a :: argsL).toArray) :
    (∃ (v : Option Value) (vm₁ : Vm) (B : Pt), s.WarmedH vm₁ ∧ Stand p l e R s m args below meth c B.U B.locs B.cells B.slots ∧ Post ⟨T.setVm vm₁, locs, cells, slots⟩ (Value.ref a :: argsL).toArray v B ∧
      ∀ target, Steps p.tables e below (B.U.setTop { g with pc := g.pc + 3, stack := v.toList ++ rest }) target → Steps p.tables e below (T.setTop g) target) ∨
    (∃ (q : Addr) (vm₁ : Vm) (B : Pt), s.WarmedH vm₁ ∧ Stand p l e R s m args below meth c B.U B.locs B.cells B.slots ∧ PostX ⟨T.setVm vm₁, locs, cells, slots⟩ (Value.ref a :: argsL).toArray q B ∧
      Steps p.tables e below (T.setTop g) ((B.U.setTop { g with stack := rest }).pushFrame (.throwing q))) := by
  subst hg
  have hpl : e.platform.magicAccessors = ({} : Platform).magicAccessors := by rw [X.admits.platform]
  obtain ⟨mk, methM, cM, kP, vm₁, hnamed, hmethM, hcodeM, -, hlocalsM, -, hkP, -, hW₁, hstep₁⟩ := Steps.initColdArgs (e := e) X.here hexec X.warmed hpl hown hy1 hy hlink hinst hcode (f := g) rfl hlen hstack hdg
  have X₁ := X.noted hW₁
  rcases hK g.method meth c ⟨T.setVm vm₁, locs, cells, slots⟩ { g with stack := rest } (.invokespecial index) mk (Value.ref a :: argsL).toArray X₁ rfl hsize hdg hW (X₁.named hnamed) (hpre vm₁ X₁.warmed) with ⟨v, B, X', hpost, hsteps⟩ | ⟨q, B, X', hpost, hsteps⟩
  · exact Or.inl ⟨v, vm₁, B, X₁.warmed, X', hpost, fun target h => hstep₁ _ fun acts => by rw [doInvoke_state]; exact hsteps.trans h⟩
  · exact Or.inr ⟨q, vm₁, B, X₁.warmed, X', hpost, hstep₁ _ fun acts => by rw [doInvoke_state]; exact hsteps⟩
end VXIA
section VXIB
variable {p : Program} {l : Launch} {e : Env} {R : Room} {s : State} {m : MethodId} {args : Array Value} {below : List Frame} {meth : Method} {c : Code} {H : Heap} {locs : List Loc} {cells slots : Nat}
variable {y : MethodName} {bytes cc : ByteArray} {maxL nL mc ms n index : Nat} {ret : Option FieldType} {ws : List Cond} {rm : Room} {Pc : Array Value → State → Prop} {Qc : Array Value → State → Outcome → State → Prop} {XC : String → State → State → Prop} {free : Addr → Prop} {Ts : List Cond} {own C : String} {b : Addr} {As rest : List Value} {g : JFrame}
theorem vx_runI (S : CallFix p m c cc nL s args Ts own) (hM : vx_Met l y ws rm Pc Qc XC mc ms free) (cw : CallB R s args own index y bytes maxL none ws rm mc ms n ∧ y.name = "<init>" ∧ (Cond.instanceMethod y).before args s = true) (hp : PreS s H Pc (.ref b :: As))
    (hg : g.method = m) (hn : As.length = n) (hsize : g.locals.size = nL) (hstack : g.stack = As.reverse ++ .ref b :: rest) (hW : 2 * g.monitorRoom + (rest.map fun v => v.category).sum ≤ 8) (hdg : decode cc g.pc = .ok (.invokespecial index, 3)) (hf : cells + mc ≤ R.cells ∧ slots + ms ≤ R.slots) :
    vx_Run p l e R s m args below meth c H locs cells slots mc ms g rest (Qc (Value.ref b :: As).toArray) XC free := by
  have hK : vx_Back l R p e below s args y 3 8 (PreOf R mc ms Pc) (PostOf Qc mc ms free) (vx_Post XC mc ms free) := vx_callBack cw.1 hM hp.1
  obtain ⟨⟨-, -, -, -, -, -, hcode, -, hy, hlen, hl⟩, hy1, hin⟩ := cw
  obtain ⟨hx, hb, hml, ho, -⟩ := S
  have hPc := hp.2
  intro T hT X
  rcases vx_callI X hx (bytes := bytes) (maxL := maxL) ho hy1 hl hin hcode hy hK hg (hsize.trans hml.symm) (a := b) (argsL := As) (rest := rest) (fun sig h => hn.trans (hlen sig h)) hstack hW (by rw [hb]; exact hdg)
    (fun vm₁ hW₁ => ⟨hf.1, hf.2, hPc (T.setVm vm₁) hT hW₁⟩) with ⟨v, vm₁, ⟨U', l2, c2, s2⟩, hW₁, X', ⟨g', mk, t, L, e1, e2, hq, h1, hL, h2, h3⟩, st⟩ | ⟨q, vm₁, ⟨U', l2, c2, s2⟩, hW₁, X', ⟨g', mk, t, L, E, ce, e1, e2, hq, hce, hcv, hcl, h1, hL, h2, h3⟩, st⟩
  · dsimp only [Pt.U, Pt.locs, Pt.cells, Pt.slots] at X' e1 e2 h1 h2 h3 st
    subst h1; subst h2; subst h3
    exact Or.inl ⟨v, (T.setVm vm₁).calling g' mk (Value.ref b :: As).toArray, t, U', L, hT, X', hL, e1, e2, hq, st⟩
  · dsimp only [Pt.U, Pt.locs, Pt.cells, Pt.slots] at X' e1 e2 h1 h2 h3 st hcl
    subst h1; subst h2; subst h3
    exact Or.inr ⟨q, (T.setVm vm₁).calling g' mk (Value.ref b :: As).toArray, t, U', L, E, ce, hT, X', hL, e1, e2, hq, hce, hcv, vx_cls hW₁ hcl, st⟩
end VXIB
end
section
theorem yT_good {w : Cond} (h : w ∈ yT) : goodWord w = true := (List.mem_filter.mp h).2
theorem yT_goodIn {w0 : Cond} (h0 : w0 ∈ yT) : GoodIn yT (w0 :: yT) := fun w hw => by
  have hm : w ∈ yT := by
    rcases List.mem_cons.mp hw with h | h
    · rw [h]; exact h0
    · exact h
  exact ⟨hm, good_of_word (yT_good hm)⟩
def yCB (own : String) (idx : Nat) (y : MethodName) (bytes : ByteArray) (maxL : Nat) (ret : Option FieldType) (nA : Nat) : Prop := Cond.methodLink own idx y ∈ yT ∧ Cond.code y bytes maxL ret ∈ yT ∧ Cond.initialized y.cls ∈ yT ∧ (y.cls ≠ "java/lang/invoke/MethodHandle" ∧ y.cls ≠ "java/lang/invoke/VarHandle" ∧ (parseMethodDescriptor y.desc).map (fun d => d.parameters.length) = some nA) ∧ maxL ≤ 45
def yCV (own : String) (idx ci : Nat) (y : MethodName) (bytes : ByteArray) (maxL : Nat) (ret : Option FieldType) (nA : Nat) : Prop := yCB own idx y bytes maxL ret nA ∧ Cond.instanceMethod y ∈ yT ∧ Cond.selects y.cls y y ∈ yT ∧ ci < 9 ∧ ∃ T, vwCl[ci]? = some (y.cls, T, yN ci)
def yCS (own : String) (idx : Nat) (y : MethodName) (bytes : ByteArray) (maxL : Nat) (ret : Option FieldType) (nA : Nat) : Prop := yCB own idx y bytes maxL ret nA ∧ Cond.static y ∈ yT
def yCI (own : String) (idx : Nat) (y : MethodName) (bytes : ByteArray) (maxL : Nat) (nA : Nat) : Prop := yCB own idx y bytes maxL none nA ∧ y.name = "<init>" ∧ Cond.instanceMethod y ∈ yT
section Calls
variable {X : yX} {D : yD} {z nL n : Nat} {sh : yS} {I : yI} {L : yL} {k w : Nat} {Q : State → Prop} {pc : Nat} {lv : List (Option Value)} {st stk : List Value} {cc : ByteArray} {own : String} {dep : Nat}
variable {y : MethodName} {bytes : ByteArray} {maxL : Nat} {ret : Option FieldType} {d2 mc ms idx ci b : Nat} {As : List Value} {Qr : Option Value → Nat → yS → yI → yL → Prop} {Qx : String → Nat → yS → yI → yL → Prop}
theorem y_run {H : Heap} {locs : List Loc} {ls : Array Slot} {a : Array Value} (hr : vx_Run X.1 X.2.1 X.2.2.1 (yR X) (ys X) (ym X) (yargs X) (ybel X) (ymeth X) (yc X) H locs k w mc ms (F0 (ym X) pc ls stk) st (yQ D z Qr a) (yXC D z Qx) (fun q => z ≤ q))
    (h2 : ∀ q : Nat, q < z → H[q]? = (ys X).heap[q]?) (h3 : ∀ o ∈ locs, z ≤ o.base) (h4 : yLV ls nL lv)
    (kk : ∀ v n sh I L, Qr v n sh I L → Y X D z nL n sh I L (k + mc) (w + ms) Q (pc + 3) lv (v.toList ++ st))
    (kx : ∀ E n sh I L, Qx E n sh I L → YX X D z nL n sh I L (k + mc) (w + ms) Q pc lv st E) : yW X H locs k w Q (F0 (ym X) pc ls stk) := by
  intro T hT Xs
  rcases hr T hT Xs with ⟨v, st₀, t, T', L9, e0, X', hL, e1, e2, ⟨v', n', sh', I', L', hv, hq, hR, ho⟩, go⟩ | ⟨q, st₀, t, T', L9, E, ce, e0, X', hL, e1, e2, ⟨n', sh', I', L', hq, hR, ho⟩, hce, hcv, hcl, go⟩
  · cases hv
    obtain ⟨t2, a1, b1⟩ := kk v n' sh' I' L' hq T'.heap (locs ++ L9) ls (by rw [e1]; exact hR) (fun q hq => by rw [e1, ho q hq, e0]; exact h2 q hq) (fun o h => by
      rcases List.mem_append.mp h with h | h
      · exact h3 o h
      · exact hL o h) h4 T' rfl X'
    exact ⟨t2, go t2 a1, b1⟩
  · obtain ⟨t2, a1, b1⟩ := kx E n' sh' I' L' hq T'.heap (locs ++ L9) ls q ce (by rw [e1]; exact hR) (fun q hq => by rw [e1, ho q hq, e0]; exact h2 q hq) (fun o h => by
      rcases List.mem_append.mp h with h | h
      · exact h3 o h
      · exact hL o h) h4 (by rw [e1]; exact hce) hcv hcl T' rfl X'
    exact ⟨t2, go.trans a1, b1⟩
theorem y_cb (hC : yC X D z cc own nL dep) (cw : yCB own idx y bytes maxL ret As.length) (hdep : d2 + 1 ≤ dep) : CallB (yR X) (ys X) (yargs X) own idx y bytes maxL ret (.code y bytes maxL ret :: yT) (yRm d2 mc ms) mc ms As.length := by
  obtain ⟨hx, hb, hml, hown, hts, hG, hf, hl, -⟩ := hC
  obtain ⟨c1, c2, c3, c4, c5⟩ := cw
  refine callB_of As.length hts (yT_goodIn c2) rfl rfl rfl (hts _ c3) (hts _ c1) c4 ⟨?_, ?_⟩
  · show d2 + 1 ≤ _; omega
  · show 8 + (maxL + 11) + 64 * d2 ≤ _; omega
theorem y_pre (hC : yC X D z cc own nL dep) {H : Heap} {av : List Value} (h1 : yRep D z n sh I L H) (h2 : ∀ q : Nat, q < z → H[q]? = (ys X).heap[q]?) : ∀ U : State, U.heap = H → (ys X).WarmedH U.vm → yPc D z av n sh I L av.toArray U := fun U hU hW => ⟨rfl, by rw [hU]; exact h1, yG.moved hW (fun q hq => by rw [hU]; exact h2 q hq) (by rw [hU, h1.2.1]; exact h1.1) hC.2.2.2.2.2.1⟩
/-- invokevirtual of a method of ours -/
theorem y_callV (hC : yC X D z cc own nL dep) (hM : yM X.2.1 D z y bytes maxL ret d2 mc ms (.ref b :: As) n sh I L Qr Qx) (cw : yCV own idx ci y bytes maxL ret As.length) (hs : stk = ypush (.ref b :: As) st) (hb : (sh b).1 = ci) (hdep : d2 + 1 ≤ dep) (hst : (st.map fun v => v.category).sum ≤ 8) (hroom : k + mc ≤ (yR X).cells ∧ w + ms ≤ (yR X).slots) (hd : decode cc pc = .ok (.invokevirtual idx, 3))
    (kx : ∀ E n sh I L, Qx E n sh I L → YX X D z nL n sh I L (k + mc) (w + ms) Q pc lv st E)
    (kk : ∀ v n sh I L, Qr v n sh I L → Y X D z nL n sh I L (k + mc) (w + ms) Q (pc + 3) lv (v.toList ++ st)) : Y X D z nL n sh I L k w Q pc lv stk := by
  intro H locs ls h1 h2 h3 h4
  obtain ⟨cb, c1, c2, c3, T, c4⟩ := cw
  have hob := (h1.2.2 b (by rw [hb]; omega)).2.2.1 (by rw [hb]; exact c3)
  rw [hb] at hob
  obtain ⟨cell, q1, q2, q3, -⟩ := hob
  have hfc := (hC.2.2.2.2.2.1.1.1 ci _ c4).2.1
  refine y_run (a := (Value.ref b :: As).toArray) (vx_runV (own := own) (C := y.cls) (bytes := bytes) (maxL := maxL) (ret := ret) (n := As.length) (As := As) (b := b) (rest := st) ⟨hC.1, hC.2.1, hC.2.2.1, hC.2.2.2.1, hC.2.2.2.2.1⟩ (hM hC.2.2.2.2.2.2.2.2.2) ⟨y_cb hC cb hdep, hC.2.2.2.2.1 _ c1, hC.2.2.2.2.1 _ c2⟩ ⟨yPc_blind, ⟨cell, q1, by rw [q3]; rfl, by rw [q2]; exact hfc⟩, y_pre hC h1 h2⟩ rfl rfl h4.1 ?_ (lv_room hst) hd hroom) h2 h3 h4 kk kx
  rw [hs, ypush_eq]; simp
theorem y_callS (hC : yC X D z cc own nL dep) (hM : yM X.2.1 D z y bytes maxL ret d2 mc ms As n sh I L Qr Qx) (cw : yCS own idx y bytes maxL ret As.length) (hs : stk = ypush As st) (hdep : d2 + 1 ≤ dep) (hst : (st.map fun v => v.category).sum ≤ 8) (hroom : k + mc ≤ (yR X).cells ∧ w + ms ≤ (yR X).slots) (hd : decode cc pc = .ok (.invokestatic idx, 3))
    (kx : ∀ E n sh I L, Qx E n sh I L → YX X D z nL n sh I L (k + mc) (w + ms) Q pc lv st E)
    (kk : ∀ v n sh I L, Qr v n sh I L → Y X D z nL n sh I L (k + mc) (w + ms) Q (pc + 3) lv (v.toList ++ st)) : Y X D z nL n sh I L k w Q pc lv stk := by
  intro H locs ls h1 h2 h3 h4
  refine y_run (a := As.toArray) (vx_runS (own := own) (bytes := bytes) (maxL := maxL) (ret := ret) (n := As.length) (As := As) (rest := st) ⟨hC.1, hC.2.1, hC.2.2.1, hC.2.2.2.1, hC.2.2.2.2.1⟩ (hM hC.2.2.2.2.2.2.2.2.2) ⟨y_cb hC cw.1 hdep, hC.2.2.2.2.1 _ cw.2⟩ ⟨yPc_blind, y_pre hC h1 h2⟩ rfl rfl h4.1 ?_ (lv_room hst) hd hroom) h2 h3 h4 kk kx
  rw [hs, ypush_eq]
theorem y_callI (hC : yC X D z cc own nL dep) (hM : yM X.2.1 D z y bytes maxL none d2 mc ms (.ref b :: As) n sh I L Qr Qx) (cw : yCI own idx y bytes maxL As.length) (hs : stk = ypush (.ref b :: As) st) (hdep : d2 + 1 ≤ dep) (hst : (st.map fun v => v.category).sum ≤ 8) (hroom : k + mc ≤ (yR X).cells ∧ w + ms ≤ (yR X).slots) (hd : decode cc pc = .ok (.invokespecial idx, 3))
    (kx : ∀ E n sh I L, Qx E n sh I L → YX X D z nL n sh I L (k + mc) (w + ms) Q pc lv st E)
    (kk : ∀ v n sh I L, Qr v n sh I L → Y X D z nL n sh I L (k + mc) (w + ms) Q (pc + 3) lv (v.toList ++ st)) : Y X D z nL n sh I L k w Q pc lv stk := by
  intro H locs ls h1 h2 h3 h4
  refine y_run (a := (Value.ref b :: As).toArray) (vx_runI (own := own) (bytes := bytes) (maxL := maxL) (n := As.length) (As := As) (b := b) (rest := st) ⟨hC.1, hC.2.1, hC.2.2.1, hC.2.2.2.1, hC.2.2.2.2.1⟩ (hM hC.2.2.2.2.2.2.2.2.2) ⟨y_cb hC cw.1 hdep, cw.2.1, hC.2.2.2.2.1 _ cw.2.2⟩ ⟨yPc_blind, y_pre hC h1 h2⟩ rfl rfl h4.1 ?_ (lv_room hst) hd hroom) h2 h3 h4 kk kx
  rw [hs, ypush_eq]; simp
end Calls
end
